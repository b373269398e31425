/-! ===== G: walks over ONE fixed world: every cell of the class and of the reference lies in a list by its number ===== -/
abbrev g_I : Type := Nat → Int → Int
abbrev g_J : Type := Nat → Int
abbrev g_R : Type := Nat → Int → Option Nat
def g_up (I : g_I) (k : Nat) (i v : Int) : g_I := fun a j => if a = k ∧ j = i then v else I a j
def g_upJ (J : g_J) (k : Nat) (v : Int) : g_J := fun a => if a = k then v else J a
def g_upR (R : g_R) (k : Nat) (i : Int) (v : Option Nat) : g_R := fun a j => if a = k ∧ j = i then v else R a j
theorem g_up_s {I : g_I} {k : Nat} {i v : Int} : g_up I k i v k i = v := if_pos ⟨rfl, rfl⟩
theorem g_up_k {I : g_I} {k a : Nat} {i j v : Int} (h : a ≠ k) : g_up I k i v a j = I a j := if_neg (fun q => h q.1)
theorem g_up_i {I : g_I} {k a : Nat} {i j v : Int} (h : j ≠ i) : g_up I k i v a j = I a j := if_neg (fun q => h q.2)
/-- numbers as the machine has them -/
def gvI (x : Int) : Value := .int (Int32.ofInt x)
def gvL (x : Int) : Value := .long (Int64.ofInt x)
def g32 (x : Int) : Prop := -2147483648 ≤ x ∧ x < 2147483648
def g64 (x : Int) : Prop := -9223372036854775808 ≤ x ∧ x < 9223372036854775808
theorem g32_to {x : Int} (h : g32 x) : (Int32.ofInt x).toInt = x := Int32.toInt_ofInt_of_le h.1 h.2
theorem g64_to {x : Int} (h : g64 x) : (Int64.ofInt x).toInt = x := Int64.toInt_ofInt_of_le h.1 h.2
theorem g_eqI {x y : Int} (hx : g32 x) (hy : g32 y) : Int32.ofInt x = Int32.ofInt y ↔ x = y := by
  rw [← Int32.toInt_inj, g32_to hx, g32_to hy]
theorem g_ltI {x y : Int} (hx : g32 x) (hy : g32 y) : Int32.ofInt x < Int32.ofInt y ↔ x < y := by
  rw [Int32.lt_iff_toInt_lt, g32_to hx, g32_to hy]
theorem g_leI {x y : Int} (hx : g32 x) (hy : g32 y) : Int32.ofInt x ≤ Int32.ofInt y ↔ x ≤ y := by
  rw [Int32.le_iff_toInt_le, g32_to hx, g32_to hy]
theorem g_in {i : Int} {n : Nat} (h0 : 0 ≤ i) (h1 : i < (n : Int)) (hn : n < 2 ^ 31) : vp_in (Int32.ofInt i) n := by
  rw [vp_in_iff, g32_to (x := i) ⟨by omega, by omega⟩]
  exact ⟨h0, h1⟩
theorem g_cl {i : Int} (h : g32 i) : (Int32.ofInt i).toNatClampNeg = i.toNat := by
  show (Int32.ofInt i).toInt.toNat = _
  rw [g32_to h]
/-- the launch, the classes' tables, the arrays' classes, where the cells begin, where static arrays and texts lie -/
abbrev g_W : Type := Launch × va_G × (Nat → ClassId) × Nat × (Nat → Nat)
def gvr (w : g_W) (k : Nat) : Value := .ref (w.2.2.2.1 + k)
/-- kinds of the fields: 0 a number, 1 a long, 2 a reference -/
def g_kd : Nat → List Nat
  | 0 => [2, 2, 0, 1]
  | 1 => [2, 2, 2, 2, 2, 2, 0]
  | 2 => [2, 2, 2, 2, 0]
  | 3 => [2, 2, 2, 2, 2]
  | 4 => [0, 0, 2, 2, 2, 2, 2, 2, 2, 2, 2, 2, 2]
  | 5 => [2, 2, 2, 2, 2, 2]
  | 6 => [2, 2, 2, 2, 0, 0]
  | 7 => [2, 2, 2, 2]
  | 8 => [2, 0, 0, 0]
  | 9 => [2, 2, 0]
  | 10 => [2]
  | 11 => [2, 2, 2]
  | 12 => [2, 2, 2, 2, 2, 2, 2, 2, 2, 2, 0, 0, 0]
  | _ => [0, 2, 2, 2, 2, 2, 0, 0, 0, 0, 0, 0, 0, 0, 0, 2, 2, 0, 2, 2, 2, 2, 2, 0, 0, 2, 2, 2, 2, 0, 2, 2, 0, 2, 2, 2, 2, 2, 0, 2, 2, 0, 1, 2, 2, 0]
abbrev g_cls : List vw_C := [(RX0, TX0, 4), (RX1, TX1, 7), (RX2, TX2, 5), (RX3, TX3, 5), (RX4, TX4, 13), (RX5, TX5, 6), (RX6, TX6, 6), (RX7, TX7, 4), (RX8, TX8, 4), (RX9, TX9, 3), (RX10, TX10, 1), (RX11, TX11, 3), (RX12, TX12, 13), (RX13, TX13, 46)]
/-- types of arrays: 0 int, 1 byte, 2 boolean, 3 int[], 4 Life, 5 Taste -/
def g_ty (dA : Nat → ClassId) : List (ClassId × FieldType) := [(dA 0, .int), (dA 1, .byte), (dA 2, .boolean), (dA 3, .array .int), (dA 4, .object "OtherSelves$Life"), (dA 5, .object "OtherSelves$Taste"), (dA 6, .long)]
def g_fv (kind : Nat) (I : g_I) (J : g_J) (R : g_R) (k : Nat) (j : Nat) : Value := match kind with
  | 0 => gvI (I k (j : Int))
  | 1 => gvL (J k)
  | _ => va_rf (R k (j : Int))
def g_fs (ci : Nat) (I : g_I) (J : g_J) (R : g_R) (k : Nat) : List Value := (List.range (g_kd ci).length).map (fun j => g_fv ((g_kd ci).getD j 0) I J R k j)
/-- the 128 cells of a LIFE -/
def g_shL (o : Nat) : Nat ⊕ (Nat × Nat) :=
  if o = 0 then .inl 4 else if o = 1 then .inr (3, 12) else if o < 14 then .inr (0, 7) else if o = 14 then .inr (0, 12) else if o = 15 then .inr (3, 12) else if o < 28 then .inr (0, 6) else if o = 28 then .inr (3, 12) else if o < 41 then .inr (0, 6) else if o < 46 then .inr (0, 20) else if o = 46 then .inr (3, 80) else if o < 127 then .inr (0, 5) else .inr (0, 80)
def g_shT : List (Nat ⊕ (Nat × Nat)) := [.inr (5, 7), .inl 9, .inr (0, 256), .inr (0, 64), .inl 9, .inr (0, 256), .inr (0, 64), .inl 9, .inr (0, 256), .inr (0, 64), .inl 9, .inr (0, 256), .inr (0, 64), .inl 9, .inr (0, 256), .inr (0, 64), .inl 9, .inr (0, 256), .inr (0, 64), .inl 9, .inr (0, 256), .inr (0, 64), .inl 5, .inl 3, .inr (0, 5), .inl 3, .inr (0, 2), .inl 3, .inr (0, 5), .inr (0, 6), .inr (0, 6), .inl 10, .inl 7, .inl 6, .inr (0, 24), .inr (0, 24), .inr (0, 40), .inr (0, 40), .inr (0, 8)]
def g_shU : List (Nat ⊕ (Nat × Nat)) := [.inl 11, .inr (0, 12), .inr (0, 20), .inl 1, .inr (0, 12), .inr (0, 12), .inr (0, 6), .inr (3, 6), .inr (0, 12), .inr (0, 12), .inr (0, 12), .inr (0, 12), .inr (0, 12), .inr (0, 12), .inl 2, .inr (0, 12), .inr (0, 12), .inr (0, 12), .inl 0, .inr (0, 60), .inl 13, .inr (1, 240), .inr (1, 1440), .inr (0, 6), .inr (0, 128), .inr (0, 336), .inr (0, 360), .inr (0, 1728), .inr (0, 4), .inr (0, 4), .inr (2, 72), .inr (0, 4), .inr (0, 6), .inr (0, 6), .inr (2, 2880), .inr (0, 160), .inr (0, 12), .inr (0, 12), .inr (0, 12), .inr (0, 12), .inr (0, 12), .inr (2, 72), .inr (0, 60), .inr (2, 72), .inr (0, 4), .inr (6, 1)]
/-- all cells -/
def g_n : Nat := 729
/-- the cells by their numbers: an object of a class, an array of a type and a length -/
def g_sh (k : Nat) : Nat ⊕ (Nat × Nat) :=
  if k < 4 then (if k = 0 then .inl 12 else if k = 1 then .inl 8 else if k = 2 then .inr (0, 240) else .inr (4, 4))
  else if k < 516 then g_shL ((k - 4) % 128)
  else if k < 555 then g_shT.getD (k - 516) (.inr (9, 0))
  else if k < 683 then g_shL (k - 555)
  else g_shU.getD (k - 683) (.inr (9, 0))
def g_E (dA : Nat → ClassId) (I : g_I) (J : g_J) (R : g_R) (k : Nat) : va_E := match g_sh k with
  | .inl ci => .inr (ci, g_fs ci I J R k)
  | .inr (t, len) => if t < 3 then .inl (dA t, len, .inl (fun j => Int32.ofInt (I k (j : Int)))) else if t < 6 then .inl (dA t, len, .inr (.inr (.inr (.inr (fun j => R k (j : Int)))))) else .inl (dA t, len, .inr (.inl (fun _ => Int64.ofInt (J k))))
def g_ws (w : g_W) (n : Nat) (I : g_I) (J : g_J) (R : g_R) : va_W := (List.range n).map (fun k => (w.2.2.2.1 + k, g_E w.2.2.1 I J R k))
theorem g_ws_at {w : g_W} {n k : Nat} {I : g_I} {J : g_J} {R : g_R} (h : k < n) : (g_ws w n I J R)[k]? = some (w.2.2.2.1 + k, g_E w.2.2.1 I J R k) := by
  simp [g_ws, h]
def g_A (w : g_W) : Nat → Prop := fun q => w.2.2.2.1 ≤ q
theorem g_D {w : g_W} {n : Nat} {I : g_I} {J : g_J} {R : g_R} : va_D (g_A w) (g_ws w n I J R) := by
  have key : ∀ (k : Nat) (q : Nat × va_E), (g_ws w n I J R)[k]? = some q → q.1 = w.2.2.2.1 + k := by
    intro k q h
    have hl : k < n := by
      have := (List.getElem?_eq_some_iff.mp h).1
      simpa [g_ws] using this
    rw [g_ws_at hl] at h
    cases h
    rfl
  refine ⟨fun i j p q hi hj e => ?_, fun k q hk => ?_⟩
  · have h1 := key i p hi
    have h2 := key j q hj
    omega
  · have h1 := key k q hk
    show w.2.2.2.1 ≤ q.1
    omega
abbrev g_at (n k : Nat) (s : Nat ⊕ (Nat × Nat)) : Prop := k < n ∧ g_sh k = s
theorem g_at_o {w : g_W} {n k ci : Nat} {I : g_I} {J : g_J} {R : g_R} (h : g_at n k (.inl ci)) : (g_ws w n I J R)[k]? = some (w.2.2.2.1 + k, .inr (ci, g_fs ci I J R k)) := by
  rw [g_ws_at h.1]
  simp [g_E, h.2]
theorem g_at_i {w : g_W} {n k t len : Nat} {I : g_I} {J : g_J} {R : g_R} (h : g_at n k (.inr (t, len))) (ht : t < 3) : (g_ws w n I J R)[k]? = some (w.2.2.2.1 + k, .inl (w.2.2.1 t, len, .inl (fun j => Int32.ofInt (I k (j : Int))))) := by
  rw [g_ws_at h.1]
  simp [g_E, h.2, ht]
theorem g_at_r {w : g_W} {n k t len : Nat} {I : g_I} {J : g_J} {R : g_R} (h : g_at n k (.inr (t, len))) (ht : ¬ t < 3) (h6 : t < 6) : (g_ws w n I J R)[k]? = some (w.2.2.2.1 + k, .inl (w.2.2.1 t, len, .inr (.inr (.inr (.inr (fun j => R k (j : Int))))))) := by
  rw [g_ws_at h.1]
  simp [g_E, h.2, ht, h6]
theorem g_at_l {w : g_W} {n k len : Nat} {I : g_I} {J : g_J} {R : g_R} (h : g_at n k (.inr (6, len))) : (g_ws w n I J R)[k]? = some (w.2.2.2.1 + k, .inl (w.2.2.1 6, len, .inr (.inl (fun _ => Int64.ofInt (J k))))) := by
  rw [g_ws_at h.1]
  simp [g_E, h.2]
theorem g_ws_set {w : g_W} {n k : Nat} {I I' : g_I} {J J' : g_J} {R R' : g_R} (h : k < n) {e : va_E} (he : g_E w.2.2.1 I' J' R' k = e) (ho : ∀ a, a ≠ k → g_E w.2.2.1 I' J' R' a = g_E w.2.2.1 I J R a) : (g_ws w n I J R).set k (w.2.2.2.1 + k, e) = g_ws w n I' J' R' := by
  apply List.ext_getElem?
  intro a
  by_cases hl : a < n
  · by_cases ha : a = k
    · subst ha
      rw [List.getElem?_set_self (by simp [g_ws, h]), g_ws_at hl, he]
    · rw [List.getElem?_set_ne (Ne.symm ha), g_ws_at hl, g_ws_at hl, ho a ha]
  · rw [List.getElem?_eq_none (by simp [g_ws]; omega), List.getElem?_eq_none (by simp [g_ws]; omega)]
theorem g_fs_at {ci : Nat} {I : g_I} {J : g_J} {R : g_R} {k j kind : Nat} (hk : (g_kd ci)[j]? = some kind) : (g_fs ci I J R k)[j]? = some (g_fv kind I J R k j) := by
  have hl : j < (g_kd ci).length := (List.getElem?_eq_some_iff.mp hk).1
  have h2 : (g_kd ci)[j] = kind := (List.getElem?_eq_some_iff.mp hk).2
  simp [g_fs, hl, h2]
theorem g_fs_set {ci : Nat} {I I' : g_I} {J J' : g_J} {R R' : g_R} {k j kind : Nat} {v : Value} (hk : (g_kd ci)[j]? = some kind) (hv : g_fv kind I' J' R' k j = v) (ho : ∀ i kd, i ≠ j → (g_kd ci)[i]? = some kd → g_fv kd I' J' R' k i = g_fv kd I J R k i) : (g_fs ci I J R k).set j v = g_fs ci I' J' R' k := by
  have hl : j < (g_kd ci).length := (List.getElem?_eq_some_iff.mp hk).1
  apply List.ext_getElem?
  intro i
  by_cases h : i < (g_kd ci).length
  · have hi : (g_kd ci)[i]? = some (g_kd ci)[i] := List.getElem?_eq_getElem h
    by_cases e : i = j
    · subst e
      rw [List.getElem?_set_self (by simp [g_fs, hl]), g_fs_at hk, hv]
    · rw [List.getElem?_set_ne (Ne.symm e), g_fs_at hi, g_fs_at hi, ho i _ e hi]
  · rw [List.getElem?_eq_none (by simp [g_fs]; omega), List.getElem?_eq_none (by simp [g_fs]; omega)]
/-- the static arrays: name, contents; their places are w's 0 .. 8 -/
def g_sar : List (String × List Int) := [("LEAF_LEAST", [0, 0, 1, 0, 0]), ("LEAF_MOST", [99, 99, 99, 1, 9]), ("LEAF_USUAL", [10, 50, 40, 0, 5]), ("FORK_LEAST", [1, 0]), ("FORK_MOST", [99, 1]), ("FORK_USUAL", [20, 0]), ("BRANCH_LEAST", [1, 0, 0, 0, 0]), ("BRANCH_MOST", [9, 99, 99, 99, 9]), ("BRANCH_USUAL", [1, 0, 0, 0, -1])]
/-- the texts: their places are w's 100 + i, their bytes' 200 + i -/
def g_byt : List (List Int32) := [[103, 106, 121, 100, 116], [121, 107], [119, 103, 106, 111, 120], [103, 106, 111, 121, 100, 116, 98, 119], [110, 111, 32, 115, 117, 99, 104, 32, 115, 101, 108, 102], [48, 48, 49, 48, 48], [104, 104, 104, 49, 57], [49, 48], [104, 49], [121], [49, 48, 48, 48, 48], [57, 104, 104, 104, 57]]
def g_len : List Nat := [5, 2, 5, 8, 12, 5, 5, 2, 2, 1, 5, 5]
/-- where texts are named: class, place in its constant pool, text, which -/
def g_str : List (String × Nat × String × Nat) := [("OtherSelves$LifeReader", 11, "gjydt", 0), ("OtherSelves$LifeReader", 32, "yk", 1), ("OtherSelves$LifeReader", 46, "wgjox", 2), ("OtherSelves$TasteReader", 83, "gjoydtbw", 3), ("OtherSelves", 131, "no such self", 4), ("OtherSelvesModel", 239, "gjydt", 0), ("OtherSelvesModel", 241, "00100", 5), ("OtherSelvesModel", 243, "hhh19", 6), ("OtherSelvesModel", 252, "yk", 1), ("OtherSelvesModel", 254, "10", 7), ("OtherSelvesModel", 256, "h1", 8), ("OtherSelvesModel", 26, "y", 9), ("OtherSelvesModel", 266, "wgjox", 2), ("OtherSelvesModel", 268, "10000", 10), ("OtherSelvesModel", 270, "9hhh9", 11), ("OtherSelvesModel", 32, "gjoydtbw", 3)]
/-- what lies ahead of the cells and is never written -/
def g_sta (w : g_W) (U : State) : Prop := (∀ i q, g_sar[i]? = some q → va_Z "OtherSelves$LifeReader" q.1 "[I" (.ref (w.2.2.2.2 i)) (g_A w) U U.heap ∧ va_T .int (w.2.2.2.2 i) q.2.length (fun j => gvI (q.2.getD j 0)) (g_A w) U U.heap) ∧
  vk_S 12 g_len g_byt (fun i => w.2.2.2.2 (100 + i)) (fun i => w.2.2.2.2 (200 + i)) (g_A w) U U.heap ∧ (∀ q ∈ g_str, vk_R q.1 q.2.1 q.2.2.1 (w.2.2.2.2 (100 + q.2.2.2)) U) ∧ va_Z "java/lang/String" "COMPACT_STRINGS" "Z" (.int 1) (g_A w) U U.heap ∧ va_Zq "jdk/internal/util/Preconditions" "SIOOBE_FORMATTER" "Ljava/util/function/BiFunction;" (g_A w) U U.heap ∧ vx_Zq Bundle.tN "UNASSIGNED_STACK" Bundle.steD (g_A w) U U.heap ∧ vx_Zq Bundle.tN "SUPPRESSED_SENTINEL" Bundle.listD (g_A w) U U.heap
theorem g_sta_same {w : g_W} {u U : State} (hv : U.vm = u.vm) (hh : U.heap = u.heap) (h : g_sta w u) : g_sta w U := by
  obtain ⟨h1, h2, h3, h4, h5, h6, h7⟩ := h
  have ha : u.vm.Alike U.vm := by rw [hv]; exact Vm.Alike.refl _
  refine ⟨fun i q hq => ?_, ?_, fun q hq => vk_R.same hv (h3 q hq), ?_, ?_, ?_, ?_⟩
  · rw [hh]; exact ⟨va_Z.moved ha (h1 i q hq).1, va_T.moved ha (h1 i q hq).2⟩
  · rw [hh]; exact vk_S.moved ha h2
  · rw [hh]; exact va_Z.moved ha h4
  · rw [hh]; exact va_Zq.moved ha h5
  · rw [hh]; exact vx_Zq.moved ha h6
  · rw [hh]; exact vx_Zq.moved ha h7
theorem g_sta_warm {w : g_W} {u U : State} (hW : u.WarmedH U.vm) (hq : ∀ a : Nat, a < u.heap.size → ¬ g_A w a → U.heap[a]? = u.heap[a]?) (h : g_sta w u) : g_sta w U := by
  obtain ⟨h1, h2, h3, h4, h5, h6, h7⟩ := h
  have ha := hW.alike
  exact ⟨fun i q hi => ⟨(va_Z.moved ha (h1 i q hi).1).kept hq, (va_T.moved ha (h1 i q hi).2).kept hq⟩, (vk_S.moved ha h2).kept hq, fun q hi => vk_R.warm hW (h3 q hi), (va_Z.moved ha h4).kept hq, (va_Zq.moved ha h5).kept hq, (vx_Zq.moved ha h6).kept hq, (vx_Zq.moved ha h7).kept hq⟩
/-- the world of a state -/
def g_wd (w : g_W) (n : Nat) (I : g_I) (J : g_J) (R : g_R) (U : State) : Prop := va_P w.2.1 g_cls (g_ws w n I J R) U.heap ∧ va_K w.2.1 g_cls (g_ty w.2.2.1) U ∧ g_sta w U
abbrev g_P : Type := Option Value → Nat → g_I → g_J → g_R → Prop
/-- a method's end -/
def g_Q (w : g_W) (P : g_P) : Array Value → State → Outcome → State → Prop := fun _ st oc t => (∃ v n I J R, oc = .returned v ∧ P v n I J R ∧ va_P w.2.1 g_cls (g_ws w n I J R) t.heap) ∧ va_F (g_A w) st t
/-- a method's contract: from the world I J R at these arguments it comes to an end that P tells; d bounds how deep it calls; mc cells of ms slots are made -/
def g_Met (w : g_W) (n : Nat) (I : g_I) (J : g_J) (R : g_R) (y : MethodName) (b : ByteArray) (mx : Nat) (ret : Option FieldType) (d mc ms : Nat) (as : List Value) (P : g_P) : Prop :=
  Met w.1 y (.code y b mx ret :: g_tb) { frames := d, cells := mc, slots := ms, locals := 40 * d } (va_Pc as (g_wd w n I J R)) (g_Q w P) mc ms (g_A w)
/-- what stands while a method runs -/
abbrev g_C : Type := Program × Env × Room × State × MethodId × Array Value × List Frame × Method × Code × Nat × Nat
def g_OK (w : g_W) (x : g_C) (cc : ByteArray) (nL : Nat) (ret : Option FieldType) (own : String) (d : Nat) : Prop := match x with
  | (p, _, Rm, s, m, args, _, meth, c, mc, ms) => p.tables.exec = Jvm.exec ∧ c.code = cc ∧ c.maxLocals = nL ∧ meth.sig.returnType = ret ∧ s.vm.findClass own = some m.cls ∧ (∀ q ∈ g_tb, q.before args s = true) ∧ va_K w.2.1 g_cls (g_ty w.2.2.1) s ∧ g_sta w s ∧ meth.locks = false ∧ w.2.2.2.1 ≤ s.heap.size ∧ Rm = { frames := d, cells := mc, slots := ms, locals := 40 * d }
/-- the locals, by their places -/
def g_lh (ls : Array Slot) (L : List (Option Value)) : Prop := ls.size = L.length ∧ lv_wf ls ∧ ∀ (i : Nat) (v : Value), L[i]? = some (some v) → ls[i]? = some (Slot.val v)
def g_ll (L : List (Option Value)) : List (Nat × Value) := (List.range L.length).filterMap (fun i => (L.getD i none).map (fun v => (i, v)))
theorem g_ll_in {L : List (Option Value)} {q : Nat × Value} : q ∈ g_ll L ↔ L[q.1]? = some (some q.2) := by
  obtain ⟨i, v⟩ := q
  simp only [g_ll, List.mem_filterMap, List.mem_range, Option.map_eq_some_iff, List.getD_eq_getElem?_getD]
  constructor
  · rintro ⟨j, hj, a, ha, he⟩
    cases he
    cases h : L[i]? with
    | none => rw [h] at ha; cases ha
    | some o => rw [h] at ha; simp at ha; rw [ha]
  · intro h
    exact ⟨i, (List.getElem?_eq_some_iff.mp h).1, v, by rw [h]; rfl, rfl⟩
theorem g_lh_has {ls : Array Slot} {L : List (Option Value)} : g_lh ls L ↔ lv_has ls L.length (g_ll L) :=
  ⟨fun h => ⟨h.1, h.2.1, fun q hq => h.2.2 q.1 q.2 (g_ll_in.mp hq)⟩, fun h => ⟨h.1, h.2.1, fun i v hv => h.2.2 (i, v) (g_ll_in.mpr hv)⟩⟩
/-- fewer locals told -/
theorem g_lh_sub {ls : Array Slot} {L L' : List (Option Value)} (h : g_lh ls L) (hn : L'.length = L.length) (hs : ∀ (i : Nat) (v : Value), L'[i]? = some (some v) → L[i]? = some (some v)) : g_lh ls L' := ⟨h.1.trans hn.symm, h.2.1, fun i v hv => h.2.2 i v (hs i v hv)⟩
/-- the machine at pc in the world I J R -/
def G (w : g_W) (x : g_C) (P : g_P) (u v n : Nat) (I : g_I) (J : g_J) (R : g_R) (pc : Nat) (L : List (Option Value)) (st : List Value) : Prop := match x with
  | (p, e, Rm, s, m, args, below, meth, c, mc, ms) => ∀ (H : Heap) (locs : List Loc) (ls : Array Slot), va_P w.2.1 g_cls (g_ws w n I J R) H → va_S (g_A w) s.heap H locs → g_lh ls L → W p w.1 e Rm s m args below meth c H locs u v (MQ below (g_Q w P) args s mc ms (g_A w)) (F0 m pc ls st)
/-- a contract out of the walk of its body -/
theorem g_intro {w : g_W} {n : Nat} {I : g_I} {J : g_J} {R : g_R} {y : MethodName} {b : ByteArray} {mx : Nat} {ret : Option FieldType} {d mc ms : Nat} {as : List Value} {P : g_P} {own : String} (L0 : List (Option Value)) (hy : plainName y.cls = true) (ho : y.cls = own) (hn : 0 < n) (hl : (lg_sl as).length ≤ mx) (hL : L0.length = mx) (hs : ∀ (i : Nat) (v : Value), L0[i]? = some (some v) → (i, v) ∈ lv_args 0 as)
    (body : ∀ x : g_C, g_OK w x b mx ret own d → x.2.2.2.2.2.2.2.2.2.1 = mc ∧ x.2.2.2.2.2.2.2.2.2.2 = ms → G w x P 0 0 n I J R 0 L0 []) : g_Met w n I J R y b mx ret d mc ms as P := by
  refine Met.ofW (cc := b) (maxL := mx) (ret := ret) hy rfl ?_
  intro p e s m args below meth c s₁ B hml hv
  obtain ⟨rfl, hP, hK, hsta⟩ := hv
  have hts := atoms_spec (ws := .code y b mx ret :: g_tb) B.pre
  have hown : s.vm.findClass own = some m.cls := by rw [← ho]; exact findClass_of_methodNamed B.named
  have hsz : w.2.2.2.1 ≤ s.heap.size := by
    have h1 := (hP 0 _ (g_ws_at hn)).lt
    dsimp only at h1
    omega
  rw [lg_entry_eq]
  have hl := lv_entry as (n := mx) hl
  exact body (p, e, _, s, m, as.toArray, below, meth, c, mc, ms) ⟨B.exec, B.bytes, hml, B.returns, hown, fun q h => hts q (List.mem_cons_of_mem _ h), hK, hsta, B.notSynchronized, hsz, rfl⟩ ⟨rfl, rfl⟩ s.heap [] _ hP va_S.rf ⟨hl.1.trans hL.symm, hl.2.1, fun i v hv => hl.2.2 (i, v) (hs i v hv)⟩
