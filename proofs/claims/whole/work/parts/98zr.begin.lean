/-! ===== the start: what the Statement gives ===== -/
def R_law : String := "OtherSelvesLaw"
def lw_P (b : Addr) (xs : List Int32) (args : Array Value) (s : State) : Prop := args = #[.ref b] ∧ s.IntsAt b xs ∧ xs.length ≤ 3072 ∧ (Jvm.Cond.and given_1 narrow_1).before args s = true
def lw_Q (_ : Array Value) (s : State) (o : Outcome) (t : State) : Prop := o = .returned (some (.int 1)) ∧ Framed s o t [] 601024 7293033
def lw_Z (below : List Frame) (a : Array Value) (s : State) : State → Prop := fun t => ∃ o, t.status = .running ∧ Ended t below o ∧ lw_Q a s o t
/-- the law's end, in any room -/
theorem gs_ret {p : Program} {l : Launch} {e : Env} {s : State} {m : MethodId} {below : List Frame} {meth : Method} {c : Code} {b : Nat} {Rm : Room} (hx : p.tables.exec = Jvm.exec) (hb : c.code = code) (hr : meth.sig.returnType = ret) (hlocks : meth.locks = false) {pc : Nat} {H : Heap} {ls : Array Slot} (hdg : decode code pc = .ok (.ireturn, 1)) : W p l e Rm s m #[Value.ref b] below meth c H [] 601024 7293033 (lw_Z below #[Value.ref b] s) (F0 m pc ls [.int 1]) := by
  intro T hT X
  obtain ⟨fs, hret, hrun, hended, hW, hframe⟩ := X.leave (v := some (.int 1)) (hlocks := hlocks) (fun h => by rw [hr] at h; cases h)
  have hmeth' : T.vm.method? m = some meth := X.method'
  refine ⟨T.setFrames fs, ?_, .returned (some (.int 1)), hrun, hended, rfl, ⟨_, rfl⟩, hW, hframe⟩
  jvm_step X.here [X.here.top, hx, hb, hdg, hmeth', hr, ret, narrow_b1]
  (try refine ⟨rfl, ?_⟩); (try refine ⟨rfl, ?_⟩)
  first | (intro acts; rw [hret _ acts rfl rfl rfl]) | rw [hret _ _ rfl rfl rfl]
  exact Steps.refl _
/-- what holds at the law's entry: the machine, the code, the tables' words (any of lw_tbl by 'hts w (by decide +kernel)'), the script of L ints xs at the cell b, what the Statement gives of the start (any of its parts by flat_of_before) -/
def lw_At (p : Program) (s : State) (m : MethodId) (meth : Method) (c : Code) (b L : Nat) (xs : Nat → Int32) : Prop :=
  p.tables.exec = Jvm.exec ∧ c.code = code ∧ meth.sig.returnType = ret ∧ c.maxLocals = 7 ∧ s.vm.findClass R_law = some m.cls ∧ (∀ w ∈ lw_tbl, w.before #[Value.ref b] s = true) ∧ va_X b L xs s s.heap ∧ b < s.heap.size ∧ meth.locks = false ∧ (Jvm.Cond.and given_1 narrow_1).before #[Value.ref b] s = true
theorem gs_room {p : Program} {l : Launch} {e : Env} {R R' : Room} {s : State} {m : MethodId} {args : Array Value} {below : List Frame} {meth : Method} {c : Code} {H : Heap} {locs : List Loc} {cells slots : Nat} {Q : State → Prop} {g : JFrame} (hf : R'.frames ≤ R.frames) (hl : R'.locals ≤ R.locals) (hc : R'.cells ≤ R.cells) (hs : R'.slots ≤ R.slots) (k : W p l e R' s m args below meth c H locs cells slots Q g) : W p l e R s m args below meth c H locs cells slots Q g := by
  intro T hT X
  refine k T hT ⟨X.admits, X.cas, X.clock, X.frames, ?_, X.hears, X.method, X.code, X.here, X.tail, X.warmed, X.limits, X.bytes, X.same⟩
  have h := X.room
  simp only [State.hasRoom, Bool.and_eq_true, decide_eq_true_eq] at h ⊢
  obtain ⟨⟨⟨⟨h1, h2, h3, h4, h5, h6⟩, h7⟩, h8⟩, h9⟩ := h
  exact ⟨⟨⟨⟨by omega, by omega, by omega, by omega, by omega, h6⟩, by omega⟩, by omega⟩, h9⟩
theorem gs_inst : ∀ (ci : Nat) (q : vw_C), g_cls[ci]? = some q → Cond.instantiable q.1 q.2.2 ∈ g_tb := by
  intro ci q hq
  match ci, hq with
  | 0, hq => cases hq; exact ii_X0
  | 1, hq => cases hq; exact ii_X1
  | 2, hq => cases hq; exact ii_X2
  | 3, hq => cases hq; exact ii_X3
  | 4, hq => cases hq; exact ii_X4
  | 5, hq => cases hq; exact ii_X5
  | 6, hq => cases hq; exact ii_X6
  | 7, hq => cases hq; exact ii_X7
  | 8, hq => cases hq; exact ii_X8
  | 9, hq => cases hq; exact ii_X9
  | 10, hq => cases hq; exact ii_X10
  | 11, hq => cases hq; exact ii_X11
  | 12, hq => cases hq; exact ii_X12
  | 13, hq => cases hq; exact ii_X13
  | k + 14, hq => simp [g_cls] at hq
theorem gs_prim {args : Array Value} {s : State} {ty : FieldType} (hts : ∀ q ∈ g_tb, q.before args s = true) (h : Cond.arrayClass ty ∈ g_tb) (hp : ∀ C, ty ≠ .object C) : ∃ cA : ClassId, ArrOfT s cA ty ∧ va_RA s cA ty := by
  obtain ⟨cA, kA, comp, h1, h2, h3⟩ := Cond.arrayClass_spec (hts _ h)
  refine ⟨cA, fun n z => ⟨(fun k h => by cases h), kA, h2, comp, h3⟩, ?_⟩
  cases ty <;> first | exact h1 | exact absurd rfl (hp _)
theorem gs_obj {C : String} {s : State} (h : va_AO C s) : ∃ cA : ClassId, ArrOfT s cA (.object C) ∧ va_RA s cA (.object C) := by
  obtain ⟨comp, c, k, h1, h2, h3, h4, h5⟩ := Cond.arrayOver_spec h
  exact ⟨c, fun n z => ⟨(fun k h => by cases h), k, h3, comp, h4⟩, k, comp, h3, h4, h1, h5⟩
theorem gs_arrA {s : State} (h : va_AOA .int s) : ∃ cA : ClassId, ArrOfT s cA (.array .int) ∧ va_RA s cA (.array .int) := by
  obtain ⟨comp, c, k, h1, h2, h3, h4, h5⟩ := arrayOverA_spec h
  exact ⟨c, fun n z => ⟨(fun k h => by cases h), k, h3, comp, h4⟩, h5⟩
theorem gs_K {args : Array Value} {s : State} (hts : ∀ q ∈ g_tb, q.before args s = true) (hok : gz_ok s) : ∃ (D : va_G) (dA : Nat → ClassId), va_K D g_cls (g_ty dA) s := by
  have h : ∀ c : Nat, ∃ z : ClassId × (Nat → Nat), ∀ q, g_cls[c]? = some q → u_Kn s q.1 q.2.1 q.2.2 z.1 z.2 := by
    intro c
    cases hc : g_cls[c]? with
    | none => exact ⟨(0, fun _ => 0), fun q h => by cases h⟩
    | some q =>
      obtain ⟨cC, iS, h⟩ := u_known hts (g_cw c q hc) (hts _ (gs_inst c q hc))
      exact ⟨(cC, iS), fun q' h' => by cases h'; exact h⟩
  obtain ⟨f, hf⟩ := Classical.axiomOfChoice h
  obtain ⟨a0, k0⟩ := gs_prim hts ac_int (fun C h => by cases h)
  obtain ⟨a1, k1⟩ := gs_prim hts ac_byte (fun C h => by cases h)
  obtain ⟨a2, k2⟩ := gs_prim hts ac_boolean (fun C h => by cases h)
  obtain ⟨a3, k3⟩ := gs_arrA hok.1.2.2
  obtain ⟨a4, k4⟩ := gs_obj hok.1.1
  obtain ⟨a5, k5⟩ := gs_obj hok.1.2.1
  obtain ⟨a6, k6⟩ := gs_prim hts ac_long (fun C h => by cases h)
  refine ⟨(fun c => (f c).1, fun c => (f c).2), fun t => [a0, a1, a2, a3, a4, a5, a6].getD t 0, fun c q hq => hf c q hq, fun k q hq => ?_⟩
  match k, hq with
  | 0, hq => cases hq; exact k0
  | 1, hq => cases hq; exact k1
  | 2, hq => cases hq; exact k2
  | 3, hq => cases hq; exact k3
  | 4, hq => cases hq; exact k4
  | 5, hq => cases hq; exact k5
  | 6, hq => cases hq; exact k6
  | k + 7, hq => simp [g_ty] at hq
/-- what the Statement says of the static arrays, by its places -/
abbrev gs_flat : List Cond := flatC (Jvm.Cond.and given_1 narrow_1)
def gs_ap : List Nat := [4, 12, 20, 28, 33, 38, 43, 51, 59]
def gs_lp : List Nat := [292, 294, 296, 321, 323, 325, 328, 330, 332]
abbrev gs_sn (i : Nat) : Term := .static "OtherSelves$LifeReader" (g_sar.getD i ("", [])).1 "[I"
theorem gs_a1 : ∀ i : Fin 9, gs_flat[gs_ap.getD i.val 0 + 1]? = some (Cond.arrayOf (gs_sn i.val) .int) := by decide +kernel
theorem gs_a2 : ∀ i : Fin 9, gs_flat[gs_ap.getD i.val 0 + 2]? = some (Cond.eq (.length (gs_sn i.val)) (.int (Int32.ofNat (g_sar.getD i.val ("", [])).2.length))) := by decide +kernel
theorem gs_a3 : ∀ (i : Fin 9) (j : Fin 5), j.val < (g_sar.getD i.val ("", [])).2.length → gs_flat[gs_ap.getD i.val 0 + 3 + j.val]? = some (Cond.eq (.elem (gs_sn i.val) (.int (Int32.ofNat j.val))) (.int (Int32.ofInt ((g_sar.getD i.val ("", [])).2.getD j.val 0)))) := by decide +kernel
theorem gs_a4 : ∀ i : Fin 9, lw_tbl[gs_lp.getD i.val 0]? = some (Cond.laysStatic "OtherSelves$LifeReader" (g_sar.getD i.val ("", [])).1 "[I") := by decide +kernel
theorem gs_a5 : ∀ i : Fin 9, (g_sar.getD i.val ("", [])).2.length ≤ 5 ∧ g_sar[i.val]? = some (g_sar.getD i.val ("", [])) := by decide +kernel
theorem gs_arr {args : Array Value} {s : State} {A : Nat → Prop} (hs : ∀ c ∈ gs_flat, c.before args s = true) (hts : ∀ w ∈ lw_tbl, w.before args s = true) (hA : ∀ a : Nat, a < s.heap.size → ¬ A a) : ∃ f : Nat → Nat, ∀ i q, g_sar[i]? = some q → va_Z "OtherSelves$LifeReader" q.1 "[I" (.ref (f i)) A s s.heap ∧ va_T .int (f i) q.2.length (fun j => gvI (q.2.getD j 0)) A s s.heap := by
  have h0 : ∀ i : Nat, ∃ t : Nat, ∀ q, g_sar[i]? = some q → va_Z "OtherSelves$LifeReader" q.1 "[I" (.ref t) A s s.heap ∧ va_T .int t q.2.length (fun j => gvI (q.2.getD j 0)) A s s.heap := by
    intro i
    by_cases hi : i < 9
    · have h5 := (gs_a5 ⟨i, hi⟩).1
      have hq : g_sar[i]? = some (g_sar.getD i ("", [])) := (gs_a5 ⟨i, hi⟩).2
      obtain ⟨t, ht, hT⟩ := va_Tof (args := args) (s := s) (tm := gs_sn i) (ty := .int) (N := (g_sar.getD i ("", [])).2.length) (f := fun j => gvI ((g_sar.getD i ("", [])).2.getD j 0)) (A := A) (Nat.lt_of_le_of_lt h5 (by decide)) (hs _ (List.mem_of_getElem? (gs_a1 ⟨i, hi⟩))) (va_eqt (hs _ (List.mem_of_getElem? (gs_a2 ⟨i, hi⟩)))) (fun j hj => va_eqt (hs _ (List.mem_of_getElem? (gs_a3 ⟨i, hi⟩ ⟨j, Nat.lt_of_lt_of_le hj h5⟩ hj)))) hA
      refine ⟨t, fun q h => ?_⟩
      rw [hq] at h
      cases h
      exact ⟨va_Zref (hts _ (List.mem_of_getElem? (gs_a4 ⟨i, hi⟩))) (hts _ (List.mem_of_getElem? (i := 110) (by decide +kernel))) ht hA, hT⟩
    · exact ⟨0, fun q h => by rw [List.getElem?_eq_none (Nat.le_of_not_lt hi)] at h; cases h⟩
  exact Classical.axiomOfChoice h0
/-- .. of the texts -/
def gs_tm : List Term := [.string "OtherSelves$LifeReader" 11, .string "OtherSelves$LifeReader" 32, .string "OtherSelves$LifeReader" 46, .string "OtherSelves$TasteReader" 83, .string "OtherSelves" 131, .string "OtherSelvesModel" 241, .string "OtherSelvesModel" 243, .string "OtherSelvesModel" 254, .string "OtherSelvesModel" 256, .string "OtherSelvesModel" 26, .string "OtherSelvesModel" 268, .string "OtherSelvesModel" 270]
abbrev gs_t (i : Nat) : Term := gs_tm.getD i (.int 0)
def gs_tp : List Nat := [120, 129, 136, 147, 162, 226, 243, 277, 294, 182, 334, 357]
def gs_np : List (List Nat) := [[0, 135, 145, 159, 178, 235, 252, 283, 300, 187, 343, 366], [0, 0, 146, 160, 179, 236, 253, 284, 301, 188, 344, 367], [0, 0, 0, 161, 180, 237, 254, 285, 302, 189, 345, 368], [0, 0, 0, 0, 181, 238, 255, 286, 303, 190, 346, 369], [0, 0, 0, 0, 0, 239, 256, 287, 304, 191, 347, 370], [0, 0, 0, 0, 0, 0, 260, 291, 308, 0, 351, 374], [0, 0, 0, 0, 0, 0, 0, 292, 309, 0, 352, 375], [0, 0, 0, 0, 0, 0, 0, 0, 311, 0, 354, 377], [0, 0, 0, 0, 0, 0, 0, 0, 0, 0, 355, 378], [0, 0, 0, 0, 0, 240, 257, 288, 305, 0, 348, 371], [0, 0, 0, 0, 0, 0, 0, 0, 0, 0, 0, 380], [0, 0, 0, 0, 0, 0, 0, 0, 0, 0, 0, 0]]
theorem gs_t1 : ∀ i : Fin 12, gs_flat[gs_tp.getD i.val 0]? = some (Cond.exactly (gs_t i.val) "java/lang/String") := by decide +kernel
theorem gs_t2 : ∀ i : Fin 12, gs_flat[gs_tp.getD i.val 0 + 1]? = some (Cond.eq (.field (gs_t i.val) "java/lang/String" "coder" "B") (.int 0)) := by decide +kernel
theorem gs_t3 : ∀ i : Fin 12, gs_flat[gs_tp.getD i.val 0 + 2]? = some (Cond.arrayOf (.field (gs_t i.val) "java/lang/String" "value" "[B") .byte) := by decide +kernel
theorem gs_t4 : ∀ i : Fin 12, gs_flat[gs_tp.getD i.val 0 + 3]? = some (Cond.eq (.length (.field (gs_t i.val) "java/lang/String" "value" "[B")) (.int (Int32.ofNat (g_len.getD i.val 0)))) := by decide +kernel
theorem gs_t5 : ∀ i j : Fin 12, j.val < g_len.getD i.val 0 → gs_flat[gs_tp.getD i.val 0 + 4 + j.val]? = some (Cond.eq (.elem (.field (gs_t i.val) "java/lang/String" "value" "[B") (.int (Int32.ofNat j.val))) (.int ((g_byt.getD i.val []).getD j.val 0))) := by decide +kernel
theorem gs_t6 : ∀ i j : Fin 12, i ≠ j → gs_flat[(gs_np.getD i.val []).getD j.val 0]? = some (Cond.not (Cond.eq (gs_t i.val) (gs_t j.val))) ∨ gs_flat[(gs_np.getD j.val []).getD i.val 0]? = some (Cond.not (Cond.eq (gs_t j.val) (gs_t i.val))) := by decide +kernel
theorem gs_t7 : ∀ i : Fin 12, g_len.getD i.val 0 ≤ 12 := by decide +kernel
theorem gs_txt {args : Array Value} {s : State} {A : Nat → Prop} (hs : ∀ c ∈ gs_flat, c.before args s = true) (hA : ∀ a : Nat, a < s.heap.size → ¬ A a) : ∃ adK adV : Nat → Nat, vk_S 12 g_len g_byt adK adV A s s.heap ∧ ∀ i : Nat, i < 12 → (gs_t i).eval args s none [] s = some (.ref (adK i)) :=
  vk_Sof (tm := gs_t) (fun i hi => Nat.lt_of_le_of_lt (gs_t7 ⟨i, hi⟩) (by decide)) (fun i hi => hs _ (List.mem_of_getElem? (gs_t1 ⟨i, hi⟩))) (fun i hi => hs _ (List.mem_of_getElem? (gs_t2 ⟨i, hi⟩))) (fun i hi => hs _ (List.mem_of_getElem? (gs_t3 ⟨i, hi⟩))) (fun i hi => hs _ (List.mem_of_getElem? (gs_t4 ⟨i, hi⟩)))
    (fun i hi j hj => hs _ (List.mem_of_getElem? (gs_t5 ⟨i, hi⟩ ⟨j, Nat.lt_of_lt_of_le hj (gs_t7 ⟨i, hi⟩)⟩ hj)))
    (fun i j hi hj hij => (gs_t6 ⟨i, hi⟩ ⟨j, hj⟩ (fun h => hij (congrArg Fin.val h))).elim (fun h => Or.inl (hs _ (List.mem_of_getElem? h))) (fun h => Or.inr (hs _ (List.mem_of_getElem? h)))) hA
theorem gs_same {args : Array Value} {s : State} {t u : Term} {a : Nat} (h : (Cond.eq t u).before args s = true) (ht : t.eval args s none [] s = some (.ref a)) : u.eval args s none [] s = some (.ref a) := by
  obtain ⟨y, h1, h2⟩ := Cond.eq_one (args := args) (o := none) (idx := []) h
  rw [h2, ← h1, ht]
theorem gs_str {args : Array Value} {s : State} {k : Nat → Nat} (hs : ∀ c ∈ gs_flat, c.before args s = true) (hts : ∀ w ∈ lw_tbl, w.before args s = true) (hev : ∀ i : Nat, i < 12 → (gs_t i).eval args s none [] s = some (.ref (k i))) : ∀ q ∈ g_str, vk_R q.1 q.2.1 q.2.2.1 (k q.2.2.2) s := by
  refine List.forall_mem_cons.mpr ⟨?_, List.forall_mem_cons.mpr ⟨?_, List.forall_mem_cons.mpr ⟨?_, List.forall_mem_cons.mpr ⟨?_, List.forall_mem_cons.mpr ⟨?_, List.forall_mem_cons.mpr ⟨?_, List.forall_mem_cons.mpr ⟨?_, List.forall_mem_cons.mpr ⟨?_, List.forall_mem_cons.mpr ⟨?_, List.forall_mem_cons.mpr ⟨?_, List.forall_mem_cons.mpr ⟨?_, List.forall_mem_cons.mpr ⟨?_, List.forall_mem_cons.mpr ⟨?_, List.forall_mem_cons.mpr ⟨?_, List.forall_mem_cons.mpr ⟨?_, List.forall_mem_cons.mpr ⟨?_, fun _ h => absurd h List.not_mem_nil⟩⟩⟩⟩⟩⟩⟩⟩⟩⟩⟩⟩⟩⟩⟩⟩
  · exact vk_R.of (hts _ (List.mem_of_getElem? (i := 290) (by decide +kernel))) (hev 0 (by decide))
  · exact vk_R.of (hts _ (List.mem_of_getElem? (i := 319) (by decide +kernel))) (hev 1 (by decide))
  · exact vk_R.of (hts _ (List.mem_of_getElem? (i := 326) (by decide +kernel))) (hev 2 (by decide))
  · exact vk_R.of (hts _ (List.mem_of_getElem? (i := 750) (by decide +kernel))) (hev 3 (by decide))
  · exact vk_R.of (hts _ (List.mem_of_getElem? (i := 1394) (by decide +kernel))) (hev 4 (by decide))
  · exact vk_R.of (hts _ (List.mem_of_getElem? (i := 1614) (by decide +kernel))) (gs_same (hs _ (List.mem_of_getElem? (i := 219) (by decide +kernel))) (hev 0 (by decide)))
  · exact vk_R.of (hts _ (List.mem_of_getElem? (i := 1615) (by decide +kernel))) (hev 5 (by decide))
  · exact vk_R.of (hts _ (List.mem_of_getElem? (i := 1616) (by decide +kernel))) (hev 6 (by decide))
  · exact vk_R.of (hts _ (List.mem_of_getElem? (i := 1664) (by decide +kernel))) (gs_same (hs _ (List.mem_of_getElem? (i := 268) (by decide +kernel))) (hev 1 (by decide)))
  · exact vk_R.of (hts _ (List.mem_of_getElem? (i := 1665) (by decide +kernel))) (hev 7 (by decide))
  · exact vk_R.of (hts _ (List.mem_of_getElem? (i := 1666) (by decide +kernel))) (hev 8 (by decide))
  · exact vk_R.of (hts _ (List.mem_of_getElem? (i := 1426) (by decide +kernel))) (hev 9 (by decide))
  · exact vk_R.of (hts _ (List.mem_of_getElem? (i := 1675) (by decide +kernel))) (gs_same (hs _ (List.mem_of_getElem? (i := 323) (by decide +kernel))) (hev 2 (by decide)))
  · exact vk_R.of (hts _ (List.mem_of_getElem? (i := 1676) (by decide +kernel))) (hev 10 (by decide))
  · exact vk_R.of (hts _ (List.mem_of_getElem? (i := 1677) (by decide +kernel))) (hev 11 (by decide))
  · exact vk_R.of (hts _ (List.mem_of_getElem? (i := 1427) (by decide +kernel))) (gs_same (hs _ (List.mem_of_getElem? (i := 207) (by decide +kernel))) (hev 3 (by decide)))
/-- the places of the static arrays, of the texts and of their bytes -/
def gs_tx (a k v : Nat → Nat) (i : Nat) : Nat := if i < 100 then a i else if i < 200 then k (i - 100) else v (i - 200)
theorem gs_tx_a {a k v : Nat → Nat} {i : Nat} (h : i < 100) : gs_tx a k v i = a i := if_pos h
theorem gs_tx_k {a k v : Nat → Nat} {i : Nat} (h : i < 100) : gs_tx a k v (100 + i) = k i := by
  unfold gs_tx
  rw [if_neg (by omega), if_pos (by omega), Nat.add_sub_cancel_left]
theorem gs_tx_v {a k v : Nat → Nat} {i : Nat} : gs_tx a k v (200 + i) = v i := by
  unfold gs_tx
  rw [if_neg (by omega), if_neg (by omega), Nat.add_sub_cancel_left]
theorem gs_gz {args : Array Value} {s : State} (hts : ∀ w ∈ lw_tbl, w.before args s = true) : gz_ok s :=
  ⟨⟨va_AO.of (hts _ (List.mem_of_getElem? (i := 166) (by decide +kernel))), va_AO.of (hts _ (List.mem_of_getElem? (i := 265) (by decide +kernel))), (show (Cond.arrayOver (.array .int)).before args s = true from hts _ (List.mem_of_getElem? (i := 173) (by decide +kernel)))⟩,
    List.forall_mem_cons.mpr ⟨va_Nw.of rfl (hts _ (List.mem_of_getElem? (i := 142) (by decide +kernel))), List.forall_mem_cons.mpr ⟨va_Nw.of rfl (hts _ (List.mem_of_getElem? (i := 168) (by decide +kernel))), List.forall_mem_cons.mpr ⟨va_Nw.of rfl (hts _ (List.mem_of_getElem? (i := 267) (by decide +kernel))), List.forall_mem_cons.mpr ⟨va_Nw.of rfl (hts _ (List.mem_of_getElem? (i := 399) (by decide +kernel))), fun _ h => absurd h List.not_mem_nil⟩⟩⟩⟩⟩
theorem gs_gx {args : Array Value} {s : State} (hts : ∀ w ∈ lw_tbl, w.before args s = true) : gx_ok s :=
  ⟨⟨va_Nw.of rfl (hts _ (List.mem_of_getElem? (i := 1359) (by decide +kernel))), va_Nw.of rfl (hts _ (List.mem_of_getElem? (i := 1361) (by decide +kernel))), va_Nw.of rfl (hts _ (List.mem_of_getElem? (i := 1363) (by decide +kernel)))⟩, va_Nw.of rfl (hts _ (List.mem_of_getElem? (i := 1357) (by decide +kernel)))⟩
theorem gs_sta {args : Array Value} {s : State} (l : Launch) (D : va_G) (dA : Nat → ClassId) (hs : ∀ c ∈ gs_flat, c.before args s = true) (hts : ∀ w ∈ lw_tbl, w.before args s = true) : ∃ tx : Nat → Nat, g_sta (l, D, dA, s.heap.size, tx) s := by
  have hA : ∀ a : Nat, a < s.heap.size → ¬ s.heap.size ≤ a := fun a h => Nat.not_le.mpr h
  obtain ⟨a, ha⟩ := gs_arr (A := fun q => s.heap.size ≤ q) hs hts hA
  obtain ⟨k, v, hk, hev⟩ := gs_txt (A := fun q => s.heap.size ≤ q) hs hA
  refine ⟨gs_tx a k v, fun i q hq => ?_, ⟨fun i hi => ?_, fun i j hi hj hij => ?_⟩, fun q hq => ?_, ?_, ?_, ?_, ?_⟩
  · have hl : i < g_sar.length := (List.getElem?_eq_some_iff.mp hq).1
    have hl9 : i < 9 := hl
    show va_Z _ _ _ (.ref (gs_tx a k v i)) _ _ _ ∧ va_T _ (gs_tx a k v i) _ _ _ _ _
    rw [gs_tx_a (by omega)]
    exact ha i q hq
  · show va_O _ (gs_tx a k v (100 + i)) _ _ _ ∧ va_OF _ _ _ _ (gs_tx a k v (100 + i)) _ _ _ ∧ va_OF _ _ _ (.ref (gs_tx a k v (200 + i))) (gs_tx a k v (100 + i)) _ _ _ ∧ va_T _ (gs_tx a k v (200 + i)) _ _ _ _ _
    rw [gs_tx_k (by omega), gs_tx_v]
    exact hk.1 i hi
  · have h2 : gs_tx a k v (100 + i) = gs_tx a k v (100 + j) := hij
    rw [gs_tx_k (by omega), gs_tx_k (by omega)] at h2
    exact hk.2 i j hi hj h2
  · have h4 : ∀ q ∈ g_str, q.2.2.2 < 100 := by decide +kernel
    show vk_R _ _ _ (gs_tx a k v (100 + q.2.2.2)) s
    rw [gs_tx_k (h4 q hq)]
    exact gs_str hs hts hev q hq
  · exact va_Zof (hts _ (List.mem_of_getElem? (i := 610) (by decide +kernel))) (hts _ (List.mem_of_getElem? (i := 121) (by decide +kernel))) (va_eqi (hs _ (List.mem_of_getElem? (i := 67) (by decide +kernel)))) hA
  · exact va_Zqof (hts _ (List.mem_of_getElem? (i := 653) (by decide +kernel))) (hts _ (List.mem_of_getElem? (i := 125) (by decide +kernel))) (hs _ (List.mem_of_getElem? (i := 68) (by decide +kernel))) hA
  · exact vx_Zqof (hts _ (List.mem_of_getElem? (i := 1382) (by decide +kernel))) (hts _ (List.mem_of_getElem? (i := 127) (by decide +kernel))) (hs _ (List.mem_of_getElem? (i := 72) (by decide +kernel))) hA
  · exact vx_Zqof (hts _ (List.mem_of_getElem? (i := 1384) (by decide +kernel))) (hts _ (List.mem_of_getElem? (i := 127) (by decide +kernel))) (hs _ (List.mem_of_getElem? (i := 73) (by decide +kernel))) hA
