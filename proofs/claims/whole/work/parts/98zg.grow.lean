/-! ===== the world grows: what constructors need ===== -/
abbrev g_s (x : g_C) : State := x.2.2.2.1
abbrev g_sz (x : g_C) : Nat := (g_s x).heap.size
/-- words that are kept but not good: private constructors of nest mates, arrays of references -/
def gz_nw : List (String × Nat × MethodName × String) := [(RX12, 9, yX8_init, RX12), (RX12, 22, yX4_init, RX12), (RX12, 29, yX9_init, RX12), (RX7, 24, yX4_init, RX12)]
theorem gz_AOA_moved {t : FieldType} {u U : State} (hvm : u.vm.Alike U.vm) (h : va_AOA t u) : va_AOA t U := by
  obtain ⟨comp, c, k, h1, h2, h3, h4, h5⟩ := arrayOverA_spec h
  obtain ⟨k', hk', he⟩ := hvm.2.2 _ _ h3
  have hb : U.vm.bare = u.vm.bare := by first | exact hvm.bare_eq | exact hvm.bare_eq.symm
  have hi : (U.vm.classes.findIdx? fun (x : Class) => match x.kind with | .array component _ => component == comp | _ => false) = some c := by
    refine (va_idx_bare U.vm comp).symm.trans ?_
    rw [hb]
    exact (va_idx_bare u.vm comp).trans h2
  have hkind : k'.kind = .array comp (.array t) := by rw [he]; exact h4
  have f1 : U.vm.findClass (FieldType.array t).toString = some comp := by rw [hvm.findClass]; exact h1
  have f2 : U.vm.findClass ("[" ++ (FieldType.array t).toString) = some c := by rw [hvm.findClass]; exact h5
  unfold va_AOA Cond.before Cond.holds
  simp only [Cond.value]
  rw [f1, Option.bind_some]
  refine (congrArg (fun o : Option Nat => (o.bind (fun c => (U.vm.classes[c]?).map fun (k : Class) => match k.kind with | .array _ ty => decide (ty = FieldType.array t) && decide (U.vm.findClass ("[" ++ (FieldType.array t).toString) = some c) | _ => false) == some true)) hi).trans ?_
  simp [hk', hkind, f2]
def gz_ok (U : State) : Prop := (va_AO RX4 U ∧ va_AO RX9 U ∧ va_AOA .int U) ∧ ∀ q ∈ gz_nw, va_Nw (.methodLinkNest q.1 q.2.1 q.2.2.1 q.2.2.2) U
theorem gz_ok_same {u U : State} (hv : U.vm = u.vm) (h : gz_ok u) : gz_ok U := by
  have ha : u.vm.Alike U.vm := by rw [hv]; exact Vm.Alike.refl _
  exact ⟨⟨va_AO.moved ha h.1.1, va_AO.moved ha h.1.2.1, gz_AOA_moved ha h.1.2.2⟩, fun q hq => va_Nw.same rfl hv.symm (h.2 q hq)⟩
theorem gz_ok_warm {u U : State} (hW : u.WarmedH U.vm) (h : gz_ok u) : gz_ok U :=
  ⟨⟨va_AO.moved hW.alike h.1.1, va_AO.moved hW.alike h.1.2.1, gz_AOA_moved hW.alike h.1.2.2⟩, fun q hq => va_Nw.warmM hW (h.2 q hq)⟩
/-- the world of a state, its cells being the last ones of the heap -/
def gz_wd (w : g_W) (n : Nat) (I : g_I) (J : g_J) (R : g_R) (U : State) : Prop := g_wd w n I J R U ∧ U.heap.size = w.2.2.2.1 + n ∧ gz_ok U
def gz_Q (w : g_W) (P : g_P) : Array Value → State → Outcome → State → Prop := fun _ st oc t => (∃ v n I J R, oc = .returned v ∧ P v n I J R ∧ va_P w.2.1 g_cls (g_ws w n I J R) t.heap ∧ t.heap.size = w.2.2.2.1 + n) ∧ va_F (g_A w) st t
/-- a constructor's contract -/
def gz_Met (w : g_W) (n : Nat) (I : g_I) (J : g_J) (R : g_R) (y : MethodName) (b : ByteArray) (mx : Nat) (ret : Option FieldType) (d mc ms : Nat) (as : List Value) (P : g_P) : Prop :=
  Met w.1 y (.code y b mx ret :: g_tb) { frames := d, cells := mc, slots := ms, locals := 40 * d } (va_Pc as (gz_wd w n I J R)) (gz_Q w P) mc ms (g_A w)
theorem gz_blind {w : g_W} {n : Nat} {I : g_I} {J : g_J} {R : g_R} {as : List Value} : FrameBlind (va_Pc as (gz_wd w n I J R)) := fun a U g mk h => ⟨h.1, (g_blind a U g mk ⟨h.1, h.2.1⟩).2, h.2.2.1, gz_ok_same rfl h.2.2.2⟩
def gz_mq (w : g_W) (P : g_P) (x : g_C) : State → Prop := match x with
  | (_, _, _, s, _, args, below, _, _, mc, ms) => MQ below (gz_Q w P) args s mc ms (g_A w)
abbrev g_mn (x : g_C) : String := x.2.2.2.2.2.2.2.1.name
theorem gz_intro {w : g_W} {n : Nat} {I : g_I} {J : g_J} {R : g_R} {y : MethodName} {b : ByteArray} {mx : Nat} {ret : Option FieldType} {d mc ms : Nat} {as : List Value} {P : g_P} {own : String} (L0 : List (Option Value)) (hy : plainName y.cls = true) (ho : y.cls = own) (hl : (lg_sl as).length ≤ mx) (hL : L0.length = mx) (hs : ∀ (i : Nat) (v : Value), L0[i]? = some (some v) → (i, v) ∈ lv_args 0 as)
    (body : ∀ x : g_C, g_OK w x b mx ret own d → x.2.2.2.2.2.2.2.2.2.1 = mc ∧ x.2.2.2.2.2.2.2.2.2.2 = ms → g_sz x = w.2.2.2.1 + n → g_mn x = y.name → gz_ok (g_s x) → GQ w x (gz_mq w P x) 0 0 n I J R 0 L0 []) : gz_Met w n I J R y b mx ret d mc ms as P := by
  refine Met.ofW (cc := b) (maxL := mx) (ret := ret) hy rfl ?_
  intro p e s m args below meth c s₁ B hml hv
  obtain ⟨rfl, ⟨hP, hK, hsta⟩, hsize, hgo⟩ := hv
  have hts := atoms_spec (ws := .code y b mx ret :: g_tb) B.pre
  have hown : s.vm.findClass own = some m.cls := by rw [← ho]; exact findClass_of_methodNamed B.named
  have hsz : w.2.2.2.1 ≤ s.heap.size := by omega
  rw [lg_entry_eq]
  have hl := lv_entry as (n := mx) hl
  exact body (p, e, _, s, m, as.toArray, below, meth, c, mc, ms) ⟨B.exec, B.bytes, hml, B.returns, hown, fun q h => hts q (List.mem_cons_of_mem _ h), hK, hsta, B.notSynchronized, hsz, rfl⟩ ⟨rfl, rfl⟩ hsize (name_of_methodNamed B.named B.method).1 hgo s.heap [] _ hP va_S.rf ⟨hl.1.trans hL.symm, hl.2.1, fun i v hv => hl.2.2 (i, v) (hs i v hv)⟩
theorem gz_size {w : g_W} {I : g_I} {J : g_J} {R : g_R} {n0 n u s0 : Nat} {H : Heap} (hP : va_P w.2.1 g_cls (g_ws w n I J R) H) (h0 : s0 = w.2.2.2.1 + n0) (hn : n = n0 + u) (h1 : H.size ≤ s0 + u) (h2 : s0 ≤ H.size) : H.size = w.2.2.2.1 + n := by
  by_cases hz : n = 0
  · omega
  · have h := (hP (n - 1) _ (g_ws_at (by omega))).lt
    dsimp only at h
    omega
theorem gz_q {w : g_W} {I : g_I} {J : g_J} {R : g_R} {n q : Nat} {e : va_E} {H1 : Heap} (hP : va_P w.2.1 g_cls (g_ws w n I J R ++ [(q, e)]) H1) (hD : va_D (g_A w) (g_ws w n I J R ++ [(q, e)])) (hz : H1.size ≤ w.2.2.2.1 + n + 1) : q = w.2.2.2.1 + n := by
  have hl : (g_ws w n I J R).length = n := by simp [g_ws]
  have hq : (g_ws w n I J R ++ [(q, e)])[n]? = some (q, e) := by
    rw [List.getElem?_append_right (by omega), hl]
    simp
  have h1 := (hP n _ hq).lt
  have h2 : w.2.2.2.1 ≤ q := hD.2 n _ hq
  dsimp only at h1
  by_cases he : q = w.2.2.2.1 + n
  · exact he
  · exfalso
    have hk : q - w.2.2.2.1 < n := by omega
    have h3 := hD.1 (q - w.2.2.2.1) n _ _ (by rw [List.getElem?_append_left (by omega)]; exact g_ws_at hk) hq (by dsimp only; omega)
    omega
theorem gz_push {w : g_W} {I : g_I} {J : g_J} {R : g_R} {n : Nat} : g_ws w n I J R ++ [(w.2.2.2.1 + n, g_E w.2.2.1 I J R n)] = g_ws w (n + 1) I J R := by
  unfold g_ws
  rw [List.range_succ, List.map_append]
  rfl
theorem gz_ra {s : State} {a b : ClassId} {ty : FieldType} (h1 : va_RA s a ty) (h2 : va_RA s b ty) : a = b := by
  cases ty with
  | object C =>
    obtain ⟨_, _, _, _, _, h⟩ := h1
    obtain ⟨_, _, _, _, _, h'⟩ := h2
    exact Option.some.inj (h.symm.trans h')
  | _ => exact Option.some.inj (Eq.trans (Eq.symm h1) h2)
theorem gz_last {D : va_G} {cl : List vw_C} {tys : List (ClassId × FieldType)} {s : State} {cA : ClassId} {ty : FieldType} (h : va_K D cl (tys ++ [(cA, ty)]) s) : va_RA s cA ty :=
  (h.2 tys.length (cA, ty) (by rw [List.getElem?_append_right (Nat.le_refl _)]; simp)).2
/-- a cell that nobody has written yet -/
def g_fr (I : g_I) (J : g_J) (R : g_R) (k : Nat) : Prop := (∀ j, I k j = 0) ∧ J k = 0 ∧ ∀ j, R k j = none
def g_dv (kind : Nat) : Value := match kind with
  | 0 => .int 0
  | 1 => .long 0
  | _ => .null
theorem g_dvs : (∀ k, k < 4 → defaultValue (tyX0 k) = g_dv ((g_kd 0).getD k 9)) ∧ (∀ k, k < 7 → defaultValue (tyX1 k) = g_dv ((g_kd 1).getD k 9)) ∧ (∀ k, k < 5 → defaultValue (tyX2 k) = g_dv ((g_kd 2).getD k 9)) ∧ (∀ k, k < 5 → defaultValue (tyX3 k) = g_dv ((g_kd 3).getD k 9)) ∧ (∀ k, k < 13 → defaultValue (tyX4 k) = g_dv ((g_kd 4).getD k 9)) ∧ (∀ k, k < 6 → defaultValue (tyX5 k) = g_dv ((g_kd 5).getD k 9)) ∧ (∀ k, k < 6 → defaultValue (tyX6 k) = g_dv ((g_kd 6).getD k 9)) ∧ (∀ k, k < 4 → defaultValue (tyX7 k) = g_dv ((g_kd 7).getD k 9)) ∧ (∀ k, k < 4 → defaultValue (tyX8 k) = g_dv ((g_kd 8).getD k 9)) ∧ (∀ k, k < 3 → defaultValue (tyX9 k) = g_dv ((g_kd 9).getD k 9)) ∧ (∀ k, k < 1 → defaultValue (tyX10 k) = g_dv ((g_kd 10).getD k 9)) ∧ (∀ k, k < 3 → defaultValue (tyX11 k) = g_dv ((g_kd 11).getD k 9)) ∧ (∀ k, k < 13 → defaultValue (tyX12 k) = g_dv ((g_kd 12).getD k 9)) ∧ (∀ k, k < 46 → defaultValue (tyX13 k) = g_dv ((g_kd 13).getD k 9)) := by
  refine ⟨?_, ?_, ?_, ?_, ?_, ?_, ?_, ?_, ?_, ?_, ?_, ?_, ?_, ?_⟩ <;> decide +kernel
theorem g_ckd : ∀ (ci : Nat) (q : vw_C), g_cls[ci]? = some q → (g_kd ci).length = q.2.2 ∧ ∃ ty : Nat → FieldType, (∀ k, k < q.2.2 → parseFieldDescriptor (q.2.1 k).2.2.1 = some (ty k)) ∧ ∀ k, k < q.2.2 → defaultValue (ty k) = g_dv ((g_kd ci).getD k 9) := by
  obtain ⟨d0, d1, d2, d3, d4, d5, d6, d7, d8, d9, d10, d11, d12, d13⟩ := g_dvs
  intro ci q h
  have hl : ci < g_cls.length := (List.getElem?_eq_some_iff.mp h).1
  match ci, h with
  | 0, h => cases h; exact ⟨rfl, tyX0, tyX0_ok, d0⟩
  | 1, h => cases h; exact ⟨rfl, tyX1, tyX1_ok, d1⟩
  | 2, h => cases h; exact ⟨rfl, tyX2, tyX2_ok, d2⟩
  | 3, h => cases h; exact ⟨rfl, tyX3, tyX3_ok, d3⟩
  | 4, h => cases h; exact ⟨rfl, tyX4, tyX4_ok, d4⟩
  | 5, h => cases h; exact ⟨rfl, tyX5, tyX5_ok, d5⟩
  | 6, h => cases h; exact ⟨rfl, tyX6, tyX6_ok, d6⟩
  | 7, h => cases h; exact ⟨rfl, tyX7, tyX7_ok, d7⟩
  | 8, h => cases h; exact ⟨rfl, tyX8, tyX8_ok, d8⟩
  | 9, h => cases h; exact ⟨rfl, tyX9, tyX9_ok, d9⟩
  | 10, h => cases h; exact ⟨rfl, tyX10, tyX10_ok, d10⟩
  | 11, h => cases h; exact ⟨rfl, tyX11, tyX11_ok, d11⟩
  | 12, h => cases h; exact ⟨rfl, tyX12, tyX12_ok, d12⟩
  | 13, h => cases h; exact ⟨rfl, tyX13, tyX13_ok, d13⟩
  | k + 14, h => exact absurd (show k + 14 < 14 from hl) (by omega)
section GZ
variable {w : g_W} {x : g_C} {P : State → Prop} {u v n : Nat} {I : g_I} {J : g_J} {R : g_R} {pc : Nat} {L : List (Option Value)} {st : List Value} {cc : ByteArray} {nL : Nat} {rt : Option FieldType} {own : String} {d n0 : Nat}
/-- new -/
theorem gz_new {ci idx : Nat} {C : String} {T : u_T} {N : Nat} (hc : g_OK w x cc nL rt own d) (hz : g_sz x = w.2.2.2.1 + n0) (hn : n = n0 + u) (hs : g_sh n = .inl ci) (hq : g_cls[ci]? = some (C, T, N)) (hl : Cond.classLink own idx C ∈ g_tb) (hi : Cond.instantiable C N ∈ g_tb) (hin : Cond.initialized C ∈ g_tb) (hf : g_fr I J R n) (hm : u + 1 ≤ x.2.2.2.2.2.2.2.2.2.1 ∧ v + N ≤ x.2.2.2.2.2.2.2.2.2.2) (hd : decode cc pc = .ok (.new idx, 3))
    (kk : GQ w x P (u + 1) (v + N) (n + 1) I J R (pc + 3) L (gvr w n :: st)) : GQ w x P u v n I J R pc L st := by
  obtain ⟨p, e, Rm, s, m, args, below, meth, c, mc, ms⟩ := x
  obtain ⟨hx, hb, hml, hr, hown, hts, hK, hsta, hlk, hsz, hRm⟩ := hc
  subst hRm
  obtain ⟨e1, ty0, e3, e4⟩ := g_ckd ci _ hq
  intro H locs ls hP hS hll
  refine va_new (c0 := c) (fs := g_fs ci I J R n) hx hb hts (g_cw ci _ hq) ty0 e3 hown (hts _ hl) (hts _ hi) (hts _ hin) hK hP g_D hS (fun q h => Nat.le_trans hsz h) hq (fun j hj => ?_) hm.1 hm.2 hd (fun q H1 hP1 hD1 hS1 => ?_)
  · have hj2 : j < (g_kd ci).length := by rw [e1]; exact hj
    have hk : (g_kd ci)[j]? = some ((g_kd ci)[j]) := List.getElem?_eq_getElem hj2
    rw [e4 j hj, vp_V, List.getD_eq_getElem?_getD, List.getD_eq_getElem?_getD, g_fs_at hk, hk]
    show g_dv ((g_kd ci)[j]) = g_fv ((g_kd ci)[j]) I J R n j
    generalize (g_kd ci)[j] = kd
    match kd with
    | 0 => show Value.int 0 = gvI (I n (j : Int)); rw [hf.1]; rfl
    | 1 => show Value.long 0 = gvL (J n); rw [hf.2.1]; rfl
    | k + 2 => show Value.null = va_rf (R n (j : Int)); rw [hf.2.2]; rfl
  · intro T1 hT1 X1
    have h9 : q = w.2.2.2.1 + n := gz_q hP1 hD1 (by
      have := X1.heapSize
      have hz2 : s.heap.size = w.2.2.2.1 + n0 := hz
      rw [hT1] at this
      omega)
    subst h9
    have he : g_E w.2.2.1 I J R n = .inr (ci, g_fs ci I J R n) := by simp [g_E, hs]
    rw [← he, gz_push] at hP1
    exact kk H1 locs ls hP1 hS1 hll T1 hT1 X1
theorem gz_i32 {len : Nat} (h : len < 2 ^ 31) : ¬ Int32.ofInt (len : Int) < 0 ∧ (Int32.ofInt (len : Int)).toNatClampNeg = len := by
  have h32 : g32 (len : Int) := ⟨by omega, by omega⟩
  refine ⟨fun h2 => ?_, ?_⟩
  · have h3 := (g_ltI h32 (y := 0) ⟨by decide, by decide⟩).mp h2
    omega
  · rw [g_cl h32]; omega
/-- newarray of ints, bytes, truths -/
theorem gz_newa {atype : ArrayType} {ty : FieldType} {t len : Nat} (hc : g_OK w x cc nL rt own d) (hz : g_sz x = w.2.2.2.1 + n0) (hn : n = n0 + u) (hs : g_sh n = .inr (t, len)) (ht : t < 3) (hty : newarray.typeOf atype = ty) (htt : (g_ty w.2.2.1)[t]? = some (w.2.2.1 t, ty)) (hdv : defaultValue ty = .int 0) (ha : Cond.arrayClass ty ∈ g_tb) (hlen : len < 2 ^ 31) (hby : len * componentBytes ty ≤ 536870912) (hf : g_fr I J R n) (hm : u + 1 ≤ x.2.2.2.2.2.2.2.2.2.1 ∧ v + len ≤ x.2.2.2.2.2.2.2.2.2.2) (hd : decode cc pc = .ok (.newarray atype, 2))
    (kk : GQ w x P (u + 1) (v + len) (n + 1) I J R (pc + 2) L (gvr w n :: st)) : GQ w x P u v n I J R pc L (gvI (len : Int) :: st) := by
  obtain ⟨p, e, Rm, s, m, args, below, meth, c, mc, ms⟩ := x
  obtain ⟨hx, hb, hml, hr, hown, hts, hK, hsta, hlk, hsz, hRm⟩ := hc
  subst hRm
  intro H locs ls hP hS hll
  refine va_newa (a0 := (len, .inl (fun j => Int32.ofInt (I n (j : Int))))) hx hb (by rw [hty]; exact hts _ ha) hty hK hP g_D hS (fun q h => Nat.le_trans hsz h) (fun cA => ?_) (gz_i32 hlen).1 (gz_i32 hlen).2 hby hm.1 hm.2 hd (fun q cA H1 hK1 hP1 hD1 hS1 => ?_)
  · rw [vp_cell_i, hdv]
    refine congrArg (arrV cA len) (funext fun j => ?_)
    rw [hf.1]; rfl
  · intro T1 hT1 X1
    have h9 : q = w.2.2.2.1 + n := gz_q hP1 hD1 (by
      have := X1.heapSize
      have hz2 : s.heap.size = w.2.2.2.1 + n0 := hz
      rw [hT1] at this
      omega)
    subst h9
    have h8 : cA = w.2.2.1 t := gz_ra (gz_last hK1) (hK.2 t _ htt).2
    subst h8
    have he : g_E w.2.2.1 I J R n = .inl (w.2.2.1 t, len, .inl (fun j => Int32.ofInt (I n (j : Int)))) := by simp [g_E, hs, ht]
    rw [← he, gz_push] at hP1
    exact kk H1 locs ls hP1 hS1 hll T1 hT1 X1
/-- newarray of longs -/
theorem gz_newl {len : Nat} (hc : g_OK w x cc nL rt own d) (hz : g_sz x = w.2.2.2.1 + n0) (hn : n = n0 + u) (hs : g_sh n = .inr (6, len)) (ha : Cond.arrayClass .long ∈ g_tb) (hlen : len < 2 ^ 31) (hby : len * componentBytes .long ≤ 536870912) (hf : g_fr I J R n) (hm : u + 1 ≤ x.2.2.2.2.2.2.2.2.2.1 ∧ v + len ≤ x.2.2.2.2.2.2.2.2.2.2) (hd : decode cc pc = .ok (.newarray .long, 2))
    (kk : GQ w x P (u + 1) (v + len) (n + 1) I J R (pc + 2) L (gvr w n :: st)) : GQ w x P u v n I J R pc L (gvI (len : Int) :: st) := by
  obtain ⟨p, e, Rm, s, m, args, below, meth, c, mc, ms⟩ := x
  obtain ⟨hx, hb, hml, hr, hown, hts, hK, hsta, hlk, hsz, hRm⟩ := hc
  subst hRm
  intro H locs ls hP hS hll
  refine va_newa (atype := .long) (ty := .long) (a0 := (len, .inr (.inl (fun _ => Int64.ofInt (J n))))) hx hb (hts _ ha) rfl hK hP g_D hS (fun q h => Nat.le_trans hsz h) (fun cA => ?_) (gz_i32 hlen).1 (gz_i32 hlen).2 hby hm.1 hm.2 hd (fun q cA H1 hK1 hP1 hD1 hS1 => ?_)
  · rw [vp_cell_l]
    refine congrArg (arrV cA len) (funext fun j => ?_)
    rw [hf.2.1]; rfl
  · intro T1 hT1 X1
    have h9 : q = w.2.2.2.1 + n := gz_q hP1 hD1 (by
      have := X1.heapSize
      have hz2 : s.heap.size = w.2.2.2.1 + n0 := hz
      rw [hT1] at this
      omega)
    subst h9
    have h8 : cA = w.2.2.1 6 := gz_ra (gz_last hK1) (hK.2 6 (w.2.2.1 6, .long) rfl).2
    subst h8
    have he : g_E w.2.2.1 I J R n = .inl (w.2.2.1 6, len, .inr (.inl (fun _ => Int64.ofInt (J n)))) := by simp [g_E, hs]
    rw [← he, gz_push] at hP1
    exact kk H1 locs ls hP1 hS1 hll T1 hT1 X1
/-- anewarray of objects -/
theorem gz_newq {idx t len : Nat} {C : String} (hc : g_OK w x cc nL rt own d) (hz : g_sz x = w.2.2.2.1 + n0) (hn : n = n0 + u) (hs : g_sh n = .inr (t, len)) (ht : ¬ t < 3) (ht6 : t < 6) (htt : (g_ty w.2.2.1)[t]? = some (w.2.2.1 t, .object C)) (hl : Cond.classLink own idx C ∈ g_tb) (ho : va_AO C (g_s x)) (hlen : len < 2 ^ 31) (hby : len * 4 ≤ 536870912) (hf : g_fr I J R n) (hm : u + 1 ≤ x.2.2.2.2.2.2.2.2.2.1 ∧ v + len ≤ x.2.2.2.2.2.2.2.2.2.2) (hd : decode cc pc = .ok (.anewarray idx, 3))
    (kk : GQ w x P (u + 1) (v + len) (n + 1) I J R (pc + 3) L (gvr w n :: st)) : GQ w x P u v n I J R pc L (gvI (len : Int) :: st) := by
  obtain ⟨p, e, Rm, s, m, args, below, meth, c, mc, ms⟩ := x
  obtain ⟨hx, hb, hml, hr, hown, hts, hK, hsta, hlk, hsz, hRm⟩ := hc
  subst hRm
  intro H locs ls hP hS hll
  refine va_newq hx hb hown (hts _ hl) ho hK hP g_D hS (fun q h => Nat.le_trans hsz h) (gz_i32 hlen).1 (gz_i32 hlen).2 hby hm.1 hm.2 hd (fun q cA H1 hK1 hP1 hD1 hS1 => ?_)
  intro T1 hT1 X1
  have h9 : q = w.2.2.2.1 + n := gz_q hP1 hD1 (by
    have := X1.heapSize
    have hz2 : s.heap.size = w.2.2.2.1 + n0 := hz
    rw [hT1] at this
    omega)
  subst h9
  have h8 : cA = w.2.2.1 t := gz_ra (gz_last hK1) (hK.2 t _ htt).2
  subst h8
  have he : g_E w.2.2.1 I J R n = .inl (w.2.2.1 t, len, .inr (.inr (.inr (.inr (fun _ => none))))) := by simp [g_E, hs, ht, ht6, hf.2.2]
  rw [← he, gz_push] at hP1
  exact kk H1 locs ls hP1 hS1 hll T1 hT1 X1
/-- rows of an array of arrays, one behind the other -/
def gz_up (w : g_W) (R : g_R) (k N : Nat) : g_R := fun a j => if a = k ∧ 0 ≤ j ∧ j < (N : Int) then some (w.2.2.2.1 + (k + 1 + j.toNat)) else R a j
set_option maxHeartbeats 4000000 in
/-- new int[N][K] -/
theorem gz_mna {idx N K : Nat} (hc : g_OK w x cc nL rt own d) (hz : g_sz x = w.2.2.2.1 + n0) (hn : n = n0 + u) (hs : g_sh n = .inr (3, N)) (hs2 : ∀ i, i < N → g_sh (n + 1 + i) = .inr (0, K)) (hl : Cond.classLink own idx "[[I" ∈ g_tb) (ho : va_AOA .int (g_s x)) (ha : Cond.arrayClass .int ∈ g_tb) (hlen : N < 2 ^ 28) (hlen2 : K < 2 ^ 28) (hby : N * 4 ≤ 536870912) (hby2 : K * 4 ≤ 536870912) (hf : ∀ i, i < N + 1 → g_fr I J R (n + i)) (hm : u + (1 + N) ≤ x.2.2.2.2.2.2.2.2.2.1 ∧ v + (N + N * K) ≤ x.2.2.2.2.2.2.2.2.2.2) (hd : decode cc pc = .ok (.multianewarray idx 2, 4))
    (kk : GQ w x P (u + 1 + N) (v + N + N * K) (n + 1 + N) I J (gz_up w R n N) (pc + 4) L (gvr w n :: st)) : GQ w x P u v n I J R pc L (gvI (K : Int) :: gvI (N : Int) :: st) := by
  obtain ⟨p, e, Rm, s, m, args, below, meth, c, mc, ms⟩ := x
  obtain ⟨hx, hb, hml, hr, hown, hts, hK, hsta, hlk, hsz, hRm⟩ := hc
  subst hRm
  intro H locs ls hP hS hll T hT Xs
  have hH : H.size = w.2.2.2.1 + n := gz_size hP hz hn (by rw [← hT]; exact Xs.heapSize) hS.1
  have h31 : N < 2 ^ 31 := by omega
  have h32 : K < 2 ^ 31 := by omega
  obtain ⟨i1, i2⟩ := gz_i32 h31
  obtain ⟨i3, i4⟩ := gz_i32 h32
  obtain ⟨vm₁, cA, comp, -, fA, fC, hO, -, X', step⟩ := Xs.multianewarray2F (ty := .int) hx hown (hts _ hl) (va_AOA.use ho) (hts _ ha) (g := F0 m pc ls (.int (Int32.ofInt (K : Int)) :: .int (Int32.ofInt (N : Int)) :: st)) rfl (by rw [hb]; exact hd) rfl i1 i3 (by rw [i2]; exact hby) (by rw [i4]; exact hby2) (by rw [i4]; omega) rfl rfl (by rw [i2]; exact hm.1) (by rw [i2, i4]; exact hm.2)
  rw [i2, i4] at X' step
  have hcy : s.vm.findClass (FieldType.array .int).toString = some (w.2.2.1 0) := (hK.2 0 (w.2.2.1 0, .int) rfl).2
  have ec : some (w.2.2.1 0) = some comp := hcy.symm.trans fC
  have hcA : s.vm.findClass ("[" ++ (FieldType.array .int).toString) = some (w.2.2.1 3) := (hK.2 3 (w.2.2.1 3, .array .int) rfl).2
  have ea : some (w.2.2.1 3) = some cA := hcA.symm.trans fA
  have ec2 := Option.some.inj ec
  have ea2 := Option.some.inj ea
  subst ec2
  subst ea2
  generalize hF : Jvm.Free.Multi.fill (T.setVm vm₁) (w.2.2.1 3) (w.2.2.1 0) N K (defaultValue .int) N = F at X' step
  have hTh : (T.setVm vm₁).heap = H := hT
  obtain ⟨f1, f2, -, -⟩ := Jvm.Free.Multi.fill_facts (T.setVm vm₁) (w.2.2.1 3) (w.2.2.1 0) N K (defaultValue .int) N
  rw [hF, hTh] at f1 f2
  have hold : ∀ q : Nat, q < H.size → F.heap[q]? = H[q]? := fun q hq => by
    have := Jvm.Free.Multi.fill_old (T.setVm vm₁) (w.2.2.1 3) (w.2.2.1 0) N K (defaultValue .int) (a := q) (by rw [hTh]; exact hq) N
    rw [hF, hTh] at this
    exact this
  have hrow : ∀ j : Nat, j < N → F.heap[H.size + 1 + j]? = some (Jvm.Free.Multi.innerC (w.2.2.1 0) K (defaultValue .int)) := fun j hj => by
    have := Jvm.Free.Multi.fill_inner (T.setVm vm₁) (w.2.2.1 3) (w.2.2.1 0) N K (defaultValue .int) N j hj
    rw [hF, hTh] at this
    exact this
  rw [vr_outer] at f2
  have hP1 : va_P w.2.1 g_cls (g_ws w (n + 1 + N) I J (gz_up w R n N)) F.heap := by
    intro k q hq
    have hk : k < n + 1 + N := by
      have := (List.getElem?_eq_some_iff.mp hq).1
      simpa [g_ws] using this
    rw [g_ws_at hk] at hq
    cases hq
    by_cases h1 : k < n
    · have hE : g_E w.2.2.1 I J (gz_up w R n N) k = g_E w.2.2.1 I J R k := g_E_same rfl rfl (funext fun j => if_neg (fun q => by omega))
      rw [hE]
      have h5 := hP k _ (g_ws_at h1)
      exact h5.kept (hold _ h5.lt)
    · by_cases h2 : k = n
      · subst h2
        have hE : g_E w.2.2.1 I J (gz_up w R k N) k = .inl (w.2.2.1 3, N, .inr (.inr (.inr (.inr (fun j => gz_up w R k N k (j : Int)))))) := by simp [g_E, hs]
        rw [hE]
        show F.heap[w.2.2.2.1 + k]? = some (vp_cell _ _)
        rw [← hH, f2, vp_cell_q]
        refine congrArg some (congrArg (arrV _ _) (funext fun j => congrArg va_rf ?_))
        unfold gz_up
        by_cases hj : j < N
        · rw [if_pos hj, if_pos ⟨rfl, by omega, by omega⟩, hH]
          exact congrArg some (by omega)
        · rw [if_neg hj, if_neg (fun z => by omega)]
          exact ((hf 0 (by omega)).2.2 _).symm
      · obtain ⟨i, rfl⟩ : ∃ i, k = n + 1 + i := ⟨k - (n + 1), by omega⟩
        have hi : i < N := by omega
        have hE : g_E w.2.2.1 I J (gz_up w R n N) (n + 1 + i) = .inl (w.2.2.1 0, K, .inl (fun j => Int32.ofInt (I (n + 1 + i) (j : Int)))) := by simp [g_E, hs2 i hi]
        rw [hE]
        show F.heap[w.2.2.2.1 + (n + 1 + i)]? = some (vp_cell _ _)
        have h7 := hrow i hi
        rw [hH] at h7
        rw [show w.2.2.2.1 + (n + 1 + i) = w.2.2.2.1 + n + 1 + i by omega, h7, vp_cell_i]
        have hz0 : (fun j : Nat => Value.int (Int32.ofInt (I (n + 1 + i) (j : Int)))) = fun _ => Value.int 0 := funext fun j => by
          have := (hf (1 + i) (by omega)).1 (j : Int)
          rw [show n + (1 + i) = n + 1 + i by omega] at this
          rw [this]; rfl
        rw [hz0]
        refine congrArg some ?_
        show ({ cls := w.2.2.1 0, slots := Array.replicate K (.int 0), vm := .none } : Cell) = _
        rw [arrV_new]
  have hS1 : va_S (g_A w) s.heap F.heap locs := ⟨by rw [f1]; have := hS.1; omega, fun q h1 h2 => (hold q (Nat.lt_of_lt_of_le h1 hS.1)).trans (hS.2.1 q h1 h2), hS.2.2⟩
  obtain ⟨t, a1, b1⟩ := kk F.heap locs ls hP1 hS1 hll F rfl X'
  refine ⟨t, step t ?_, b1⟩
  have e : T.heap.size = w.2.2.2.1 + n := by rw [hT]; exact hH
  rw [e]
  exact a1
/-- an object into an array of objects -/
theorem gz_aastq {k kv t ci len : Nat} {i : Int} {r : vw_C} (hc : g_OK w x cc nL rt own d) (hs : g_at n k (.inr (t, len))) (ht : ¬ t < 3) (ht6 : t < 6) (htt : (g_ty w.2.2.1)[t]? = some (w.2.2.1 t, .object r.1)) (hv : g_at n kv (.inl ci)) (hq : g_cls[ci]? = some r) (hlen : len < 2 ^ 31) (h0 : 0 ≤ i) (h1 : i < (len : Int)) (hd : decode cc pc = .ok (.aastore, 1))
    (kk : GQ w x P u v n I J (g_upR R k i (some (w.2.2.2.1 + kv))) (pc + 1) L st) : GQ w x P u v n I J R pc L (gvr w kv :: gvI i :: gvr w k :: st) := by
  obtain ⟨p, e, Rm, s, m, args, below, meth, c, mc, ms⟩ := x
  obtain ⟨hx, hb, hml, hr, hown, hts, hK, hsta, hlk, hsz, hRm⟩ := hc
  intro H locs ls hP hS hll
  refine va_astq hx hb hK hP g_D hS k t kv ci (g_at_r hs ht ht6) htt (g_at_o hv) hq (g_in h0 h1 hlen) hd (fun H1 locs1 hP1 hD1 hS1 => ?_)
  have he : g_E w.2.2.1 I J (g_upR R k i (some (w.2.2.2.1 + kv))) k = .inl (w.2.2.1 t, len, .inr (.inr (.inr (.inr (va_up (fun j => R k (j : Int)) (Int32.ofInt i).toNatClampNeg (some (w.2.2.2.1 + kv))))))) := by
    simp only [g_E, hs.2, ht, ht6, if_true, if_false]
    refine congrArg (fun f => (Sum.inl (w.2.2.1 t, len, .inr (.inr (.inr (.inr f)))) : va_E)) (funext fun j => ?_)
    have hix := g_ix h0 h1 hlen
    unfold g_upR va_up
    by_cases h : j = (Int32.ofInt i).toNatClampNeg
    · subst h
      rw [if_pos ⟨rfl, hix⟩, if_pos rfl]
    · rw [if_neg (fun z => h (by omega)), if_neg h]
  rw [g_ws_set hs.1 he (fun a ha => g_E_same rfl rfl (funext fun j => if_neg (fun z => ha z.1)))] at hP1
  exact kk H1 locs1 ls hP1 hS1 hll
/-- a final reference, in the constructor -/
theorem gz_putR {k ci j idx a : Nat} {ds : String} {ty : FieldType} (hc : g_OK w x cc nL rt own d) (hmn : g_mn x = "<init>") (h : g_lkF own idx ci j 2 ds) (hcl : (g_cls[ci]?).map (fun q => (q.2.1 j).1) = some own) (hs : g_at n k (.inl ci)) (hty : parseFieldDescriptor ds = some ty) (hn : narrow ty (.ref a) = .ref a) (hf : fits ty (.ref a) = true) (hd : decode cc pc = .ok (.putfield idx, 3)) (kk : GQ w x P u v n I J (g_upR R k (j : Int) (some a)) (pc + 3) L st) : GQ w x P u v n I J R pc L (.ref a :: gvr w k :: st) := by
  obtain ⟨C, nm, T, N, h1, h2, h3, h4, h5⟩ := h
  obtain ⟨p, e, Rm, s, m, args, below, meth, c, mc, ms⟩ := x
  obtain ⟨hx, hb, hml, hr, hown, hts, hK, hsta, hlk, hsz, hRm⟩ := hc
  obtain ⟨e1, e2, ty0, e3⟩ := g_ck ci _ h1
  have hdc : (T j).1 = own := by
    rw [h1] at hcl
    exact Option.some.inj hcl
  intro H locs ls hP hS hl
  refine va_putF (C := C) (T := T) (N := N) (ref := C) hx hb hts (g_cw ci _ h1) ty0 e3 e2 hown hK hP g_D hS k (g_at_o hs) h1 j h3 (show (Cond.fieldLink own idx C (T j).2.1 (T j).2.2.1).before args s = true by rw [h2]; exact hts _ h5) (show ∀ z, s.fieldFound? (T j).1 (T j).2.1 (T j).2.2.1 = some z → s.fieldFound? C (T j).2.1 (T j).2.2.1 = some z by rw [h2]; exact fun _ h => h) (show (T j).2.2.2 = true by rw [h2]) hmn hdc (show parseFieldDescriptor (T j).2.2.1 = some ty by rw [h2]; exact hty) hn hf (by simp [g_fs]; exact (List.getElem?_eq_some_iff.mp h4).1) hd (fun H1 locs1 hP1 hD1 hS1 => ?_)
  have he : g_E w.2.2.1 I J (g_upR R k (j : Int) (some a)) k = .inr (ci, (g_fs ci I J R k).set j (.ref a)) := by
    simp only [g_E, hs.2]
    refine congrArg (fun f => (Sum.inr (ci, f) : va_E)) (g_fs_set h4 ?_ (fun i kd hi _ => ?_)).symm
    · exact congrArg va_rf (if_pos ⟨rfl, rfl⟩)
    · unfold g_fv
      split
      · rfl
      · rfl
      · exact congrArg va_rf (if_neg (fun q => hi (by have := q.2; omega)))
  rw [g_ws_set hs.1 he (fun b hb => g_E_same rfl rfl (funext fun i => if_neg (fun q => hb q.1)))] at hP1
  exact kk H1 locs1 ls hP1 hS1 hl
/-- Object's constructor -/
theorem gz_obj {idx : Nat} {a : Nat} (hc : g_OK w x cc nL rt own d) (hlk : Cond.methodLink own idx Lib.objectInit ∈ g_tb) (hin : Cond.instanceMethod Lib.objectInit ∈ g_tb) (hcd : Cond.code Lib.objectInit ⟨#[0xb1]⟩ 1 none ∈ g_tb) (hLn : L.length = nL) (hd1 : 1 ≤ d) (hroom : (st.map fun z => z.category).sum ≤ 8) (hd : decode cc pc = .ok (.invokespecial idx, 3)) (kk : GQ w x P u v n I J R (pc + 3) L st) : GQ w x P u v n I J R pc L (.ref a :: st) := by
  obtain ⟨p, e, Rm, s, m, args, below, meth, c, mc, ms⟩ := x
  obtain ⟨hx, hb, hml, hr, hown, hts, hK, hsta, hlk2, hsz, hRm⟩ := hc
  subst hRm
  intro H locs ls hP hS hl
  refine W.objInit (a := a) (rest := st) hx hb hown (hts _ hlk) (hts _ hin) (hts _ hcd) rfl ((hl.1.trans hLn).trans hml.symm) rfl hd hd1 ?_ (kk H locs ls hP hS hl)
  show 2 * 0 + (st.map fun z => z.category).sum + 12 ≤ 40 * d
  omega
theorem gz_run {p : Program} {e : Env} {Rm : Room} {s : State} {m : MethodId} {args : Array Value} {below : List Frame} {meth : Method} {c : Code} {mc ms mc' ms' : Nat} {P' : g_P} {aa : Array Value} {H : Heap} {locs : List Loc} {ls : Array Slot} {st0 : List Value}
    (run : va_Run p w.1 e Rm s m args below meth c H locs u v mc' ms' (F0 m pc ls st0) st (gz_Q w P' aa) (g_A w)) (hS : va_S (g_A w) s.heap H locs) (hl : g_lh ls L)
    (kk : ∀ (r : Option Value) (n' : Nat) (I' : g_I) (J' : g_J) (R' : g_R), P' r n' I' J' R' → GQ w (p, e, Rm, s, m, args, below, meth, c, mc, ms) P (u + mc') (v + ms') n' I' J' R' (pc + 3) L (r.toList ++ st)) :
    W p w.1 e Rm s m args below meth c H locs u v P (F0 m pc ls st0) := by
  intro T hT X
  obtain ⟨r, s0, t, T', Ls, h0, X', hL, e1, e2, ⟨⟨r', n', I', J', R', hv, hp, hb, -⟩, hz, hk⟩, stp⟩ := run T hT X
  cases hv
  rw [h0] at hz hk
  obtain ⟨t2, a1, b1⟩ := kk r n' I' J' R' hp T'.heap (locs ++ Ls) ls (by rw [e1]; exact hb) ⟨Nat.le_trans hS.1 (by rw [e1]; exact hz), fun q h1 h2 => by rw [e1, hk q (Nat.lt_of_lt_of_le h1 hS.1) h2]; exact hS.2.1 q h1 h2, fun q hq => by
      rcases List.mem_append.mp hq with h | h
      · exact hS.2.2 q h
      · exact hL q h⟩ hl T' rfl X'
  exact ⟨t2, stp t2 a1, b1⟩
theorem gz_pre {s : State} {H : Heap} {locs : List Loc} {as : List Value} (hK : va_K w.2.1 g_cls (g_ty w.2.2.1) s) (hsta : g_sta w s) (hgo : gz_ok s) (hP : va_P w.2.1 g_cls (g_ws w n I J R) H) (hS : va_S (g_A w) s.heap H locs) (hH : H.size = w.2.2.2.1 + n) : ∀ U : State, U.heap = H → s.WarmedH U.vm → va_Pc as (gz_wd w n I J R) as.toArray U := fun U hU hW =>
  ⟨rfl, (g_pre (as := as) hK hsta hP hS U hU hW).2, by rw [hU]; exact hH, gz_ok_warm hW hgo⟩
/-- a constructor's call -/
theorem gz_callI {y : MethodName} {b : ByteArray} {mx np idx d' mc' ms' k : Nat} {as : List Value} {P' : g_P} (hc : g_OK w x cc nL rt own d) (hz : g_sz x = w.2.2.2.1 + n0) (hnn : n = n0 + u) (hgo : gz_ok (g_s x)) (hM : gz_Met w n I J R y b mx none d' mc' ms' (gvr w k :: as) P') (hy : g_my y b mx none np) (hi : y.name = "<init>") (hin : Cond.instanceMethod y ∈ g_tb) (hlk : Cond.methodLink own idx y ∈ g_tb) (hn : as.length = np) (hLn : L.length = nL) (hdd : d' + 1 ≤ d) (hlo : 19 + mx + 40 * d' ≤ 40 * d) (hroom : (st.map fun z => z.category).sum ≤ 8) (hmc : u + mc' ≤ x.2.2.2.2.2.2.2.2.2.1 ∧ v + ms' ≤ x.2.2.2.2.2.2.2.2.2.2) (hd : decode cc pc = .ok (.invokespecial idx, 3))
    (kk : ∀ (r : Option Value) (n' : Nat) (I' : g_I) (J' : g_J) (R' : g_R), P' r n' I' J' R' → GQ w x P (u + mc') (v + ms') n' I' J' R' (pc + 3) L (r.toList ++ st)) : GQ w x P u v n I J R pc L (as.reverse ++ gvr w k :: st) := by
  obtain ⟨p, e, Rm, s, m, args, below, meth, c, mc, ms⟩ := x
  obtain ⟨hx, hb, hml, hr, hown, hts, hK, hsta, hlk2, hsz, hRm⟩ := hc
  intro H locs ls hP hS hl T hT X
  have hH : H.size = w.2.2.2.1 + n := gz_size hP hz hnn (by rw [← hT]; exact X.heapSize) hS.1
  refine gz_run (aa := (gvr w k :: as).toArray) ?_ hS hl kk T hT X
  subst hRm
  exact va_runI (As := as) (rest := st) (b := w.2.2.2.1 + k) ⟨hx, hb, hml, hown, hts⟩ hM ⟨callB_of (Ts := g_tb) np hts (g_good hy) rfl rfl rfl (hts _ hy.2.1) (hts _ hlk) ⟨hy.2.2.1, hy.2.2.2.1, hy.2.2.2.2⟩ ⟨hdd, by show 8 + (mx + 11) + 40 * d' ≤ 40 * d; omega⟩, hi, hts _ hin⟩
    ⟨gz_blind, gz_pre (as := gvr w k :: as) hK hsta hgo hP hS hH⟩ rfl hn (hl.1.trans hLn) rfl (lv_room hroom) hd hmc
/-- .. private, a nest mate's -/
theorem gz_callIN {y : MethodName} {b : ByteArray} {host : String} {mx np idx d' mc' ms' k : Nat} {as : List Value} {P' : g_P} (hc : g_OK w x cc nL rt own d) (hz : g_sz x = w.2.2.2.1 + n0) (hnn : n = n0 + u) (hgo : gz_ok (g_s x)) (hM : gz_Met w n I J R y b mx none d' mc' ms' (gvr w k :: as) P') (hy : g_my y b mx none np) (hi : y.name = "<init>") (hin : Cond.instanceMethod y ∈ g_tb) (hlk : (own, idx, y, host) ∈ gz_nw) (hn : as.length = np) (hLn : L.length = nL) (hdd : d' + 1 ≤ d) (hlo : 19 + mx + 40 * d' ≤ 40 * d) (hroom : (st.map fun z => z.category).sum ≤ 8) (hmc : u + mc' ≤ x.2.2.2.2.2.2.2.2.2.1 ∧ v + ms' ≤ x.2.2.2.2.2.2.2.2.2.2) (hd : decode cc pc = .ok (.invokespecial idx, 3))
    (kk : ∀ (r : Option Value) (n' : Nat) (I' : g_I) (J' : g_J) (R' : g_R), P' r n' I' J' R' → GQ w x P (u + mc') (v + ms') n' I' J' R' (pc + 3) L (r.toList ++ st)) : GQ w x P u v n I J R pc L (as.reverse ++ gvr w k :: st) := by
  obtain ⟨p, e, Rm, s, m, args, below, meth, c, mc, ms⟩ := x
  obtain ⟨hx, hb, hml, hr, hown, hts, hK, hsta, hlk2, hsz, hRm⟩ := hc
  intro H locs ls hP hS hl T hT X
  have hH : H.size = w.2.2.2.1 + n := gz_size hP hz hnn (by rw [← hT]; exact X.heapSize) hS.1
  refine gz_run (aa := (gvr w k :: as).toArray) ?_ hS hl kk T hT X
  subst hRm
  exact va_runIN (As := as) (rest := st) (b := w.2.2.2.1 + k) (host := host) ⟨hx, hb, hml, hown, hts⟩ hM ⟨va_cnB (Ts := g_tb) np hts (g_good hy) rfl rfl rfl (hgo.2 _ hlk) (hts _ hy.2.1) ⟨hy.2.2.1, hy.2.2.2.1, hy.2.2.2.2⟩ ⟨hdd, by show 8 + (mx + 11) + 40 * d' ≤ 40 * d; omega⟩, hi, hts _ hin⟩
    ⟨gz_blind, gz_pre (as := gvr w k :: as) hK hsta hgo hP hS hH⟩ rfl hn (hl.1.trans hLn) rfl (lv_room hroom) hd hmc
/-- a constructor's end -/
theorem gz_vret {P : g_P} (hc : g_OK w x cc nL none own d) (hz : g_sz x = w.2.2.2.1 + n0) (hnn : n = n0 + u) (he : x.2.2.2.2.2.2.2.2.2.1 = u ∧ x.2.2.2.2.2.2.2.2.2.2 = v) (hd : decode cc pc = .ok (.return_, 1)) (h : P none n I J R) : GQ w x (gz_mq w P x) u v n I J R pc L [] := by
  obtain ⟨p, e, Rm, s, m, args, below, meth, c, mc, ms⟩ := x
  obtain ⟨hx, hb, hml, hr, hown, hts, hK, hsta, hlk, hsz, hRm⟩ := hc
  obtain ⟨rfl, rfl⟩ := he
  intro H locs ls hP hS hll T hT X
  have hH : H.size = w.2.2.2.1 + n := gz_size hP hz hnn (by rw [← hT]; exact X.heapSize) hS.1
  exact W.vret hx hb hr (fun t ht _ => ⟨⟨none, n, I, J, R, rfl, h, by rw [ht]; exact hP, by rw [ht]; exact hH⟩, hS.F ht⟩) hS.2.2 hd hlk T hT X
end GZ
