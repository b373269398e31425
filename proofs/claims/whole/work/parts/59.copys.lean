section CPS
variable {p : Program} {l : Launch} {e : Env} {Rm : Room} {s : State} {mi : MethodId} {args : Array Value} {below : List Frame} {meth : Method} {c : Code} {H : Heap} {locs : List Loc} {cells slots : Nat} {Q : State → Prop}
variable {pc : Nat} {ls : Array Slot} {rest : List Value} {D : va_G} {cl : List vw_C} {A : Nat → Prop} {a : Nat} {tys : List (ClassId × FieldType)} {ws : va_W}
/-- from a static array of numbers into one of ours, from 0 to 0 -/
theorem w_copys {cc : ByteArray} (hexec : p.tables.exec = Jvm.exec) (hb : c.code = cc) (hml : c.maxLocals = ls.size) {own : String} {index : Nat} (hown : s.vm.findClass own = some mi.cls) (hlink : (Cond.methodLink own index arraycopyName).before args s = true) (hnat : (Cond.native arraycopyName).before args s = true) (hstat : (Cond.static arraycopyName).before args s = true) (hini : (Cond.initialized "java/lang/System").before args s = true)
    (hK : va_K D cl tys s) (hP : va_P D cl ws H) (hD : va_D A ws) (hS : va_S A s.heap H locs) {b0 n0 : Nat} {f : Nat → Int32} (hX : va_T .int b0 n0 (fun j => .int (f j)) A s s.heap) (q1 t1 : Nat) {c1 : ClassId} {n1 : Nat} {g : Nat → Int32} (ha1 : ws[q1]? = some (a, .inl (c1, n1, .inl g))) (ht1 : tys[t1]? = some (c1, .int))
    {n : Int32} (h3 : ¬ n < 0) (h4 : n.toNatClampNeg ≤ n0) (h5 : n.toNatClampNeg ≤ n1)
    (hframes : 1 ≤ Rm.frames) (hlocals : (rest.map fun v => v.category).sum + (nativeFrameWords "java/lang/System" "arraycopy" 5 + 11) ≤ Rm.locals) (hdg : decode cc pc = .ok (.invokestatic index, 3))
    (kk : ∀ (H1 : Heap) (locs1 : List Loc), va_P D cl (ws.set q1 (a, .inl (c1, n1, .inl (va_cpy f g 0 0 n.toNatClampNeg)))) H1 → va_S A s.heap H1 locs1 → W p l e Rm s mi args below meth c H1 locs1 cells slots Q (F0 mi (pc + 3) ls rest)) : W p l e Rm s mi args below meth c H locs cells slots Q (F0 mi pc ls (.int n :: .int 0 :: .ref a :: .int 0 :: .ref b0 :: rest)) := by
  have h0 : ¬ (0 : Int32) < 0 := by decide
  have z0 : (0 : Int32).toNatClampNeg = 0 := by decide
  have zi : (0 : Int32).toInt = 0 := by decide
  have nn : n.toInt = (n.toNatClampNeg : Int) := by
    have hz0 : (0 : Int) ≤ n.toInt := by
      have := Int32.not_lt.mp h3
      simpa using Int32.le_iff_toInt_le.mp this
    show n.toInt = ((n.toInt.toNat : Nat) : Int)
    omega
  intro T hT X
  obtain ⟨scr, g1, g2, g3, g4, -, g5, g7⟩ := hX
  have hc0 : H[b0]? = some scr := by rw [hS.2.1 b0 (Array.getElem?_eq_some_iff.mp g1).1 g7]; exact g1
  have hc1 : H[a]? = some (vp_cell c1 (n1, .inl g)) := hP q1 _ ha1
  obtain ⟨g6, k0, hk0, cm0, hkk0⟩ := g2
  obtain ⟨-, k1, hk1, cm1, hkk1⟩ := (hK.2 t1 _ ht1).1 n1 (fun j => .int (g j))
  obtain ⟨vm', X', step⟩ := X.arraycopy hexec hown hlink hnat hstat hini (src := b0) (dst := a) (cs := scr) (cd := vp_cell c1 (n1, .inl g)) (srcPos := 0) (destPos := 0) (n := n) (by rw [hT]; exact hc0) (by rw [hT]; exact hc1)
    g6 (fun _ h => by cases h) g3 (fun h => by cases h) hk0 hk1 hkk0 hkk1 (by simp [refKind]) h0 h0 h3
    (by rw [nn, zi]; omega)
    (by rw [nn, zi]; show ¬ _ > ((arrV c1 n1 (fun j => .int (g j))).slots.size : Int); rw [arrV_size]; omega)
    (fun vm₁ _ i hi => by
      have e1 : scr.slots.getD ((0 : Int32).toNatClampNeg + i) .null = .int (f ((0 : Int32).toNatClampNeg + i)) := by
        rw [Array.getD_eq_getD_getElem?, g5 _ (by rw [z0]; omega)]
        rfl
      exact ⟨by rw [e1]; rfl, by rw [e1]; exact trivial⟩)
    (g := F0 mi pc ls (.int n :: .int 0 :: .ref a :: .int 0 :: .ref b0 :: rest)) rfl (by rw [hml]) (rest := rest) rfl (by rw [hb]; exact hdg) hframes (by show 2 * 0 + _ + _ ≤ _; omega)
  have e1 : copied scr (vp_cell c1 (n1, .inl g)) 0 0 n = vp_cell c1 (n1, .inl (va_cpy f g 0 0 n.toNatClampNeg)) := va_copiedX (fun z => .int z) scr c1 f g g5 (by omega)
  rw [e1] at X' step
  have hl : a < H.size := (Array.getElem?_eq_some_iff.mp hc1).1
  have hheap : ((T.setVm vm').setCell a (vp_cell c1 (n1, .inl (va_cpy f g 0 0 n.toNatClampNeg)))).heap = H.setIfInBounds a (vp_cell c1 (n1, .inl (va_cpy f g 0 0 n.toNatClampNeg))) := by rw [← hT]; rfl
  have oq : ∀ q : Nat, q ≠ a → (H.setIfInBounds a (vp_cell c1 (n1, .inl (va_cpy f g 0 0 n.toNatClampNeg))))[q]? = H[q]? := fun q hq => by simp [Array.getElem?_setIfInBounds, Ne.symm hq]
  obtain ⟨t, a1, b1⟩ := kk _ _ (hP.set hD ha1 (show (H.setIfInBounds a _)[a]? = some _ by simp [Array.getElem?_setIfInBounds, hl]) oq) ⟨by simp; exact hS.1, fun q d1 d2 => by
      rw [oq q (fun y => d2 (by rw [y]; exact hD.2 q1 _ ha1))]
      exact hS.2.1 q d1 d2, fun q hq => by
      rcases List.mem_append.mp hq with h | h
      · exact hS.2.2 q h
      · obtain ⟨z, -, hz⟩ := List.mem_map.mp h
        rw [← hz]
        exact hD.2 q1 _ ha1⟩ _ hheap X'
  exact ⟨t, step t a1, b1⟩
end CPS
/-- a list laid into a cell from its place 0 on -/
def g_cps (I : g_I) (l : List Int) (k : Nat) : g_I := fun a j => if a = k ∧ 0 ≤ j ∧ j < (l.length : Int) then l.getD j.toNat 0 else I a j
section GCPS
variable {w : g_W} {x : g_C} {P : g_P} {u v n : Nat} {I : g_I} {J : g_J} {R : g_R} {pc : Nat} {L : List (Option Value)} {st : List Value} {cc : ByteArray} {nL : Nat} {rt : Option FieldType} {own : String} {d : Nat}
theorem g_copyS {i k1 n1 idx : Nat} {m : Int} {q : String × List Int} (hc : g_OK w x cc nL rt own d) (hq : g_sar[i]? = some q) (hs1 : g_at n k1 (.inr (0, n1))) (hb1 : n1 < 2 ^ 31) (hLn : L.length = nL)
    (hlk : Cond.methodLink own idx arraycopyName ∈ g_tb) (hnat : Cond.native arraycopyName ∈ g_tb) (hstat : Cond.static arraycopyName ∈ g_tb) (hini : Cond.initialized "java/lang/System" ∈ g_tb)
    (hm : (q.2.length : Int) = m) (h5 : m ≤ (n1 : Int)) (hd1 : 1 ≤ d) (hroom : (st.map fun z => z.category).sum ≤ 4) (hd : decode cc pc = .ok (.invokestatic idx, 3))
    (kk : ∀ I' : g_I, I' = g_cps I q.2 k1 → G w x P u v n I' J R (pc + 3) L st) : G w x P u v n I J R pc L (gvI m :: gvI 0 :: gvr w k1 :: gvI 0 :: .ref (w.2.2.2.2 i) :: st) := by
  obtain ⟨p, e, Rm, s, mm, args, below, meth, c, mc, ms⟩ := x
  obtain ⟨hx, hb, hml, hr, hown, hts, hK, hsta, hlk2, hsz, hRm⟩ := hc
  intro H locs ls hP hS hl
  have e3 : (Int32.ofInt m).toNatClampNeg = q.2.length := by rw [g_nt (by omega) (by omega)]; omega
  have hfr : 1 ≤ Rm.frames := by rw [hRm]; exact hd1
  have hlo : (st.map fun z => z.category).sum + (nativeFrameWords "java/lang/System" "arraycopy" 5 + 11) ≤ Rm.locals := by
    have h24 : nativeFrameWords "java/lang/System" "arraycopy" 5 ≤ 24 := by decide +kernel
    have h40 : Rm.locals = 40 * d := by rw [hRm]
    omega
  refine w_copys (Rm := Rm) (rest := st) hx hb (by rw [hml, hl.1, hLn]) hown (hts _ hlk) (hts _ hnat) (hts _ hstat) (hts _ hini) hK hP g_D hS (f := fun j => Int32.ofInt (q.2.getD j 0)) (hsta.1 i q hq).2 k1 0 (g_at_i hs1 (by decide)) rfl (g_nneg (by omega) (by omega)) (by rw [e3]; exact Nat.le_refl _) (by rw [e3]; omega) hfr hlo hd (fun H1 locs1 hP1 hS1 => ?_)
  rw [g_ws_set (I' := g_cps I q.2 k1) (J' := J) (R' := R) hs1.1 ?_ (fun a ha => g_E_same (funext fun j => if_neg (fun z => ha z.1)) rfl rfl)] at hP1
  · exact kk _ rfl H1 locs1 ls hP1 hS1 hl
  · simp only [g_E, hs1.2]
    rw [if_pos (by decide)]
    congr 4
    funext j
    simp only [va_cpy, e3, g_cps]
    by_cases hj : (j : Int) < (q.2.length : Int)
    · have hj2 : 0 ≤ j ∧ j < 0 + q.2.length := by omega
      rw [if_pos hj2]
      simp only [true_and, hj, show (0 : Int) ≤ (j : Int) by omega, if_true, Int.toNat_natCast, Nat.sub_zero, Nat.zero_add, and_self]
    · have hj2 : ¬ (0 ≤ j ∧ j < 0 + q.2.length) := by omega
      rw [if_neg hj2]
      simp only [true_and, hj, if_false, and_false]
end GCPS
