/-- System.arraycopy over numbers -/
def g_cpy (I : g_I) (src : Nat) (sp : Int) (dst : Nat) (dp n : Int) : g_I := fun a j => if a = dst ∧ dp ≤ j ∧ j < dp + n then I src (sp + (j - dp)) else I a j
theorem g_cpy_k {I : g_I} {src dst a : Nat} {sp dp n j : Int} (h : a ≠ dst) : g_cpy I src sp dst dp n a j = I a j := if_neg (fun q => h q.1)
theorem g_cpy_in {I : g_I} {src dst : Nat} {sp dp n j : Int} (h : dp ≤ j) (h2 : j < dp + n) : g_cpy I src sp dst dp n dst j = I src (sp + (j - dp)) := if_pos ⟨rfl, h, h2⟩
theorem g_cpy_out {I : g_I} {src dst : Nat} {sp dp n j : Int} (h : j < dp ∨ dp + n ≤ j) : g_cpy I src sp dst dp n dst j = I dst j := if_neg (fun q => by omega)
theorem g_ltL {x y : Int} (hx : g64 x) (hy : g64 y) : Int64.ofInt x < Int64.ofInt y ↔ x < y := by
  rw [Int64.lt_iff_toInt_lt, g64_to hx, g64_to hy]
section GJ
variable {w : g_W} {x : g_C} {P : g_P} {u v n : Nat} {I : g_I} {J : g_J} {R : g_R} {pc : Nat} {L : List (Option Value)} {st : List Value} {cc : ByteArray} {nL : Nat} {rt : Option FieldType} {own : String} {d : Nat}
theorem g_nt {i : Int} (h0 : 0 ≤ i) (h1 : i < 2147483648) : (Int32.ofInt i).toNatClampNeg = i.toNat := g_cl ⟨by omega, h1⟩
theorem g_nneg {i : Int} (h0 : 0 ≤ i) (h1 : i < 2147483648) : ¬ Int32.ofInt i < 0 := fun h => by
  have h2 := (g_ltI (x := i) (y := 0) ⟨by omega, h1⟩ ⟨by decide, by decide⟩).mp h
  omega
theorem g_copy {k0 k1 n0 n1 idx : Nat} {sp dp m : Int} (hc : g_OK w x cc nL rt own d) (hs0 : g_at n k0 (.inr (0, n0))) (hs1 : g_at n k1 (.inr (0, n1))) (hb0 : n0 < 2 ^ 31) (hb1 : n1 < 2 ^ 31) (hLn : L.length = nL)
    (hlk : Cond.methodLink own idx arraycopyName ∈ g_tb) (hnat : Cond.native arraycopyName ∈ g_tb) (hstat : Cond.static arraycopyName ∈ g_tb) (hini : Cond.initialized "java/lang/System" ∈ g_tb)
    (h1 : 0 ≤ sp) (h2 : 0 ≤ dp) (h3 : 0 ≤ m) (h4 : sp + m ≤ (n0 : Int)) (h5 : dp + m ≤ (n1 : Int)) (hd1 : 1 ≤ d) (hroom : (st.map fun z => z.category).sum ≤ 4) (hd : decode cc pc = .ok (.invokestatic idx, 3))
    (kk : ∀ I' : g_I, I' = g_cpy I k0 sp k1 dp m → G w x P u v n I' J R (pc + 3) L st) : G w x P u v n I J R pc L (gvI m :: gvI dp :: gvr w k1 :: gvI sp :: gvr w k0 :: st) := by
  obtain ⟨p, e, Rm, s, mm, args, below, meth, c, mc, ms⟩ := x
  obtain ⟨hx, hb, hml, hr, hown, hts, hK, hsta, hlk2, hsz, hRm⟩ := hc
  intro H locs ls hP hS hl
  have e1 : (Int32.ofInt sp).toNatClampNeg = sp.toNat := g_nt h1 (by omega)
  have e2 : (Int32.ofInt dp).toNatClampNeg = dp.toNat := g_nt h2 (by omega)
  have e3 : (Int32.ofInt m).toNatClampNeg = m.toNat := g_nt h3 (by omega)
  have hfr : 1 ≤ Rm.frames := by rw [hRm]; exact hd1
  have hlo : (st.map fun z => z.category).sum + (nativeFrameWords "java/lang/System" "arraycopy" 5 + 11) ≤ Rm.locals := by
    have h24 : nativeFrameWords "java/lang/System" "arraycopy" 5 ≤ 24 := by decide +kernel
    have h40 : Rm.locals = 40 * d := by rw [hRm]
    omega
  refine va_copyi (R := Rm) (rest := st) (ty := .int) hx hb (by rw [hml, hl.1, hLn]) hown (hts _ hlk) (hts _ hnat) (hts _ hstat) (hts _ hini) hK hP g_D hS k0 k1 0 0 (g_at_i hs0 (by decide)) (g_at_i hs1 (by decide)) rfl rfl rfl (g_nneg h1 (by omega)) (g_nneg h2 (by omega)) (g_nneg h3 (by omega)) (by rw [e1, e3]; omega) (by rw [e2, e3]; omega) (fun i hi => rfl) hfr hlo hd (fun H1 locs1 hP1 hD1 hS1 => ?_)
  rw [g_ws_set (I' := g_cpy I k0 sp k1 dp m) (J' := J) (R' := R) hs1.1 ?_ (fun a ha => g_E_same (funext fun j => g_cpy_k ha) rfl rfl)] at hP1
  · exact kk _ rfl H1 locs1 ls hP1 hS1 hl
  · simp only [g_E, hs1.2]
    rw [if_pos (by decide)]
    congr 4
    funext j
    simp only [va_cpy, e1, e2, e3, g_cpy]
    by_cases hj : dp ≤ (j : Int) ∧ (j : Int) < dp + m
    · have hj2 : dp.toNat ≤ j ∧ j < dp.toNat + m.toNat := by omega
      rw [if_pos hj2]
      simp only [true_and, hj, if_true]
      congr 2
      omega
    · have hj2 : ¬ (dp.toNat ≤ j ∧ j < dp.toNat + m.toNat) := by omega
      rw [if_neg hj2]
      simp only [true_and, hj, if_false]
theorem g_ldcw {idx : Nat} {k : Int} (hc : g_OK w x cc nL rt own d) (hd : decode cc pc = .ok (.ldc_w idx, 3)) (z : Int32) (hw : Cond.constant own idx z ∈ g_tb) (hz : z = Int32.ofInt k) (kk : G w x P u v n I J R (pc + 3) L (gvI k :: st)) : G w x P u v n I J R pc L st := by
  obtain ⟨p, e, Rm, s, m, args, below, meth, c, mc, ms⟩ := x
  obtain ⟨hx, hb, hml, hr, hown, hts, hK, hsta, hlk, hsz, hRm⟩ := hc
  subst hz
  exact fun H locs ls hP hS hl => lv_ldcw hx hb hown (hts _ hw) hd (kk H locs ls hP hS hl)
theorem g_mmaxI {idx : Nat} {a b : Int} (hc : g_OK w x cc nL rt own d) (ha : g32 a) (hb2 : g32 b) (hLn : L.length = nL) (hlk : Cond.methodLink own idx Lib.Math.max.name ∈ g_tb) (hstat : Cond.static Lib.Math.max.name ∈ g_tb) (hini : Cond.initialized "java/lang/Math" ∈ g_tb) (hcode : Cond.code Lib.Math.max.name Lib.Math.max.code 2 (some .int) ∈ g_tb) (hd1 : 1 ≤ d) (hroom : (st.map fun z => z.category).sum ≤ 8) (hm : x.2.2.2.2.2.2.2.2.2.1 = u ∧ x.2.2.2.2.2.2.2.2.2.2 = v) (hd : decode cc pc = .ok (.invokestatic idx, 3)) (kk : G w x P u v n I J R (pc + 3) L (gvI (max a b) :: st)) : G w x P u v n I J R pc L (gvI b :: gvI a :: st) := by
  obtain ⟨p, e, Rm, s, m, args, below, meth, c, mc, ms⟩ := x
  obtain ⟨hx, hb, hml, hr, hown, hts, hK, hsta, hlk2, hsz, hRm⟩ := hc
  intro H locs ls hP hS hl
  have h2 := kk H locs ls hP hS hl
  have hfr : 1 ≤ Rm.frames := by rw [hRm]; exact hd1
  have hlo : (st.map fun z => z.category).sum + 13 ≤ Rm.locals := by
    have h40 : Rm.locals = 40 * d := by rw [hRm]
    omega
  have hcl : u ≤ Rm.cells := by rw [hRm]; exact Nat.le_of_eq hm.1.symm
  have hsl : v ≤ Rm.slots := by rw [hRm]; exact Nat.le_of_eq hm.2.symm
  refine va_mmax (R := Rm) hx hb (by rw [hml, hl.1, hLn]) hown (hts _ hlk) (hts _ hstat) (hts _ hini) (hts _ hcode) hfr hlo hcl hsl hd ?_
  rw [gvI] at h2
  have e : (Int32.ofInt (max a b)) = (if Int32.ofInt a < Int32.ofInt b then Int32.ofInt b else Int32.ofInt a) := by
    split
    · rename_i q; rw [g_ltI ha hb2] at q; congr 1; omega
    · rename_i q; rw [g_ltI ha hb2] at q; congr 1; omega
  rw [e] at h2
  exact h2
theorem g_mmaxL {idx : Nat} {a b : Int} (hc : g_OK w x cc nL rt own d) (ha : g64 a) (hb2 : g64 b) (hLn : L.length = nL) (hlk : Cond.methodLink own idx Lib.MathLoose.max_long.x ∈ g_tb) (hstat : Cond.static Lib.MathLoose.max_long.x ∈ g_tb) (hini : Cond.initialized "java/lang/Math" ∈ g_tb) (hcode : Cond.code Lib.MathLoose.max_long.x Lib.MathLoose.max_long.code 4 (some .long) ∈ g_tb) (hd1 : 1 ≤ d) (hroom : (st.map fun z => z.category).sum ≤ 8) (hm : x.2.2.2.2.2.2.2.2.2.1 = u ∧ x.2.2.2.2.2.2.2.2.2.2 = v) (hd : decode cc pc = .ok (.invokestatic idx, 3)) (kk : G w x P u v n I J R (pc + 3) L (gvL (max a b) :: st)) : G w x P u v n I J R pc L (gvL b :: gvL a :: st) := by
  obtain ⟨p, e, Rm, s, m, args, below, meth, c, mc, ms⟩ := x
  obtain ⟨hx, hb, hml, hr, hown, hts, hK, hsta, hlk2, hsz, hRm⟩ := hc
  intro H locs ls hP hS hl
  have h2 := kk H locs ls hP hS hl
  have hfr : 1 ≤ Rm.frames := by rw [hRm]; exact hd1
  have hlo : (st.map fun z => z.category).sum + 15 ≤ Rm.locals := by
    have h40 : Rm.locals = 40 * d := by rw [hRm]
    omega
  have hcl : u ≤ Rm.cells := by rw [hRm]; exact Nat.le_of_eq hm.1.symm
  have hsl : v ≤ Rm.slots := by rw [hRm]; exact Nat.le_of_eq hm.2.symm
  refine va_mmax_long (R := Rm) hx hb (by rw [hml, hl.1, hLn]) hown (hts _ hlk) (hts _ hstat) (hts _ hini) (hts _ hcode) hfr hlo hcl hsl hd ?_
  rw [gvL] at h2
  have e : (Int64.ofInt (max a b)) = (if Int64.ofInt b < Int64.ofInt a then Int64.ofInt a else Int64.ofInt b) := by
    split
    · rename_i q; rw [g_ltL hb2 ha] at q; congr 1; omega
    · rename_i q; rw [g_ltL hb2 ha] at q; congr 1; omega
  rw [e] at h2
  exact h2
theorem g_mminL {idx : Nat} {a b : Int} (hc : g_OK w x cc nL rt own d) (ha : g64 a) (hb2 : g64 b) (hLn : L.length = nL) (hlk : Cond.methodLink own idx Lib.MathLoose.min_long.x ∈ g_tb) (hstat : Cond.static Lib.MathLoose.min_long.x ∈ g_tb) (hini : Cond.initialized "java/lang/Math" ∈ g_tb) (hcode : Cond.code Lib.MathLoose.min_long.x Lib.MathLoose.min_long.code 4 (some .long) ∈ g_tb) (hd1 : 1 ≤ d) (hroom : (st.map fun z => z.category).sum ≤ 8) (hm : x.2.2.2.2.2.2.2.2.2.1 = u ∧ x.2.2.2.2.2.2.2.2.2.2 = v) (hd : decode cc pc = .ok (.invokestatic idx, 3)) (kk : G w x P u v n I J R (pc + 3) L (gvL (min a b) :: st)) : G w x P u v n I J R pc L (gvL b :: gvL a :: st) := by
  obtain ⟨p, e, Rm, s, m, args, below, meth, c, mc, ms⟩ := x
  obtain ⟨hx, hb, hml, hr, hown, hts, hK, hsta, hlk2, hsz, hRm⟩ := hc
  intro H locs ls hP hS hl
  have h2 := kk H locs ls hP hS hl
  have hfr : 1 ≤ Rm.frames := by rw [hRm]; exact hd1
  have hlo : (st.map fun z => z.category).sum + 15 ≤ Rm.locals := by
    have h40 : Rm.locals = 40 * d := by rw [hRm]
    omega
  have hcl : u ≤ Rm.cells := by rw [hRm]; exact Nat.le_of_eq hm.1.symm
  have hsl : v ≤ Rm.slots := by rw [hRm]; exact Nat.le_of_eq hm.2.symm
  refine va_mmin_long (R := Rm) hx hb (by rw [hml, hl.1, hLn]) hown (hts _ hlk) (hts _ hstat) (hts _ hini) (hts _ hcode) hfr hlo hcl hsl hd ?_
  rw [gvL] at h2
  have e : (Int64.ofInt (min a b)) = (if Int64.ofInt b < Int64.ofInt a then Int64.ofInt b else Int64.ofInt a) := by
    split
    · rename_i q; rw [g_ltL hb2 ha] at q; congr 1; omega
    · rename_i q; rw [g_ltL hb2 ha] at q; congr 1; omega
  rw [e] at h2
  exact h2
end GJ
