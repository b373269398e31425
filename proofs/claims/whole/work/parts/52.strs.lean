theorem jl_J0_9 : Cond.fieldLink RJ0 9 "java/lang/String" "value" "[B" ∈ g_tb := List.mem_filter.mpr ⟨List.mem_of_getElem? (i := 2111) (by decide +kernel), by decide +kernel⟩
theorem jl_J0_15 : Cond.fieldLink RJ0 15 "java/lang/String" "coder" "B" ∈ g_tb := List.mem_filter.mpr ⟨List.mem_of_getElem? (i := 2110) (by decide +kernel), by decide +kernel⟩
theorem jl_J0_38 : Cond.fieldLink RJ0 38 "java/lang/String" "COMPACT_STRINGS" "Z" ∈ g_tb := List.mem_filter.mpr ⟨List.mem_of_getElem? (i := 609) (by decide +kernel), by decide +kernel⟩
theorem jl_J0_1053 : Cond.fieldLink RJ0 1053 "jdk/internal/util/Preconditions" "SIOOBE_FORMATTER" "Ljava/util/function/BiFunction;" ∈ g_tb := List.mem_filter.mpr ⟨List.mem_of_getElem? (i := 652) (by decide +kernel), by decide +kernel⟩
/-- how long a text is; its signs -/
abbrev g_tln (i : Nat) : Int := (g_len.getD i 0 : Nat)
def g_tx (i : Nat) (j : Int) : Int := ((g_byt.getD i []).getD j.toNat 0).toInt
theorem g_tln_in {i : Nat} : 0 ≤ g_tln i ∧ g_tln i ≤ 12 := by
  have : ∀ i : Fin 12, 0 ≤ g_tln i.val ∧ g_tln i.val ≤ 12 := by decide +kernel
  by_cases h : i < 12
  · exact this ⟨i, h⟩
  · have h2 : g_tln i = 0 := by
      show ((g_len.getD i 0 : Nat) : Int) = 0
      rw [List.getD_eq_getElem?_getD, List.getElem?_eq_none (show g_len.length ≤ i from Nat.le_of_not_lt h)]; rfl
    omega
theorem g_tx32 {i : Nat} {j : Int} : g32 (g_tx i j) := g32_of _
section GSTR
variable {w : g_W} {x : g_C} {P : g_P} {u v n : Nat} {I : g_I} {J : g_J} {R : g_R} {pc : Nat} {L : List (Option Value)} {st : List Value} {cc : ByteArray} {nL : Nat} {rt : Option FieldType} {own : String} {d : Nat}
theorem g_sCS {idx : Nat} (hc : g_OK w x cc nL rt own d) (hl : Cond.fieldLink own idx "java/lang/String" "COMPACT_STRINGS" "Z" ∈ g_tb) (hd : decode cc pc = .ok (.getstatic idx, 3)) (kk : G w x P u v n I J R (pc + 3) L (gvI 1 :: st)) : G w x P u v n I J R pc L st := by
  obtain ⟨p, e, Rm, s, m, args, below, meth, c, mc, ms⟩ := x
  obtain ⟨hx, hb, hml, hr, hown, hts, hK, hsta, hlk, hsz, hRm⟩ := hc
  exact fun H locs ls hP hS hll => va_gets hx hb hsta.2.2.2.1 hS hown (hts _ hl) (fun _ h => h) hd (kk H locs ls hP hS hll)
theorem g_sFM {idx : Nat} (hc : g_OK w x cc nL rt own d) (hl : Cond.fieldLink own idx "jdk/internal/util/Preconditions" "SIOOBE_FORMATTER" "Ljava/util/function/BiFunction;" ∈ g_tb) (hd : decode cc pc = .ok (.getstatic idx, 3)) (kk : ∀ z : Value, (z = .null ∨ ∃ a : Nat, z = .ref a) → G w x P u v n I J R (pc + 3) L (z :: st)) : G w x P u v n I J R pc L st := by
  obtain ⟨p, e, Rm, s, m, args, below, meth, c, mc, ms⟩ := x
  obtain ⟨hx, hb, hml, hr, hown, hts, hK, hsta, hlk, hsz, hRm⟩ := hc
  rcases hsta.2.2.2.2.1 with h | ⟨t, h⟩
  · exact fun H locs ls hP hS hll => va_gets hx hb h hS hown (hts _ hl) (fun _ h => h) hd (kk _ (.inl rfl) H locs ls hP hS hll)
  · exact fun H locs ls hP hS hll => va_gets hx hb h hS hown (hts _ hl) (fun _ h => h) hd (kk _ (.inr ⟨t, rfl⟩) H locs ls hP hS hll)
theorem g_sVal {i idx : Nat} (hc : g_OK w x cc nL rt own d) (hi : i < 12) (hl : Cond.fieldLink own idx "java/lang/String" "value" "[B" ∈ g_tb) (hd : decode cc pc = .ok (.getfield idx, 3)) (kk : G w x P u v n I J R (pc + 3) L (.ref (w.2.2.2.2 (200 + i)) :: st)) : G w x P u v n I J R pc L (.ref (w.2.2.2.2 (100 + i)) :: st) := by
  obtain ⟨p, e, Rm, s, m, args, below, meth, c, mc, ms⟩ := x
  obtain ⟨hx, hb, hml, hr, hown, hts, hK, hsta, hlk, hsz, hRm⟩ := hc
  exact fun H locs ls hP hS hll => vk_getf hx hb (hsta.2.1.1 i hi).2.2.1 hS hown (hts _ hl) (fun _ h => h) hd (kk H locs ls hP hS hll)
theorem g_sCod {i idx : Nat} (hc : g_OK w x cc nL rt own d) (hi : i < 12) (hl : Cond.fieldLink own idx "java/lang/String" "coder" "B" ∈ g_tb) (hd : decode cc pc = .ok (.getfield idx, 3)) (kk : G w x P u v n I J R (pc + 3) L (gvI 0 :: st)) : G w x P u v n I J R pc L (.ref (w.2.2.2.2 (100 + i)) :: st) := by
  obtain ⟨p, e, Rm, s, m, args, below, meth, c, mc, ms⟩ := x
  obtain ⟨hx, hb, hml, hr, hown, hts, hK, hsta, hlk, hsz, hRm⟩ := hc
  exact fun H locs ls hP hS hll => vk_getf hx hb (hsta.2.1.1 i hi).2.1 hS hown (hts _ hl) (fun _ h => h) hd (kk H locs ls hP hS hll)
theorem g_sLen {i : Nat} (hc : g_OK w x cc nL rt own d) (hi : i < 12) (hd : decode cc pc = .ok (.arraylength, 1)) (kk : G w x P u v n I J R (pc + 1) L (gvI (g_tln i) :: st)) : G w x P u v n I J R pc L (.ref (w.2.2.2.2 (200 + i)) :: st) := by
  obtain ⟨p, e, Rm, s, m, args, below, meth, c, mc, ms⟩ := x
  obtain ⟨hx, hb, hml, hr, hown, hts, hK, hsta, hlk, hsz, hRm⟩ := hc
  exact fun H locs ls hP hS hll => va_tlen hx hb (hsta.2.1.1 i hi).2.2.2 hS (v := Int32.ofInt (g_tln i)) (by
    have : ∀ i : Fin 12, Int32.ofNat (g_len.getD i.val 0) = Int32.ofInt (g_tln i.val) := by decide +kernel
    exact this ⟨i, hi⟩) hd (kk H locs ls hP hS hll)
theorem g_sByt {i : Nat} {j : Int} (hc : g_OK w x cc nL rt own d) (hi : i < 12) (h0 : 0 ≤ j) (h1 : j < g_tln i) (hd : decode cc pc = .ok (.baload, 1)) (kk : G w x P u v n I J R (pc + 1) L (gvI (g_tx i j) :: st)) : G w x P u v n I J R pc L (gvI j :: .ref (w.2.2.2.2 (200 + i)) :: st) := by
  obtain ⟨p, e, Rm, s, m, args, below, meth, c, mc, ms⟩ := x
  obtain ⟨hx, hb, hml, hr, hown, hts, hK, hsta, hlk, hsz, hRm⟩ := hc
  have hb2 := (g_tln_in (i := i)).2
  have h1' : j < ((g_len.getD i 0 : Nat) : Int) := h1
  exact fun H locs ls hP hS hll => va_tb hx hb (hsta.2.1.1 i hi).2.2.2 hS (v := gvI (g_tx i j)) (g_in h0 h1' (by have h5 : ((g_len.getD i 0 : Nat) : Int) ≤ 12 := hb2; omega)) (by
    show Value.int ((g_byt.getD i []).getD (Int32.ofInt j).toNatClampNeg 0) = gvI (g_tx i j)
    rw [g_cl ⟨by omega, by omega⟩, gvI, g_tx, Int32.ofInt_toInt]) hd (kk H locs ls hP hS hll)
/-- a call on a text -/
theorem g_callT {y : MethodName} {b : ByteArray} {mx np idx d' i : Nat} {ret : Option FieldType} {as : List Value} {P' : g_P} (hi : i < 12) (hc : g_OK w x cc nL rt own d) (hM : g_Met w n I J R y b mx ret d' 0 0 (.ref (w.2.2.2.2 (100 + i)) :: as) P') (hy : g_my y b mx ret np) (hv : g_mv y) (hcl : y.cls = "java/lang/String") (hlk : Cond.methodLink own idx y ∈ g_tb) (hn : as.length = np) (hLn : L.length = nL) (hlo : 19 + mx + 40 * d' ≤ 40 * d) (hroom : (st.map fun z => z.category).sum ≤ 8) (hmc : x.2.2.2.2.2.2.2.2.2.1 = u ∧ x.2.2.2.2.2.2.2.2.2.2 = v) (hd : decode cc pc = .ok (.invokevirtual idx, 3))
    (kk : ∀ (r : Option Value) (n' : Nat) (I' : g_I) (J' : g_J) (R' : g_R), P' r n' I' J' R' → G w x P u v n' I' J' R' (pc + 3) L (r.toList ++ st)) : G w x P u v n I J R pc L (as.reverse ++ .ref (w.2.2.2.2 (100 + i)) :: st) := by
  obtain ⟨p, e, Rm, s, m, args, below, meth, c, mc, ms⟩ := x
  obtain ⟨hx, hb, hml, hr, hown, hts, hK, hsta, hlk2, hsz, hRm⟩ := hc
  intro H locs ls hP hS hl
  refine g_run (mc' := 0) (ms' := 0) (aa := (.ref (w.2.2.2.2 (100 + i)) :: as).toArray) hsz ?_ hS hl kk
  have hT : GoodIn g_tb (wsV own idx y.cls y (.code y b mx ret :: g_tb)) := by
    intro z hz
    rcases List.mem_append.mp hz with h | h
    · simp only [List.mem_cons, List.not_mem_nil, or_false] at h
      rcases h with rfl | rfl | rfl | rfl
      · exact ⟨hlk, g_tb_ok hlk⟩
      · exact ⟨hv.1, g_tb_ok hv.1⟩
      · exact ⟨hv.2, g_tb_ok hv.2⟩
      · exact ⟨hy.2.1, g_tb_ok hy.2.1⟩
    · exact g_good hy z h
  subst hRm
  exact va_runV (C := y.cls) (As := as) (rest := st) ⟨hx, hb, hml, hown, hts⟩ hM (cwV np hts hT rfl rfl rfl ⟨rfl, hy.2.2.1, hy.2.2.2.1, hy.2.2.2.2⟩ ⟨by show d' + 1 ≤ d; omega, by show 8 + (mx + 11) + 40 * d' ≤ 40 * d; omega⟩)
    ⟨g_blind, by rw [hcl]; exact vk_recv (adK := fun i => w.2.2.2.2 (100 + i)) hsta.2.1 hi hS, g_pre hK hsta hP hS⟩ rfl hn (hl.1.trans hLn) rfl (lv_room hroom) hd ⟨Nat.le_of_eq hmc.1.symm, Nat.le_of_eq hmc.2.symm⟩
theorem g_T0r {y : MethodName} {b : ByteArray} {mx idx d' i : Nat} {ret : Option FieldType} {z : Value} {n' : Nat} {I' : g_I} {J' : g_J} {R' : g_R} (hi : i < 12) (hc : g_OK w x cc nL rt own d) (hM : g_Met w n I J R y b mx ret d' 0 0 [.ref (w.2.2.2.2 (100 + i))] (g_post (some z) n' I' J' R')) (hy : g_my y b mx ret 0) (hv : g_mv y) (hcl : y.cls = "java/lang/String") (hlk : Cond.methodLink own idx y ∈ g_tb) (hLn : L.length = nL) (hlo : 19 + mx + 40 * d' ≤ 40 * d) (hroom : (st.map fun z => z.category).sum ≤ 8) (hmc : x.2.2.2.2.2.2.2.2.2.1 = u ∧ x.2.2.2.2.2.2.2.2.2.2 = v) (hd : decode cc pc = .ok (.invokevirtual idx, 3))
    (kk : G w x P u v n' I' J' R' (pc + 3) L (z :: st)) : G w x P u v n I J R pc L (.ref (w.2.2.2.2 (100 + i)) :: st) := g_callT (as := []) hi hc hM hy hv hcl hlk rfl hLn hlo hroom hmc hd (fun r n2 I2 J2 R2 h => by obtain ⟨rfl, rfl, rfl, rfl, rfl⟩ := h; exact kk)
theorem g_T1r {y : MethodName} {b : ByteArray} {mx idx d' i : Nat} {ret : Option FieldType} {a0 z : Value} {n' : Nat} {I' : g_I} {J' : g_J} {R' : g_R} (hi : i < 12) (hc : g_OK w x cc nL rt own d) (hM : g_Met w n I J R y b mx ret d' 0 0 [.ref (w.2.2.2.2 (100 + i)), a0] (g_post (some z) n' I' J' R')) (hy : g_my y b mx ret 1) (hv : g_mv y) (hcl : y.cls = "java/lang/String") (hlk : Cond.methodLink own idx y ∈ g_tb) (hLn : L.length = nL) (hlo : 19 + mx + 40 * d' ≤ 40 * d) (hroom : (st.map fun z => z.category).sum ≤ 8) (hmc : x.2.2.2.2.2.2.2.2.2.1 = u ∧ x.2.2.2.2.2.2.2.2.2.2 = v) (hd : decode cc pc = .ok (.invokevirtual idx, 3))
    (kk : G w x P u v n' I' J' R' (pc + 3) L (z :: st)) : G w x P u v n I J R pc L (a0 :: .ref (w.2.2.2.2 (100 + i)) :: st) := g_callT (as := [a0]) hi hc hM hy hv hcl hlk rfl hLn hlo hroom hmc hd (fun r n2 I2 J2 R2 h => by obtain ⟨rfl, rfl, rfl, rfl, rfl⟩ := h; exact kk)
theorem g_T2r {y : MethodName} {b : ByteArray} {mx idx d' i : Nat} {ret : Option FieldType} {a0 a1 z : Value} {n' : Nat} {I' : g_I} {J' : g_J} {R' : g_R} (hi : i < 12) (hc : g_OK w x cc nL rt own d) (hM : g_Met w n I J R y b mx ret d' 0 0 [.ref (w.2.2.2.2 (100 + i)), a0, a1] (g_post (some z) n' I' J' R')) (hy : g_my y b mx ret 2) (hv : g_mv y) (hcl : y.cls = "java/lang/String") (hlk : Cond.methodLink own idx y ∈ g_tb) (hLn : L.length = nL) (hlo : 19 + mx + 40 * d' ≤ 40 * d) (hroom : (st.map fun z => z.category).sum ≤ 8) (hmc : x.2.2.2.2.2.2.2.2.2.1 = u ∧ x.2.2.2.2.2.2.2.2.2.2 = v) (hd : decode cc pc = .ok (.invokevirtual idx, 3))
    (kk : G w x P u v n' I' J' R' (pc + 3) L (z :: st)) : G w x P u v n I J R pc L (a1 :: a0 :: .ref (w.2.2.2.2 (100 + i)) :: st) := g_callT (as := [a0, a1]) hi hc hM hy hv hcl hlk rfl hLn hlo hroom hmc hd (fun r n2 I2 J2 R2 h => by obtain ⟨rfl, rfl, rfl, rfl, rfl⟩ := h; exact kk)
end GSTR
section GRT
variable {w : g_W} {x : g_C} {P : g_P} {u v n : Nat} {I : g_I} {J : g_J} {R : g_R} {pc : Nat} {L : List (Option Value)} {st : List Value} {cc : ByteArray} {nL : Nat} {rt : Option FieldType} {own : String} {d : Nat}
theorem g_nret {ty : FieldType} {a : Int} (hc : g_OK w x cc nL (some ty) own d) (he : x.2.2.2.2.2.2.2.2.2.1 = u ∧ x.2.2.2.2.2.2.2.2.2.2 = v) (ha : narrow ty (gvI a) = gvI a) (hd : decode cc pc = .ok (.ireturn, 1)) (h : P (some (gvI a)) n I J R) : G w x P u v n I J R pc L [gvI a] := by
  obtain ⟨p, e, Rm, s, m, args, below, meth, c, mc, ms⟩ := x
  obtain ⟨hx, hb, hml, hr, hown, hts, hK, hsta, hlk, hsz, hRm⟩ := hc
  obtain ⟨rfl, rfl⟩ := he
  exact fun H locs ls hP hS hll => W.zret hx hb hr ha (fun t ht _ => g_end hP hS h ht) hS.2.2 hd hlk
theorem g_mminI {idx : Nat} {a b : Int} (hc : g_OK w x cc nL rt own d) (ha : g32 a) (hb2 : g32 b) (hLn : L.length = nL) (hlk : Cond.methodLink own idx Lib.Math.min.name ∈ g_tb) (hstat : Cond.static Lib.Math.min.name ∈ g_tb) (hini : Cond.initialized "java/lang/Math" ∈ g_tb) (hcode : Cond.code Lib.Math.min.name Lib.Math.min.code 2 (some .int) ∈ g_tb) (hd1 : 1 ≤ d) (hroom : (st.map fun z => z.category).sum ≤ 8) (hm : x.2.2.2.2.2.2.2.2.2.1 = u ∧ x.2.2.2.2.2.2.2.2.2.2 = v) (hd : decode cc pc = .ok (.invokestatic idx, 3)) (kk : G w x P u v n I J R (pc + 3) L (gvI (min a b) :: st)) : G w x P u v n I J R pc L (gvI b :: gvI a :: st) := by
  obtain ⟨p, e, Rm, s, m, args, below, meth, c, mc, ms⟩ := x
  obtain ⟨hx, hb, hml, hr, hown, hts, hK, hsta, hlk2, hsz, hRm⟩ := hc
  intro H locs ls hP hS hl
  have h2 := kk H locs ls hP hS hl
  have hfr : 1 ≤ Rm.frames := by rw [hRm]; exact hd1
  have hlo : (st.map fun z => z.category).sum + 13 ≤ Rm.locals := by
    have h40 : Rm.locals = 40 * d := by rw [hRm]
    omega
  have hcl : u ≤ Rm.cells := by rw [hRm]; exact Nat.le_of_eq hm.1.symm
  have hsl : v ≤ Rm.slots := by rw [hRm]; exact Nat.le_of_eq hm.2.symm
  refine va_mmin (R := Rm) hx hb (by rw [hml, hl.1, hLn]) hown (hts _ hlk) (hts _ hstat) (hts _ hini) (hts _ hcode) hfr hlo hcl hsl hd ?_
  rw [gvI] at h2
  have e : (Int32.ofInt (min a b)) = (if Int32.ofInt b < Int32.ofInt a then Int32.ofInt b else Int32.ofInt a) := by
    split
    · rename_i q; rw [g_ltI hb2 ha] at q; congr 1; omega
    · rename_i q; rw [g_ltI hb2 ha] at q; congr 1; omega
  rw [e] at h2
  exact h2
theorem g_S2v {y : MethodName} {b : ByteArray} {mx idx d' : Nat} {ret : Option FieldType} {a0 a1 : Value} {n' : Nat} {I' : g_I} {J' : g_J} {R' : g_R} (hc : g_OK w x cc nL rt own d) (hM : g_Met w n I J R y b mx ret d' 0 0 [a0, a1] (g_post none n' I' J' R')) (hy : g_my y b mx ret 2) (hv : Cond.static y ∈ g_tb) (hlk : Cond.methodLink own idx y ∈ g_tb) (hLn : L.length = nL) (hdd : 19 + mx + 40 * d' ≤ 40 * d) (hroom : (st.map fun z => z.category).sum ≤ 8) (hmc : x.2.2.2.2.2.2.2.2.2.1 = u ∧ x.2.2.2.2.2.2.2.2.2.2 = v) (hd : decode cc pc = .ok (.invokestatic idx, 3))
    (kk : G w x P u v n' I' J' R' (pc + 3) L st) : G w x P u v n I J R pc L (a1 :: a0 :: st) := g_S2 hc hM hy hv hlk hLn hdd hroom hmc hd (fun r n2 I2 J2 R2 h => by obtain ⟨rfl, rfl, rfl, rfl, rfl⟩ := h; exact kk)
end GRT
theorem mm_sta_mminI : Cond.static Lib.Math.min.name ∈ g_tb := List.mem_filter.mpr ⟨List.mem_of_getElem? (i := 629) (by decide +kernel), by decide +kernel⟩
theorem mm_cod_mminI : Cond.code Lib.Math.min.name Lib.Math.min.code 2 (some .int) ∈ g_tb := List.mem_filter.mpr ⟨List.mem_of_getElem? (i := 630) (by decide +kernel), by decide +kernel⟩
theorem mm_mminI_J1_38 : Cond.methodLink RJ1 38 Lib.Math.min.name ∈ g_tb := List.mem_filter.mpr ⟨List.mem_of_getElem? (i := 628) (by decide +kernel), by decide +kernel⟩
theorem g_txc {i : Nat} {j : Int} (hi : i < 12) (h0 : 0 ≤ j) (h1 : j < g_tln i) : g_i2c' (g_and (g_tx i j) 255) = g_tx i j ∧ narrow .char (gvI (g_tx i j)) = gvI (g_tx i j) ∧ 0 ≤ g_tx i j ∧ g_tx i j < 128 := by
  have h : ∀ (i : Fin 12) (j : Fin 13), (j.val : Int) < g_tln i.val → g_i2c' (g_and (g_tx i.val (j.val : Int)) 255) = g_tx i.val (j.val : Int) ∧ narrow .char (gvI (g_tx i.val (j.val : Int))) = gvI (g_tx i.val (j.val : Int)) ∧ 0 ≤ g_tx i.val (j.val : Int) ∧ g_tx i.val (j.val : Int) < 128 := by decide +kernel
  have hb := (g_tln_in (i := i)).2
  have := h ⟨i, hi⟩ ⟨j.toNat, by omega⟩ (by show ((j.toNat : Nat) : Int) < g_tln i; omega)
  rwa [show (((⟨j.toNat, by omega⟩ : Fin 13).val : Nat) : Int) = j by show ((j.toNat : Nat) : Int) = j; omega] at this
theorem g_i2bc {c k : Int} (hc : 0 ≤ c ∧ c ≤ 255) (hk : 0 ≤ k ∧ k < 128) : k = g_i2b' c ↔ k = c := by
  have h : ∀ c : Fin 256, (c.val < 128 → g_i2b' (c.val : Int) = (c.val : Int)) ∧ (¬ c.val < 128 → g_i2b' (c.val : Int) < 0) := by decide +kernel
  have h2 := h ⟨c.toNat, by omega⟩
  have e : ((c.toNat : Nat) : Int) = c := by omega
  dsimp only at h2
  rw [e] at h2
  by_cases h3 : c.toNat < 128
  · rw [h2.1 h3]
  · have := h2.2 h3
    constructor <;> intro h4 <;> omega
/-- where a sign stands in a text -/
def g_inx (i : Nat) (c : Int) : Int := g_first (fun j => decide (g_tx i j = c)) (g_tln i).toNat 0
theorem g_inx_no {i : Nat} {c : Int} (hi : i < 12) (hc : 255 < c) : g_inx i c = -1 := by
  have h : ∀ (m : Nat) (j : Int), 0 ≤ j → j + m ≤ g_tln i → g_first (fun j => decide (g_tx i j = c)) m j = -1 := by
    intro m
    induction m with
    | zero => intro j _ _; rfl
    | succ m ih =>
      intro j h0 h1
      have hb := (g_txc (i := i) (j := j) hi h0 (by omega)).2.2.2
      rw [g_first, if_neg (by simp only [decide_eq_true_eq]; omega)]
      exact ih (j + 1) (by omega) (by omega)
  exact h _ 0 (by decide) (by have := (g_tln_in (i := i)).1; omega)
