theorem g_dg_in {B : Int → Int} {n : Int} : ∀ (k : Nat) (a v : Int), a ≤ n → 0 ≤ v → (a ≤ (g_dg B n k a v).2 ∧ (g_dg B n k a v).2 ≤ n ∧ (g_dg B n k a v).2 ≤ a + k) ∧ 0 ≤ (g_dg B n k a v).1 ∧ (g_dg B n k a v).1 + 1 ≤ (v + 1) * 10 ^ k
  | 0, a, v, h, hv => by
    simp [g_dg]
    omega
  | k + 1, a, v, h, hv => by
    rw [g_dg]
    by_cases e : a < n ∧ 48 ≤ B a ∧ B a ≤ 57
    · rw [if_pos e]
      have ih := g_dg_in (B := B) (n := n) k (a + 1) (10 * v + B a - 48) (by omega) (by omega)
      have h2 : (10 * v + B a - 48 + 1) * 10 ^ k ≤ (v + 1) * 10 ^ (k + 1) := by
        rw [Int.pow_succ, Int.mul_comm (10 ^ k) 10, ← Int.mul_assoc]
        exact Int.mul_le_mul_of_nonneg_right (by omega) (Int.pow_nonneg (by decide))
      refine ⟨⟨by omega, by omega, by omega⟩, by omega, by omega⟩
    · rw [if_neg e]
      dsimp only
      have h1 : (1 : Int) ≤ 10 ^ (k + 1) := Int.add_one_le_of_lt (Int.pow_pos (by decide))
      have h2 : (v + 1) * 1 ≤ (v + 1) * 10 ^ (k + 1) := Int.mul_le_mul_of_nonneg_left h1 (by omega)
      omega
theorem g_numr_in {B : Int → Int} {n a q least most : Int} (ha : 0 ≤ a ∧ a ≤ n) (hn : n ≤ 240) (hq : -1 ≤ q ∧ q ≤ 240) (hl : 0 ≤ least ∧ least ≤ 9999) :
    (0 ≤ (g_numr B n a q 4 least most).1 ∧ (g_numr B n a q 4 least most).1 ≤ 9999) ∧ (0 ≤ (g_numr B n a q 4 least most).2.1 ∧ (g_numr B n a q 4 least most).2.1 ≤ n) ∧ -1 ≤ (g_numr B n a q 4 least most).2.2 ∧ (g_numr B n a q 4 least most).2.2 ≤ 240 := by
  have hp := g_pos_in (B := B) ha.2
  have hd := g_dg_in (B := B) (n := n) 4 (g_pos B n a) 0 hp.2 (by decide)
  have e4 : ((4 : Int)).toNat = 4 := rfl
  have h10 : ((0 : Int) + 1) * 10 ^ 4 = 10000 := by decide
  unfold g_numr
  rw [e4]
  generalize g_dg B n 4 (g_pos B n a) 0 = z at hd ⊢
  rw [h10] at hd
  by_cases e1 : g_pos B n a < n ∧ 48 ≤ B (g_pos B n a) ∧ B (g_pos B n a) ≤ 57
  · rw [if_pos e1]
    by_cases e2 : z.2 < n ∧ 48 ≤ B z.2 ∧ B z.2 ≤ 57
    · rw [if_pos e2]
      have := g_q1_in (q := q) (p := z.2) hq (by omega)
      dsimp only
      omega
    · rw [if_neg e2]
      by_cases e3 : z.1 < least ∨ most < z.1
      · rw [if_pos e3]
        unfold g_q1
        dsimp only
        split <;> omega
      · rw [if_neg e3]
        dsimp only
        omega
  · rw [if_neg e1]
    have := g_q1_in (q := q) (p := g_pos B n a) hq (by omega)
    dsimp only
    omega
theorem t_nm_ok {B : Int → Int} {n : Int} {s : g_S} (h : t_ok n s) (hn : n ≤ 240) : t_ok n (t_nm B n s) ∧ 0 ≤ t_nv B n s ∧ t_nv B n s ≤ 9999 := by
  have h1 := g_numr_in (B := B) (least := 0) (most := 9999) h.1 hn h.2.1 ⟨by decide, by decide⟩
  exact ⟨⟨h1.2.1, h1.2.2, h.2.2⟩, h1.1⟩
section TSM
variable {I : g_I} {t : Nat} {o : List Int}
theorem g_rw32 (hI : ∀ k j, g32 (I k j)) (hl : o.length ≤ 256) (ho : ∀ z ∈ o, g32 z) : ∀ k j, g32 (g_rw I t o k j) := by
  intro k j
  unfold g_rw
  split
  · exact ⟨by omega, by omega⟩
  · split
    · rename_i h
      have hlt : j.toNat < o.length := by omega
      rw [List.getD_eq_getElem?_getD, List.getElem?_eq_getElem hlt]
      exact ho _ (List.getElem_mem hlt)
    · exact hI k j
theorem g_rw_f {k : Nat} (h1 : k ≠ t) (h2 : k ≠ t + 1) : g_rw I t o k = I k := by
  funext j
  unfold g_rw
  rw [if_neg (fun z => h1 z.1), if_neg (fun z => h2 z.1)]
theorem g_rw_l : g_rw I t o t 2 = (o.length : Int) := if_pos ⟨rfl, rfl⟩
theorem g_rw_put {z : Int} : g_up (g_up (g_rw I t o) (t + 1) o.length z) t 2 ((o.length : Int) + 1) = g_rw I t (o ++ [z]) := by
  have hlen : ((o ++ [z]).length : Int) = (o.length : Int) + 1 := by rw [List.length_append, List.length_singleton]; omega
  funext k j
  show (if k = t ∧ j = 2 then ((o.length : Int) + 1) else if k = t + 1 ∧ j = (o.length : Int) then z else if k = t ∧ j = 2 then (o.length : Int) else if k = t + 1 ∧ 0 ≤ j ∧ j < (o.length : Int) then o.getD j.toNat 0 else I k j) = (if k = t ∧ j = 2 then ((o ++ [z]).length : Int) else if k = t + 1 ∧ 0 ≤ j ∧ j < ((o ++ [z]).length : Int) then (o ++ [z]).getD j.toNat 0 else I k j)
  rw [hlen]
  by_cases h1 : k = t ∧ j = 2
  · rw [if_pos h1, if_pos h1]
  · rw [if_neg h1, if_neg h1, if_neg h1]
    by_cases h2 : k = t + 1 ∧ j = (o.length : Int)
    · have e : j.toNat = o.length := by omega
      rw [if_pos h2, if_pos ⟨h2.1, by omega, by omega⟩, e, List.getD_eq_getElem?_getD, List.getElem?_append_right (Nat.le_refl _), Nat.sub_self]
      rfl
    · rw [if_neg h2]
      by_cases h3 : k = t + 1 ∧ 0 ≤ j ∧ j < (o.length : Int)
      · rw [if_pos h3, if_pos ⟨h3.1, h3.2.1, by omega⟩, List.getD_eq_getElem?_getD, List.getD_eq_getElem?_getD, List.getElem?_append_left (by omega)]
      · rw [if_neg h3, if_neg (fun z => by
          by_cases e : j = (o.length : Int)
          · exact h2 ⟨z.1, e⟩
          · exact h3 ⟨z.1, z.2.1, by omega⟩)]
theorem g_rw_0 : g_up I t 2 0 = g_rw I t [] := by
  funext k j
  show (if k = t ∧ j = 2 then 0 else I k j) = (if k = t ∧ j = 2 then ((List.length ([] : List Int) : Nat) : Int) else if k = t + 1 ∧ 0 ≤ j ∧ j < ((List.length ([] : List Int) : Nat) : Int) then ([] : List Int).getD j.toNat 0 else I k j)
  by_cases h1 : k = t ∧ j = 2
  · rw [if_pos h1, if_pos h1]; rfl
  · rw [if_neg h1, if_neg h1, if_neg (fun z => by have h3 := z.2.1; have h4 := z.2.2; rw [List.length_nil] at h4; omega)]
theorem g_rw_p {k : Nat} {i v : Int} (h1 : k ≠ t) (h2 : k ≠ t + 1) : g_up (g_rw I t o) k i v = g_rw (g_up I k i v) t o := by
  funext a j
  show (if a = k ∧ j = i then v else if a = t ∧ j = 2 then (o.length : Int) else if a = t + 1 ∧ 0 ≤ j ∧ j < (o.length : Int) then o.getD j.toNat 0 else I a j) = (if a = t ∧ j = 2 then (o.length : Int) else if a = t + 1 ∧ 0 ≤ j ∧ j < (o.length : Int) then o.getD j.toNat 0 else if a = k ∧ j = i then v else I a j)
  by_cases e : a = k ∧ j = i
  · rw [if_pos e, if_neg (fun z => h1 (e.1.symm.trans z.1)), if_neg (fun z => h2 (e.1.symm.trans z.1)), if_pos e]
  · rw [if_neg e, if_neg e]
end TSM
section TSC
variable (w : g_W) {I : g_I} {J : g_J} {R : g_R} {lb tx : Nat} {t : Nat} {s : g_S}
theorem t_M_a : t_M I t s 1 2 = s.1 := g_ts_a
theorem t_M_p {z : Int} : g_up (t_M I t s) 1 2 z = t_M I t (z, s.2) := g_ts_pa
theorem t_M32 (hI : ∀ k j, g32 (I k j)) (hn : I 1 1 ≤ 240) (h : t_ok (I 1 1) s) : ∀ k j, g32 (t_M I t s k j) := g_ts32 (g_rw32 hI h.2.2.1 h.2.2.2) ⟨by have := h.1.1; omega, by have := h.1.2; omega⟩ ⟨by have := h.2.1.1; omega, by have := h.2.1.2; omega⟩
theorem t_tne (ht : g_taste t) : (2 : Nat) ≠ t ∧ (2 : Nat) ≠ t + 1 ∧ (1 : Nat) ≠ t ∧ (1 : Nat) ≠ t + 1 := by unfold g_taste at ht; omega
theorem t_rw2 (ht : g_taste t) {o : List Int} : g_rw I t o 2 = I 2 := g_rw_f (t_tne ht).1 (t_tne ht).2.1
theorem t_rw1 (ht : g_taste t) {o : List Int} : g_rw I t o 1 1 = I 1 1 := by rw [g_rw_f (t_tne ht).2.2.1 (t_tne ht).2.2.2]
theorem s_sign (hR : g_rf w R lb tx) (hI : ∀ k j, g32 (I k j)) (hn : I 1 1 ≤ 240) (ht : g_taste t) (ho : t_ok (I 1 1) s) : g_Met w g_n (t_M I t s) J R yX8_sign cX8_sign 1 (some .int) 0 0 0 [gvr w 1] (g_post (some (gvI (t_sg (I 2) (I 1 1) s))) g_n (t_M I t (t_sk (I 2) (I 1 1) s)) J R) := by
  have h := c_X8_sign w (I := g_rw I t s.2.2) (J := J) (a := s.1) (q := s.2.1) hR (g_rw32 hI ho.2.2.1 ho.2.2.2) (by rw [t_rw1 ht]; exact ho.1) (by rw [t_rw1 ht]; exact hn) ho.2.1
  rw [t_rw2 ht, t_rw1 ht] at h
  exact h
/-- behind blanks one stands where one stands -/
theorem t_sk_fx {B : Int → Int} {n : Int} {s : g_S} (h : t_ok n s) : g_pos B n (t_sk B n s).1 = (t_sk B n s).1 := g_pos_pos h.1.2
theorem s_failAt (hR : g_rf w R lb tx) (hI : ∀ k j, g32 (I k j)) (hn : I 1 1 ≤ 240) (ht : g_taste t) (ho : t_ok (I 1 1) s) (hfx : g_pos (I 2) (I 1 1) s.1 = s.1) : g_Met w g_n (t_M I t s) J R yX8_failAt cX8_failAt 2 none 0 0 0 [gvr w 1, gvI s.1] (g_post none g_n (t_M I t (t_fl (I 2) (I 1 1) s)) J R) := by
  have h := c_X8_failAt w (I := g_rw I t s.2.2) (J := J) (a := s.1) (q := s.2.1) hR (g_rw32 hI ho.2.2.1 ho.2.2.2) (by rw [t_rw1 ht]; exact ho.1) (by rw [t_rw1 ht]; exact hn) ho.2.1 (p := s.1) (by have := ho.1; omega)
  rw [t_rw1 ht] at h
  have e : t_fl (I 2) (I 1 1) s = (I 1 1, g_q1 s.2.1 s.1, s.2.2) := by unfold t_fl; rw [hfx]
  rw [e]
  exact h
theorem s_takes (hR : g_rf w R lb tx) (hI : ∀ k j, g32 (I k j)) (hn : I 1 1 ≤ 240) (ht : g_taste t) (ho : t_ok (I 1 1) s) {c : Int} (h1 : g32 c) : g_Met w g_n (t_M I t s) J R yX8_takes cX8_takes 2 (some .boolean) 1 0 0 [gvr w 1, gvI c] (g_post (some (gvI (g_b (t_sg (I 2) (I 1 1) s = c)))) g_n (t_M I t (t_tk (I 2) (I 1 1) c s)) J R) := by
  have h := c_X8_takes w (I := g_rw I t s.2.2) (J := J) (a := s.1) (q := s.2.1) hR (g_rw32 hI ho.2.2.1 ho.2.2.2) (by rw [t_rw1 ht]; exact ho.1) (by rw [t_rw1 ht]; exact hn) ho.2.1 h1
  rw [t_rw2 ht, t_rw1 ht] at h
  exact h
theorem s_want (hR : g_rf w R lb tx) (hI : ∀ k j, g32 (I k j)) (hn : I 1 1 ≤ 240) (ht : g_taste t) (ho : t_ok (I 1 1) s) {c : Int} (h1 : g32 c) (h0 : c ≠ -1) : g_Met w g_n (t_M I t s) J R yX8_want cX8_want 2 none 2 0 0 [gvr w 1, gvI c] (g_post none g_n (t_M I t (t_wn (I 2) (I 1 1) c s)) J R) := by
  have h := c_X8_want w (I := g_rw I t s.2.2) (J := J) (a := s.1) (q := s.2.1) hR (g_rw32 hI ho.2.2.1 ho.2.2.2) (by rw [t_rw1 ht]; exact ho.1) (by rw [t_rw1 ht]; exact hn) ho.2.1 h1 h0
  rw [t_rw2 ht, t_rw1 ht] at h
  exact h
theorem s_number (hR : g_rf w R lb tx) (hI : ∀ k j, g32 (I k j)) (hn : I 1 1 ≤ 240) (ht : g_taste t) (ho : t_ok (I 1 1) s) : g_Met w g_n (t_M I t s) J R yX8_number cX8_number 6 (some .int) 1 0 0 [gvr w 1, gvI 4, gvI 0, gvI 9999] (g_post (some (gvI (t_nv (I 2) (I 1 1) s))) g_n (t_M I t (t_nm (I 2) (I 1 1) s)) J R) := by
  have h := c_X8_number w (I := g_rw I t s.2.2) (J := J) (a := s.1) (q := s.2.1) (digits := 4) (least := 0) (most := 9999) hR (g_rw32 hI ho.2.2.1 ho.2.2.2) (by rw [t_rw1 ht]; exact ho.1) (by rw [t_rw1 ht]; exact hn) ho.2.1 ⟨by decide, by decide⟩ ⟨by decide, by decide⟩ ⟨by decide, by decide⟩
  rw [t_rw2 ht, t_rw1 ht] at h
  exact h
theorem s_finish (hR : g_rf w R lb tx) (hI : ∀ k j, g32 (I k j)) (hn : I 1 1 ≤ 240) (ht : g_taste t) (ho : t_ok (I 1 1) s) : g_Met w g_n (t_M I t s) J R yX8_finish cX8_finish 1 (some .int) 2 0 0 [gvr w 1] (g_post (some (gvI ((t_fin (I 2) (I 1 1) s).2.1))) g_n (t_M I t (t_fin (I 2) (I 1 1) s)) J R) := by
  have h := c_X8_finish w (I := g_rw I t s.2.2) (J := J) (a := s.1) (q := s.2.1) hR (g_rw32 hI ho.2.2.1 ho.2.2.2) (by rw [t_rw1 ht]; exact ho.1) (by rw [t_rw1 ht]; exact hn) ho.2.1
  rw [t_rw2 ht, t_rw1 ht] at h
  exact h
end TSC
