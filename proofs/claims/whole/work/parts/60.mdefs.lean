theorem g_numr_in2 {B : Int → Int} {n a q least most : Int} (ha : 0 ≤ a ∧ a ≤ n) (hn : n ≤ 240) (hq : -1 ≤ q ∧ q ≤ 240) (hl : 0 ≤ least ∧ least ≤ 99) :
    (0 ≤ (g_numr B n a q 2 least most).1 ∧ (g_numr B n a q 2 least most).1 ≤ 99) ∧ (0 ≤ (g_numr B n a q 2 least most).2.1 ∧ (g_numr B n a q 2 least most).2.1 ≤ n) ∧ -1 ≤ (g_numr B n a q 2 least most).2.2 ∧ (g_numr B n a q 2 least most).2.2 ≤ 240 := by
  have hp := g_pos_in (B := B) ha.2
  have hd := g_dg_in (B := B) (n := n) 2 (g_pos B n a) 0 hp.2 (by decide)
  have e4 : ((2 : Int)).toNat = 2 := rfl
  have h10 : ((0 : Int) + 1) * 10 ^ 2 = 100 := by decide
  unfold g_numr
  rw [e4]
  generalize g_dg B n 2 (g_pos B n a) 0 = z at hd ⊢
  rw [h10] at hd
  by_cases e1 : g_pos B n a < n ∧ 48 ≤ B (g_pos B n a) ∧ B (g_pos B n a) ≤ 57
  · rw [if_pos e1]
    by_cases e2 : z.2 < n ∧ 48 ≤ B z.2 ∧ B z.2 ≤ 57
    · rw [if_pos e2]
      have := g_q1_in (q := q) (p := z.2) hq (by omega)
      dsimp only
      omega
    · rw [if_neg e2]
      by_cases e3 : z.1 < least ∨ most < z.1
      · rw [if_pos e3]
        unfold g_q1
        dsimp only
        split <;> omega
      · rw [if_neg e3]
        dsimp only
        omega
  · rw [if_neg e1]
    have := g_q1_in (q := q) (p := g_pos B n a) hq (by omega)
    dsimp only
    omega
/-- what a LIFE's reader keeps to -/
def l_ok (b : Nat) (M : g_I) : Prop := (∀ k j, g32 (M k j)) ∧ (0 ≤ M 1 2 ∧ M 1 2 ≤ M 1 1) ∧ M 1 1 ≤ 240 ∧ (-1 ≤ M 1 3 ∧ M 1 3 ≤ 240) ∧ (∀ j, 0 ≤ M 2 j ∧ M 2 j ≤ 255) ∧ (∀ i, 0 ≤ M 545 i ∧ M 545 i < 20) ∧ (∀ i, 0 ≤ M 546 i ∧ M 546 i < 4) ∧ (0 ≤ M b 0 ∧ M b 0 ≤ 12) ∧ (0 ≤ M b 1 ∧ M b 1 ≤ 20)
theorem l_ts {b : Nat} {M : g_I} {a q : Int} (hb : g_life b) (h : l_ok b M) (ha : 0 ≤ a ∧ a ≤ M 1 1) (hq : -1 ≤ q ∧ q ≤ 240) : l_ok b (g_ts M a q) := by
  obtain ⟨h1, h2, h3, h4, h5, h6, h7, h8, h9⟩ := h
  have hb1 : b ≠ 1 := by unfold g_life at hb; omega
  refine ⟨g_ts32 h1 ⟨by omega, by omega⟩ ⟨by omega, by omega⟩, ?_, ?_, ?_, ?_, ?_, ?_, ?_, ?_⟩
  · rw [g_ts_a, g_ts_n]; exact ha
  · rw [g_ts_n]; exact h3
  · rw [g_ts_q]; exact hq
  · intro j; rw [g_ts_k (by decide)]; exact h5 j
  · intro j; rw [g_ts_k (by decide)]; exact h6 j
  · intro j; rw [g_ts_k (by decide)]; exact h7 j
  · rw [g_ts_k hb1]; exact h8
  · rw [g_ts_k hb1]; exact h9
/-- a store elsewhere -/
theorem l_up {b k : Nat} {M : g_I} {i v : Int} (h : l_ok b M) (hk : k ≠ 1 ∧ k ≠ 2 ∧ k ≠ 545 ∧ k ≠ 546 ∧ k ≠ b) (hv : g32 v) : l_ok b (g_up M k i v) := by
  obtain ⟨h1, h2, h3, h4, h5, h6, h7, h8, h9⟩ := h
  obtain ⟨k1, k2, k3, k4, k5⟩ := hk
  have e : ∀ (a : Nat) (j : Int), a ≠ k → g_up M k i v a j = M a j := fun a j ha => g_up_k ha
  refine ⟨g_up32 h1 hv, ?_, ?_, ?_, ?_, ?_, ?_, ?_, ?_⟩
  · rw [e 1 _ (Ne.symm k1), e 1 _ (Ne.symm k1)]; exact h2
  · rw [e 1 _ (Ne.symm k1)]; exact h3
  · rw [e 1 _ (Ne.symm k1)]; exact h4
  · intro j; rw [e 2 _ (Ne.symm k2)]; exact h5 j
  · intro j; rw [e 545 _ (Ne.symm k3)]; exact h6 j
  · intro j; rw [e 546 _ (Ne.symm k4)]; exact h7 j
  · rw [e b _ (Ne.symm k5)]; exact h8
  · rw [e b _ (Ne.symm k5)]; exact h9
/-- the reader's acts on memory -/
def m_sg (M : g_I) : Int := g_sgn (M 2) (M 1 1) (M 1 2)
def m_sk (M : g_I) : g_I := g_ts M (g_pos (M 2) (M 1 1) (M 1 2)) (M 1 3)
def m_adv (M : g_I) : g_I := g_up M 1 2 (M 1 2 + 1)
def m_fl (M : g_I) : g_I := g_ts M (M 1 1) (g_q1 (M 1 3) (g_pos (M 2) (M 1 1) (M 1 2)))
def m_tk (c : Int) (M : g_I) : g_I := g_ts M (if g_sgn (M 2) (M 1 1) (M 1 2) = c then g_pos (M 2) (M 1 1) (M 1 2) + 1 else g_pos (M 2) (M 1 1) (M 1 2)) (M 1 3)
def m_wn (c : Int) (M : g_I) : g_I := g_ts M (if g_sgn (M 2) (M 1 1) (M 1 2) = c then g_pos (M 2) (M 1 1) (M 1 2) + 1 else M 1 1) (if g_sgn (M 2) (M 1 1) (M 1 2) = c then M 1 3 else g_q1 (M 1 3) (g_pos (M 2) (M 1 1) (g_pos (M 2) (M 1 1) (M 1 2))))
def m_nv (lo hi : Int) (M : g_I) : Int := (g_numr (M 2) (M 1 1) (M 1 2) (M 1 3) 2 lo hi).1
def m_nm (lo hi : Int) (M : g_I) : g_I := g_ts M (g_numr (M 2) (M 1 1) (M 1 2) (M 1 3) 2 lo hi).2.1 (g_numr (M 2) (M 1 1) (M 1 2) (M 1 3) 2 lo hi).2.2
def m_fin (M : g_I) : g_I := g_ts M (if g_sgn (M 2) (M 1 1) (M 1 2) = -1 then g_pos (M 2) (M 1 1) (M 1 2) else M 1 1) (if g_sgn (M 2) (M 1 1) (M 1 2) = -1 then M 1 3 else g_q1 (M 1 3) (g_pos (M 2) (M 1 1) (g_pos (M 2) (M 1 1) (M 1 2))))
section MOK
variable {b : Nat} {M : g_I}
theorem m_sk_ok (hb : g_life b) (h : l_ok b M) : l_ok b (m_sk M) := by
  have := h.2.1; have h3 := g_pos_in (B := M 2) (len := M 1 1) (a := M 1 2) (by omega)
  exact l_ts hb h (by omega) h.2.2.2.1
theorem m_adv_ok (hb : g_life b) (h : l_ok b M) (h2 : M 1 2 < M 1 1) : l_ok b (m_adv M) := by
  have e : m_adv M = g_ts M (M 1 2 + 1) (M 1 3) := by unfold m_adv g_ts; rw [g_up_same]
  have := h.2.1
  rw [e]
  exact l_ts hb h (by omega) h.2.2.2.1
theorem m_fl_ok (hb : g_life b) (h : l_ok b M) : l_ok b (m_fl M) := by
  have := h.2.1; have h3 := g_pos_in (B := M 2) (len := M 1 1) (a := M 1 2) (by omega)
  have h5 := h.2.2.1
  have h4 := g_q1_in (q := M 1 3) (p := g_pos (M 2) (M 1 1) (M 1 2)) h.2.2.2.1 (by omega)
  exact l_ts hb h (by omega) (by omega)
theorem m_tk_ok {c : Int} (hb : g_life b) (h : l_ok b M) (hc : c ≠ -1) : l_ok b (m_tk c M) := by
  have h2 := h.2.1
  have h1 := g_tkin (B := M 2) (len := M 1 1) (a := M 1 2) (c := c) (by omega) hc
  exact l_ts hb h (by omega) h.2.2.2.1
theorem m_wn_ok {c : Int} (hb : g_life b) (h : l_ok b M) (hc : c ≠ -1) : l_ok b (m_wn c M) := by
  have h2 := h.2.1
  have h5 := h.2.2.1
  have hq := h.2.2.2.1
  have h1 := g_tkin (B := M 2) (len := M 1 1) (a := M 1 2) (c := c) (by omega) hc
  have h3 := g_pos_in (B := M 2) (len := M 1 1) (a := M 1 2) (by omega)
  have h6 := g_pos_in (B := M 2) (len := M 1 1) (a := g_pos (M 2) (M 1 1) (M 1 2)) (by omega)
  have h4 := g_q1_in (q := M 1 3) (p := g_pos (M 2) (M 1 1) (g_pos (M 2) (M 1 1) (M 1 2))) hq (by omega)
  unfold m_wn
  by_cases e : g_sgn (M 2) (M 1 1) (M 1 2) = c
  · rw [if_pos e, if_pos e]
    rw [if_pos e] at h1
    exact l_ts hb h (by omega) hq
  · rw [if_neg e, if_neg e]
    exact l_ts hb h (by omega) (by omega)
theorem m_nm_ok {lo hi : Int} (hb : g_life b) (h : l_ok b M) (hl : 0 ≤ lo ∧ lo ≤ 99) : l_ok b (m_nm lo hi M) ∧ 0 ≤ m_nv lo hi M ∧ m_nv lo hi M ≤ 99 := by
  have h1 := g_numr_in2 (B := M 2) (n := M 1 1) (a := M 1 2) (q := M 1 3) (most := hi) h.2.1 h.2.2.1 h.2.2.2.1 hl
  exact ⟨l_ts hb h h1.2.1 h1.2.2, h1.1⟩
theorem m_fin_ok (hb : g_life b) (h : l_ok b M) : l_ok b (m_fin M) := by
  have h2 := h.2.1
  have h5 := h.2.2.1
  have hq := h.2.2.2.1
  have h3 := g_pos_in (B := M 2) (len := M 1 1) (a := M 1 2) (by omega)
  have h6 := g_pos_in (B := M 2) (len := M 1 1) (a := g_pos (M 2) (M 1 1) (M 1 2)) (by omega)
  have h4 := g_q1_in (q := M 1 3) (p := g_pos (M 2) (M 1 1) (g_pos (M 2) (M 1 1) (M 1 2))) hq (by omega)
  unfold m_fin
  by_cases e : g_sgn (M 2) (M 1 1) (M 1 2) = -1
  · rw [if_pos e, if_pos e]
    exact l_ts hb h (by omega) hq
  · rw [if_neg e, if_neg e]
    exact l_ts hb h (by omega) (by omega)
theorem m_sg_in (h : l_ok b M) (hc : m_sg M ≠ -1) : (m_sk M) 1 2 < (m_sk M) 1 1 := by
  unfold m_sg g_sgn at hc
  unfold m_sk
  rw [g_ts_a, g_ts_n]
  by_cases e : g_pos (M 2) (M 1 1) (M 1 2) < M 1 1
  · exact e
  · rw [if_neg e] at hc; exact absurd rfl hc
theorem m_sg_b (h : l_ok b M) : -1 ≤ m_sg M ∧ m_sg M ≤ 255 := by
  unfold m_sg g_sgn
  split
  · have := h.2.2.2.2.1 (g_pos (M 2) (M 1 1) (M 1 2)); omega
  · omega
variable (w : g_W) {J : g_J} {R : g_R} {lb tx : Nat}
theorem m_sign (hR : g_rf w R lb tx) (h : l_ok b M) : g_Met w g_n M J R yX8_sign cX8_sign 1 (some .int) 0 0 0 [gvr w 1] (g_post (some (gvI (m_sg M))) g_n (m_sk M) J R) := by
  have e := c_X8_sign w (I := M) (J := J) (a := M 1 2) (q := M 1 3) hR h.1 h.2.1 h.2.2.1 h.2.2.2.1
  rw [g_ts_0] at e
  exact e
/-- behind blanks one stands where one stands -/
theorem m_sk_fx (h : l_ok b M) : g_pos ((m_sk M) 2) ((m_sk M) 1 1) ((m_sk M) 1 2) = (m_sk M) 1 2 := by
  unfold m_sk
  rw [g_ts_a, g_ts_n, g_ts_f (by decide)]
  exact g_pos_pos h.2.1.2
theorem m_tk_fx {c : Int} (h : l_ok b M) (hc : ¬ m_sg M = c) : g_pos ((m_tk c M) 2) ((m_tk c M) 1 1) ((m_tk c M) 1 2) = (m_tk c M) 1 2 := by
  have e : m_tk c M = m_sk M := by
    unfold m_sg at hc
    unfold m_tk m_sk
    rw [if_neg hc]
  rw [e]
  exact m_sk_fx h
theorem m_failAt (hR : g_rf w R lb tx) (h : l_ok b M) (hfx : g_pos (M 2) (M 1 1) (M 1 2) = M 1 2) : g_Met w g_n M J R yX8_failAt cX8_failAt 2 none 0 0 0 [gvr w 1, gvI (M 1 2)] (g_post none g_n (m_fl M) J R) := by
  have e := c_X8_failAt w (I := M) (J := J) (a := M 1 2) (q := M 1 3) hR h.1 h.2.1 h.2.2.1 h.2.2.2.1 (p := M 1 2) (by have := h.2.1; have := h.2.2.1; omega)
  rw [g_ts_0] at e
  have e2 : m_fl M = g_ts M (M 1 1) (g_q1 (M 1 3) (M 1 2)) := by unfold m_fl; rw [hfx]
  rw [e2]
  exact e
theorem m_takes (hR : g_rf w R lb tx) (h : l_ok b M) {c : Int} (h1 : g32 c) : g_Met w g_n M J R yX8_takes cX8_takes 2 (some .boolean) 1 0 0 [gvr w 1, gvI c] (g_post (some (gvI (g_b (m_sg M = c)))) g_n (m_tk c M) J R) := by
  have e := c_X8_takes w (I := M) (J := J) (a := M 1 2) (q := M 1 3) hR h.1 h.2.1 h.2.2.1 h.2.2.2.1 h1
  rw [g_ts_0] at e
  exact e
theorem m_want (hR : g_rf w R lb tx) (h : l_ok b M) {c : Int} (h1 : g32 c) (h0 : c ≠ -1) : g_Met w g_n M J R yX8_want cX8_want 2 none 2 0 0 [gvr w 1, gvI c] (g_post none g_n (m_wn c M) J R) := by
  have e := c_X8_want w (I := M) (J := J) (a := M 1 2) (q := M 1 3) hR h.1 h.2.1 h.2.2.1 h.2.2.2.1 h1 h0
  rw [g_ts_0] at e
  exact e
theorem m_number (hR : g_rf w R lb tx) (h : l_ok b M) {lo hi : Int} (h1 : g32 lo) (h2 : g32 hi) : g_Met w g_n M J R yX8_number cX8_number 6 (some .int) 1 0 0 [gvr w 1, gvI 2, gvI lo, gvI hi] (g_post (some (gvI (m_nv lo hi M))) g_n (m_nm lo hi M) J R) := by
  have e := c_X8_number w (I := M) (J := J) (a := M 1 2) (q := M 1 3) (digits := 2) (least := lo) (most := hi) hR h.1 h.2.1 h.2.2.1 h.2.2.2.1 ⟨by decide, by decide⟩ h1 h2
  rw [g_ts_0] at e
  exact e
theorem m_finish (hR : g_rf w R lb tx) (h : l_ok b M) : g_Met w g_n M J R yX8_finish cX8_finish 1 (some .int) 2 0 0 [gvr w 1] (g_post (some (gvI ((m_fin M) 1 3))) g_n (m_fin M) J R) := by
  have e := c_X8_finish w (I := M) (J := J) (a := M 1 2) (q := M 1 3) hR h.1 h.2.1 h.2.2.1 h.2.2.2.1
  rw [g_ts_0] at e
  rw [show (m_fin M) 1 3 = (if g_sgn (M 2) (M 1 1) (M 1 2) = -1 then M 1 3 else g_q1 (M 1 3) (g_pos (M 2) (M 1 1) (g_pos (M 2) (M 1 1) (M 1 2)))) from g_ts_q]
  exact e
end MOK
/-- a place of a static array -/
def g_st (i : Nat) (j : Int) : Int := ((g_sar.getD i ("", [])).2).getD j.toNat 0
theorem g_tlds {w : g_W} {x : g_C} {P : g_P} {u v n : Nat} {I : g_I} {J : g_J} {R : g_R} {pc : Nat} {L : List (Option Value)} {st : List Value} {cc : ByteArray} {nL : Nat} {rt : Option FieldType} {own : String} {d : Nat} {i : Nat} {j : Int} (hc : g_OK w x cc nL rt own d) {q : String × List Int} (hq : g_sar[i]? = some q) (h0 : 0 ≤ j) (h1 : j < (q.2.length : Int)) (hn : q.2.length < 2 ^ 31) (hd : decode cc pc = .ok (.iaload, 1)) (kk : G w x P u v n I J R (pc + 1) L (gvI (g_st i j) :: st)) : G w x P u v n I J R pc L (gvI j :: .ref (w.2.2.2.2 i) :: st) := by
  refine g_tld hc hq h0 h1 hn hd ?_
  have e : g_st i j = q.2.getD j.toNat 0 := by
    unfold g_st
    rw [List.getD_eq_getElem?_getD (l := g_sar), hq]
    rfl
  rw [← e]
  exact kk
theorem g_st_in : ∀ (i : Fin 9) (j : Fin 5), -1 ≤ g_st i.val (j.val : Int) ∧ g_st i.val (j.val : Int) ≤ 99 := by decide +kernel
theorem g_st_lo : ∀ (j : Fin 5), (0 ≤ g_st 0 (j.val : Int)) ∧ (0 ≤ g_st 3 (j.val : Int)) ∧ 0 ≤ g_st 6 (j.val : Int) := by decide +kernel
theorem g_st_b {i : Nat} {j : Int} (hi : i < 9) (hj : 0 ≤ j ∧ j < 5) : -1 ≤ g_st i j ∧ g_st i j ≤ 99 ∧ (i = 0 ∨ i = 3 ∨ i = 6 → 0 ≤ g_st i j) := by
  have h := g_st_in ⟨i, hi⟩ ⟨j.toNat, by omega⟩
  have h2 := g_st_lo ⟨j.toNat, by omega⟩
  have e : ((j.toNat : Nat) : Int) = j := by omega
  dsimp only at h h2
  rw [e] at h h2
  refine ⟨h.1, h.2, fun z => ?_⟩
  rcases z with rfl | rfl | rfl
  · exact h2.1
  · exact h2.2.1
  · exact h2.2.2
/-- which ITEM a sign tells -/
def m_it (X : Nat) (c : Int) : Int := if c < 0 then -1 else g_inx X c
/-- ITEMS: T the row of told ones, so many, X their letters, lo and hi their bounds -/
def m_itn (T : Nat) (L : Int) (X lo hi : Nat) : Nat → Int → g_I → g_I
  | 0, _, M => M
  | k + 1, seen, M =>
    if m_it X (m_sg M) < 0 ∨ L ≤ m_it X (m_sg M) then m_sk M
    else if g_bit seen (m_it X (m_sg M)) then m_fl (m_sk M)
    else m_itn T L X lo hi k (g_or seen (g_shl 1 (m_it X (m_sg M)))) (g_up (m_nm (g_st lo (m_it X (m_sg M))) (g_st hi (m_it X (m_sg M))) (m_adv (m_sk M))) T (m_it X (m_sg M)) (m_nv (g_st lo (m_it X (m_sg M))) (g_st hi (m_it X (m_sg M))) (m_adv (m_sk M))))
/-- usual ones first -/
def m_us (T us : Nat) (M : g_I) : g_I := g_cps M ((g_sar.getD us ("", [])).2) T
def m_items (T : Nat) (L : Int) (X lo hi us : Nat) (M : g_I) : g_I := m_itn T L X lo hi (L.toNat + 1) 0 (m_us T us M)
theorem m_it_in {X : Nat} {c : Int} (hX : X < 3) : -1 ≤ m_it X c ∧ m_it X c < 5 := by
  unfold m_it
  split
  · omega
  · have h := g_first_in (p := fun j => decide (g_tx X j = c)) (g_tln X).toNat 0 (by decide)
    have h2 : g_tln X ≤ 5 := by
      have : ∀ i : Fin 3, g_tln i.val ≤ 5 := by decide +kernel
      exact this ⟨X, hX⟩
    unfold g_inx
    omega
theorem m_us_ok {b T us : Nat} {M : g_I} (hb : g_life b) (h : l_ok b M) (hT : T = 540 ∨ T = 542 ∨ T = 544) (hu : us < 9) : l_ok b (m_us T us M) := by
  obtain ⟨h1, h2, h3, h4, h5, h6, h7, h8, h9⟩ := h
  have hb1 : b ≠ T := by unfold g_life at hb; omega
  have hall : ∀ i : Fin 9, ∀ z ∈ (g_sar.getD i.val ("", [])).2, -1 ≤ z ∧ z ≤ 99 := by decide +kernel
  have e : ∀ (a : Nat) (j : Int), a ≠ T → m_us T us M a j = M a j := fun a j ha => if_neg (fun z => ha z.1)
  refine ⟨fun k j => ?_, ?_, ?_, ?_, ?_, ?_, ?_, ?_, ?_⟩
  · unfold m_us g_cps
    split
    · rename_i hz
      have hlt : j.toNat < ((g_sar.getD us ("", [])).2).length := by omega
      rw [List.getD_eq_getElem?_getD, List.getElem?_eq_getElem hlt]
      have := hall ⟨us, hu⟩ _ (List.getElem_mem hlt)
      exact ⟨by show -2147483648 ≤ ((g_sar.getD us ("", [])).2)[j.toNat]; omega, by show ((g_sar.getD us ("", [])).2)[j.toNat] < 2147483648; omega⟩
    · exact h1 k j
  · rw [e 1 _ (by omega), e 1 _ (by omega)]; exact h2
  · rw [e 1 _ (by omega)]; exact h3
  · rw [e 1 _ (by omega)]; exact h4
  · intro j; rw [e 2 _ (by omega)]; exact h5 j
  · intro j; rw [e 545 _ (by omega)]; exact h6 j
  · intro j; rw [e 546 _ (by omega)]; exact h7 j
  · rw [e b _ hb1]; exact h8
  · rw [e b _ hb1]; exact h9
theorem m_itn_ok {b T X lo hi : Nat} {L : Int} (hb : g_life b) (hT : T = 540 ∨ T = 542 ∨ T = 544) (hX : X < 3) (hlo : lo = 0 ∨ lo = 3 ∨ lo = 6) (hhi : hi < 9) : ∀ (k : Nat) (seen : Int) (M : g_I), l_ok b M → l_ok b (m_itn T L X lo hi k seen M)
  | 0, _, M, h => h
  | k + 1, seen, M, h => by
    have hii := m_it_in (X := X) (c := m_sg M) hX
    rw [m_itn]
    by_cases c1 : m_it X (m_sg M) < 0 ∨ L ≤ m_it X (m_sg M)
    · rw [if_pos c1]; exact m_sk_ok hb h
    · rw [if_neg c1]
      by_cases c2 : g_bit seen (m_it X (m_sg M))
      · rw [if_pos c2]; exact m_fl_ok hb (m_sk_ok hb h)
      · rw [if_neg c2]
        have hsg : m_sg M ≠ -1 := by
          intro e
          have : m_it X (m_sg M) = -1 := by rw [e]; rfl
          omega
        have hlo2 := g_st_b (i := lo) (j := m_it X (m_sg M)) (by omega) (by omega)
        have ha := m_adv_ok hb (m_sk_ok hb h) (m_sg_in h hsg)
        have hn := m_nm_ok (lo := g_st lo (m_it X (m_sg M))) (hi := g_st hi (m_it X (m_sg M))) hb ha ⟨hlo2.2.2 hlo, hlo2.2.1⟩
        refine m_itn_ok hb hT hX hlo hhi k _ _ (l_up hn.1 ?_ ⟨by omega, by omega⟩)
        unfold g_life at hb
        omega
/-- a number as the machine keeps it -/
def g_w32 (x : Int) : Int := (Int32.ofInt x).toInt
theorem g_w32_in {x : Int} : g32 (g_w32 x) := g32_of _
theorem g_gw {x : Int} : gvI x = gvI (g_w32 x) := by rw [gvI, gvI, g_w32, Int32.ofInt_toInt]
theorem g_w32_id {x : Int} (h : g32 x) : g_w32 x = x := by
  unfold g32 at h
  rw [g_w32, Int32.toInt_ofInt_of_le (by omega) (by omega)]
/-- a leaf's own row -/
def m_r1 (b : Nat) (s c k : Int) (M : g_I) : g_I := g_up M (b + 2 + s.toNat) c (M 540 k)
def m_r0 (b : Nat) (s c : Int) (M : g_I) : g_I := g_up M (b + 2 + s.toNat) c 0
def m_row (b : Nat) (s : Int) (M : g_I) : g_I := m_r0 b s 6 (m_r1 b s 5 4 (m_r1 b s 4 3 (m_r1 b s 3 2 (m_r0 b s 2 (m_r1 b s 1 1 (m_r1 b s 0 0 M))))))
/-- what a step of a WAY adds -/
def m_add (b : Nat) (s f r c v : Int) (M : g_I) : g_I := g_up M (b + 2 + s.toNat) c (g_w32 (M (b + 2 + s.toNat) c + M (b + 47 + (f * 4 + r).toNat) v))
def m_bhd (b : Nat) (s f : Int) (M : g_I) : g_I := g_up M (b + 45) f (g_or (M (b + 45) f) (g_shl 1 s))
def m_fct (b : Nat) (s f r : Int) (M : g_I) : g_I := g_up M (b + 2 + s.toNat) 6 (g_or (M (b + 2 + s.toNat) 6) (if M (b + 47 + (f * 4 + r).toNat) 4 = -1 then 0 else g_shl 1 (M (b + 47 + (f * 4 + r).toNat) 4)))
def m_way (b : Nat) (s i f r : Int) (M : g_I) : g_I := g_up (g_up M (b + 16 + s.toNat) i f) (b + 29 + s.toNat) i r
def m_stp (b : Nat) (s i f r : Int) (M : g_I) : g_I := m_fct b s f r (m_add b s f r 2 3 (m_add b s f r 1 2 (m_add b s f r 0 1 (m_bhd b s f (m_way b s i f r M)))))
def m_step (b : Nat) (s i : Int) (M : g_I) : g_I := m_stp b s i (M 545 i) (M 546 i) M
def m_sts (b : Nat) (s : Int) : Nat → g_I → g_I
  | 0, M => M
  | n + 1, M => m_step b s n (m_sts b s n M)
/-- a leaf -/
def m_lf1 (M : g_I) : g_I := m_items 540 5 0 0 1 2 (m_adv M)
def m_lf2 (b : Nat) (d s : Int) (M : g_I) : g_I := m_sts b s d.toNat (g_up (m_row b s (g_up M b 0 (s + 1))) (b + 14) s d)
def m_leaf (b : Nat) (d : Int) (M : g_I) : Int × g_I := (m_lf1 M b 0, m_lf2 b d (m_lf1 M b 0) (m_lf1 M))
/-- a BRANCH behind which a node is read so -/
def m_br1 (M : g_I) : g_I := m_items 544 5 2 6 7 8 M
def m_br2 (b : Nat) (p : Int) (M : g_I) : g_I := m_wn 58 (g_cpy M 544 0 (b + 47 + p.toNat) 0 5)
def m_br3 (b : Nat) (p : Int) (q : Int × g_I) : g_I := g_up q.2 (b + 127) p q.1
def m_branch (node : g_I → Int × g_I) (b : Nat) (d : Int) (M : g_I) : g_I :=
  if m_br1 M 1 3 = -1 then m_br3 b (M 545 d * 4 + M 546 d) (node (m_br2 b (M 545 d * 4 + M 546 d) (m_br1 M))) else m_br1 M
def m_path (b : Nat) (d f r : Int) (M : g_I) : g_I := g_up (g_up (g_up M (b + 43) f (r + 1)) 545 d f) 546 d r
def m_ft (r : Int) (M : g_I) : g_I := if 0 < r then m_tk 41 M else M
def m_frl (node : g_I → Int × g_I) (b : Nat) (d f : Int) : Nat → Int → g_I → g_I
  | 0, _, M => M
  | k + 1, r, M =>
    if 0 < r ∧ m_sg (m_branch node b d (m_path b d f r M)) = 41 then m_tk 41 (m_branch node b d (m_path b d f r M))
    else if r = 3 then m_fl (m_ft r (m_branch node b d (m_path b d f r M)))
    else if m_sg (m_ft r (m_branch node b d (m_path b d f r M))) = 59 then m_frl node b d f k (r + 1) (m_tk 59 (m_ft r (m_branch node b d (m_path b d f r M))))
    else m_fl (m_tk 59 (m_ft r (m_branch node b d (m_path b d f r M))))
def m_fk1 (M : g_I) : g_I := m_items 542 2 1 3 4 5 (m_adv M)
def m_f1 (b c : Nat) (f k : Int) (M : g_I) : g_I := g_up M (b + c) f (M 542 k)
def m_f2 (b : Nat) (d f : Int) (M : g_I) : g_I := g_up M (b + 44) f (if d = 0 then -1 else M 545 (d - 1))
def m_fk2 (b : Nat) (d f : Int) (M : g_I) : g_I := g_up (m_f2 b d f (m_f1 b 42 f 1 (m_f1 b 41 f 0 (g_up M b 1 (f + 1))))) (b + 45) f 0
def m_fork (node : g_I → Int × g_I) (b : Nat) (d : Int) (M : g_I) : Int × g_I := (100 + m_fk1 M b 1, m_frl node b d (m_fk1 M b 1) 4 0 (m_wn 40 (m_fk2 b d (m_fk1 M b 1) (m_fk1 M))))
def m_nod (b : Nat) (d : Int) (inner : Option (g_I → Int × g_I)) (M : g_I) : Int × g_I :=
  if m_sg M = 108 ∧ m_sk M b 0 < 12 then m_leaf b d (m_sk M)
  else if m_sg M = 102 ∧ m_sk M b 1 < 20 then (match inner with | none => (-1, m_fl (m_sk M)) | some f => m_fork f b d (m_sk M))
  else (-1, m_fl (m_sk M))
/-- a node, so many FORKS deeper at most -/
def m_node (b : Nat) : Nat → g_I → Int × g_I
  | 0 => m_nod b 6 none
  | k + 1 => m_nod b (6 - ((k + 1 : Nat) : Int)) (some (m_node b k))
def m_beg (b : Nat) (M : g_I) : g_I := g_ts (g_up (g_up M b 0 0) b 1 0) 0 (-1)
/-- the TAPE read as a LIFE -/
def m_life (b : Nat) (M : g_I) : g_I := m_fin (m_node b 6 (m_beg b M)).2
