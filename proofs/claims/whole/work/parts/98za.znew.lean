/-! ===== the law's invariant as a LIFE comes to the TABLE, as a TASTE is told ===== -/
theorem q_inv_new {A1 A2 : g_I} {b : Nat} (r : q_rel A1 b A2) (c9 : A1 549 5 = 0 ∧ A1 549 4 = 0) (c7 : A1 701 2 = 0) (f : A2 703 32 = 0 ∧ A2 703 41 = 0 ∧ A2 703 45 = 0) (t : q_tap A1 A2) (z : q_01 A2 713 ∧ q_01 A2 717 ∧ q_01 A2 726) (x : x_lk A1) (b5 : ∀ j : Int, -128 ≤ A2 705 j ∧ A2 705 j ≤ 127) (z4 : ∀ r : Int, 0 ≤ r → r < 4 → z_43 (4 + 128 * r.toNat) A1) (h5 : ∀ i : Int, 0 ≤ A1 552 i ∧ A1 552 i < 24) (e : ∀ k : Nat, k < 703 → ¬ g_sc k → A2 k = A1 k) : q_inv A2 b := by
  obtain ⟨f1, f2, f3⟩ := f
  refine q_inv_of r ⟨by rw [f1, c9.1], by rw [c9.1]; decide, fun d hd => ?_⟩ ⟨by rw [f2, c7], by rw [c7]; decide, fun i i0 i1 => ?_⟩ ⟨by rw [f3, c9.2], Or.inl c9.2, fun y => ?_⟩ t z x b5 z4 h5 e
  · rw [c9.1] at hd; omega
  · rw [c7] at i1; omega
  · rw [c9.2] at y; exact absurd y (by decide)
theorem q_inv_call {A A1 A2 : g_I} {lb : Nat} {l : Int} (h : q_inv A lb) (hl : 0 ≤ l ∧ l < A 0 10) (hc : x_cal A l A1) (hk : ∀ k : Nat, k ≠ 0 → k ≠ 549 → k ≠ 550 → k ≠ 697 → k ≠ 701 → A1 k = A k) (r : q_rel A1 (4 + 128 * l.toNat) A2) (f : A2 703 32 = 0 ∧ A2 703 41 = 0 ∧ A2 703 45 = 0) (z3 : q_01 A2 713) (e2 : ∀ (k : Nat) (j : Int), ¬ x_b8 k j → A2 k j = A1 k j) : q_inv A2 (4 + 128 * l.toNat) := by
  obtain ⟨h1, h2, hb, hi, ht, ⟨h6, h7, h8⟩, hx, h10, h11, h12⟩ := h
  obtain ⟨c1, c2, c3, c4, c5, c6, c7, c8, c9⟩ := hc
  have eo : ∀ k : Nat, k ≠ 0 → k ≠ 549 → k ≠ 550 → k ≠ 697 → k ≠ 701 → k ≠ 713 → k ≠ 703 → A2 k = A k := fun k a1 a2 a3 a4 a5 a6 a7 => (funext fun j => e2 k j (by unfold x_b8; omega)).trans (hk k a1 a2 a3 a4 a5)
  have hk' : ∀ k : Nat, (k = 1 ∨ k = 2 ∨ k = 545 ∨ k = 546 ∨ k = 552 ∨ (4 ≤ k ∧ k < 536)) → A1 k = A k := fun k h => hk k (by omega) (by omega) (by omega) (by omega) (by omega)
  refine q_inv_new r c4 c8 f (v_tap ht (by rw [hk' 1 (by omega)]) (hk' 2 (by omega)) ((e2 703 6 (by unfold x_b8; omega)).trans (by rw [hk 703 (by decide) (by decide) (by decide) (by decide) (by decide)])) (eo 704 (by decide) (by decide) (by decide) (by decide) (by decide) (by decide) (by decide))) ⟨z3, fun j => by rw [eo 717 (by decide) (by decide) (by decide) (by decide) (by decide) (by decide) (by decide)]; exact h7 j, fun j => by rw [eo 726 (by decide) (by decide) (by decide) (by decide) (by decide) (by decide) (by decide)]; exact h8 j⟩ ?_ (fun j => by rw [eo 705 (by decide) (by decide) (by decide) (by decide) (by decide) (by decide) (by decide)]; exact h10 j) (fun r r0 r1 => z_43_eq (h11 r r0 r1) (hk' _ (by omega))) (fun i => by rw [hk' 552 (by omega)]; exact h12 i) (fun k a1 a2 => funext fun j => e2 k j (by unfold x_b8; omega))
  obtain ⟨x1, x2, x3, x4, x5⟩ := hx
  exact ⟨c1, by rw [hk' 1 (by omega)]; exact x2, by rw [hk' 2 (by omega)]; exact x3, by rw [hk' 545 (by omega)]; exact x4, by rw [hk' 546 (by omega)]; exact x5⟩
theorem q_inv_life {A A1 A2 : g_I} {lb : Nat} (h : q_inv A lb) (hl : A 0 10 < 3) (hc : x_cal (x_tld A) (A 0 10) A1) (hk : ∀ k : Nat, k ≠ 0 → k ≠ 549 → k ≠ 550 → k ≠ 697 → k ≠ 701 → A1 k = x_tld A k) (r : q_rel A1 (4 + 128 * (A 0 10).toNat) A2) (f : A2 703 32 = 0 ∧ A2 703 41 = 0 ∧ A2 703 45 = 0) (z3 : q_01 A2 713) (f6 : A2 703 6 = 0) (e2 : ∀ (k : Nat) (j : Int), ¬ (x_tl (A 0 10) k j ∨ x_b8 k j) → A2 k j = A1 k j) : q_inv A2 (4 + 128 * (A 0 10).toNat) := by
  obtain ⟨h1, h2, hb, hi, ht, ⟨h6, h7, h8⟩, hx, h10, h11, h12⟩ := h
  obtain ⟨c1, c2, c3, c4, c5, c6, c7, c8, c9⟩ := hc
  have hlv := h1.lv
  have hts := h1.cin.2.1
  obtain ⟨y1, y2, y3, y4⟩ := x_rd_life hx hlv h11
  have hy : ∀ k : Nat, ¬ (k = 0 ∨ k = 1 ∨ k = 549 ∨ k = 550 ∨ k = 697 ∨ k = 701) → A1 k = m_life (4 + 128 * (A 0 10).toNat) A k := fun k z => by
    rw [hk k (by omega) (by omega) (by omega) (by omega) (by omega)]
    unfold x_tld
    funext j
    rw [g_up_k (by omega), g_up_k (by omega)]
  have hyk : ∀ k : Nat, (k = 2 ∨ k = 552 ∨ 703 ≤ k) → A1 k = A k := fun k z => (hy k (by omega)).trans (y1 k (by unfold x_rc; omega))
  have e11 : A1 1 1 = 0 := by
    rw [hk 1 (by decide) (by decide) (by decide) (by decide) (by decide)]
    unfold x_tld
    rw [g_up_k (by decide), g_up_s]
  have eo : ∀ k : Nat, (k = 704 ∨ k = 705 ∨ k = 717 ∨ k = 726) → A2 k = A k := fun k z => (funext fun j => e2 k j (by unfold x_tl x_fl z_sc x_b8; omega)).trans (hyk k (by omega))
  refine q_inv_new r c4 c8 f ⟨by rw [f6, e11], by rw [e11]; decide, fun j => ?_, fun j => by rw [eo 704 (by omega)]; exact ht.2.2.2 j⟩ ⟨z3, fun j => by rw [eo 717 (by omega)]; exact h7 j, fun j => by rw [eo 726 (by omega)]; exact h8 j⟩ ⟨c1, by rw [e11]; decide, by rw [hyk 2 (by omega)]; exact hx.2.2.1, by rw [hy 545 (by omega)]; exact y3.2.2.2.1, by rw [hy 546 (by omega)]; exact y3.2.2.2.2⟩ (fun j => by rw [eo 705 (by omega)]; exact h10 j) (fun r r0 r1 => z_43_eq (y4 r r0 r1) (hy _ (by omega))) (fun i => by rw [hyk 552 (by omega)]; exact h12 i) (fun k a1 a2 => funext fun j => e2 k j (by unfold x_tl x_fl z_sc x_b8; omega))
  rw [hyk 2 (by omega), eo 704 (by omega)]
  exact ht.2.2.1 j
theorem q_inv_taste {A A2 : g_I} {lb : Nat} (h : q_inv A lb) (ht6 : A 0 11 < 6) (hq : (t_read (A 2) (A 1 1)).2.1 = -1) (f6 : A2 703 6 = 0) (h7' : A2 703 7 = A 0 11 + 1) (h706 : A2 706 (A 0 11) = A 1 1) (h705 : ∀ c : Int, 0 ≤ c → c < A 1 1 → A2 705 (240 * A 0 11 + c) = x_tal A 704 c) (e2 : ∀ (k : Nat) (j : Int), ¬ x_tq (A 0 11) k j → A2 k j = x_tal A k j) (g2 : ∀ k j, g32 (A2 k j)) (b5 : ∀ c : Int, -128 ≤ A2 705 c ∧ A2 705 c ≤ 127) : q_inv A2 lb := by
  obtain ⟨h1, h2, hb, hi, ht, ⟨h6, h7, h8⟩, hx, h10, h11, h12⟩ := h
  have hts := h1.cin.2.1
  obtain ⟨y1, y2, y3, y4⟩ := x_rd_taste hx hts h11
  have hlb := q_tb_lb h1.tbl h1.lv
  have hlb2 : ¬ (517 ≤ lb ∧ lb ≤ 536) ∧ ¬ (517 ≤ lb + 43 ∧ lb + 43 ≤ 536) := by omega
  have hg0 : g_taste (517 + 3 * (A 0 11).toNat) := gt_of (i := A 0 11) hts.1 (by omega)
  have hT0 : ∀ k : Nat, k ≠ 0 → k ≠ 1 → x_tal A k = t_M A (517 + 3 * (A 0 11).toNat) (t_read (A 2) (A 1 1)) k := fun k a c => by unfold x_tal; funext j; rw [g_up_k a, g_up_k c]
  have hT : ∀ k : Nat, k ≠ 0 → k ≠ 1 → (k < 517 ∨ 536 < k) → x_tal A k = A k := fun k a c d => by
    rw [hT0 k a c]
    funext j
    unfold t_M
    rw [g_ts_k c, g_rw, if_neg (by omega), if_neg (by omega)]
  have e11 : x_tal A 1 1 = 0 := by unfold x_tal; rw [g_up_k (by decide), g_up_s]
  have ek : ∀ k : Nat, 704 ≤ k → ¬ (705 ≤ k ∧ k ≤ 706) → ¬ (708 ≤ k ∧ k ≤ 712) → A2 k = A k := fun k k1 k2 k3 => (funext fun j => e2 k j (by unfold x_tq x_fl z_sc; omega)).trans (hT k (by omega) (by omega) (by omega))
  have e3 : ∀ j : Int, (j = 32 ∨ j = 41 ∨ j = 45) → A2 703 j = A 703 j := fun j hj => (e2 703 j (by unfold x_tq x_fl z_sc; omega)).trans (by rw [hT 703 (by decide) (by decide) (by decide)])
  have gT : ∀ k j, g32 (x_tal A k j) := by unfold x_tal; exact x_up32 (x_up32 (t_M32 hx.1 hx.2.1.2 (t_read_ok (B := A 2) (n := A 1 1) hx.2.1)) ⟨by decide, by decide⟩) ⟨by omega, by omega⟩
  have eM : ∀ k : Nat, 703 ≤ k → x_tal A k = A k := fun k hk => hT k (by omega) (by omega) (by omega)
  have hr : q_rel (x_tal A) lb A2 := z_tal (M := x_tal A) (q_mem h1 eM gT) hx (q_tap_mem ht eM) ht6 hq h7' h706 h705 e2 g2 b5
  have e0 : ∀ j : Int, j ≠ 11 → x_tal A 0 j = A 0 j := fun j hj => by unfold x_tal; rw [g_up_i hj, g_up_k (by decide), x_tM0 hg0]
  have e011 : x_tal A 0 11 = A 0 11 + 1 := by unfold x_tal; rw [g_up_s]
  have el : x_tal A lb = A lb := hT lb (by omega) (by omega) (by omega)
  have el43 : x_tal A (lb + 43) = A (lb + 43) := hT _ (by omega) (by omega) (by omega)
  have hrow : ∀ S : Int → Int, q_row A lb S → q_row (x_tal A) lb S := fun S ⟨r0, r1, r2, r3, r4⟩ => by
    unfold q_row
    rw [e011, el, el43]
    exact ⟨r0, ⟨r1.1, by omega⟩, ⟨r2.1, by omega⟩, r3, r4⟩
  have z01 : ∀ k : Nat, A2 k = A k → q_01 A k → q_01 A2 k := fun k hk hq j => by rw [hk]; exact hq j
  have e9 := hT 549 (by decide) (by decide) (by decide)
  have hp : ∀ d : Nat, x_past (x_tal A) d = x_past A d := by
    intro d
    induction d with
    | zero => rw [x_past, x_past, hT 550 (by decide) (by decide) (by decide)]
    | succ d ih => rw [x_past, x_past, ih, e9, hT 552 (by decide) (by decide) (by decide), hT 553 (by decide) (by decide) (by decide)]
  refine q_inv_of hr ?_ (v_brt hb (hT 701 (by decide) (by decide) (by decide)) (hT 702 (by decide) (by decide) (by decide)) (e3 41 (by decide)) (ek 725 (by decide) (by decide) (by decide))) ?_ ⟨by rw [f6, e11], by rw [e11]; decide, fun j => ?_, fun j => by rw [ek 704 (by decide) (by decide) (by decide)]; exact ht.2.2.2 j⟩ ⟨z01 713 (ek 713 (by decide) (by decide) (by decide)) h6, z01 717 (ek 717 (by decide) (by decide) (by decide)) h7, z01 726 (ek 726 (by decide) (by decide) (by decide)) h8⟩ ⟨gT, by rw [e11]; decide, by rw [hT 2 (by decide) (by decide) (by decide)]; exact hx.2.2.1, by rw [hT 545 (by decide) (by decide) (by decide)]; exact hx.2.2.2.1, by rw [hT 546 (by decide) (by decide) (by decide)]; exact hx.2.2.2.2⟩ b5 (fun r r0 r1 => z_43_eq (h11 r r0 r1) (hT _ (by omega) (by omega) (by omega))) (fun i => by rw [hT 552 (by decide) (by decide) (by decide)]; exact h12 i) (fun k a1 a2 => funext fun j => e2 k j (by unfold x_tq x_fl z_sc; omega))
  · obtain ⟨u1, u2, u3⟩ := h2
    refine ⟨by rw [e9, e3 32 (by decide)]; exact u1, by rw [e9]; exact u2, fun d hd => ?_⟩
    rw [e9] at hd
    obtain ⟨v1, v2⟩ := u3 d hd
    refine ⟨by rw [hp]; exact hrow _ v1, ?_⟩
    unfold q_snap at v2 ⊢
    rw [hp, e9, el, el43, ek 717 (by decide) (by decide) (by decide), ek 718 (by decide) (by decide) (by decide)]
    exact v2
  · obtain ⟨v1, v2, v3⟩ := hi
    have e51 := hT 551 (by decide) (by decide) (by decide)
    refine ⟨by rw [e3 45 (by decide), e9]; exact v1, by rw [e9]; exact v2, fun y => ?_⟩
    rw [e9] at y
    obtain ⟨w1, w2, w3, w4⟩ := v3 y
    refine ⟨by rw [e0 12 (by decide)]; exact w1, by rw [e51]; exact hrow _ w2, ?_, ?_⟩
    · rw [ek 727 (by decide) (by decide) (by decide), e51]; exact w3
    · rw [ek 726 (by decide) (by decide) (by decide), e51, el, el43]; exact w4
  · rw [hT 2 (by decide) (by decide) (by decide), ek 704 (by decide) (by decide) (by decide)]; exact ht.2.2.1 j
