/-! ===== a TASTE told ===== -/
theorem z_tal {I M N : g_I} {lb : Nat} (h : q_rel I lb M) (hx : x_lk I) (hT : q_tap I M) (ht : I 0 11 < 6) (hq : (t_read (I 2) (I 1 1)).2.1 = -1) (h7 : N 703 7 = I 0 11 + 1) (h706 : N 706 (I 0 11) = I 1 1) (h705 : ∀ c : Int, 0 ≤ c → c < I 1 1 → N 705 (240 * I 0 11 + c) = M 704 c) (hfN : ∀ (k : Nat) (j : Int), ¬ x_tq (I 0 11) k j → N k j = M k j) (hgN : ∀ k j, g32 (N k j)) (hb5 : ∀ c : Int, -128 ≤ N 705 c ∧ N 705 c ≤ 127) : q_rel (x_tal I) lb N := by
  obtain ⟨a1, a2, a3, a4, a5, a6, a7, a8, a9, a10, a11⟩ := h
  obtain ⟨d1, d2, d3, d4, d5, d6, d7, d8⟩ := id a3
  obtain ⟨t, htt⟩ : ∃ t, t = I 0 11 := ⟨_, rfl⟩
  rw [← htt] at ht h7 h706 h705 hfN d2 d3 a10 d5 d6
  obtain ⟨S, hS⟩ : ∃ S, S = t_read (I 2) (I 1 1) := ⟨_, rfl⟩
  have hok := t_read_ok (B := I 2) (n := I 1 1) hx.2.1
  have hgd := d_read (B := I 2) (n := I 1 1) hx.2.1
  rw [← hS] at hq hok hgd
  have hg0 : g_taste (517 + 3 * t.toNat) := gt_of (i := t) d2.1 (by omega)
  have hlb : (4 ≤ lb ∧ lb + 128 ≤ 388) ∨ lb = 555 := by
    unfold q_tb at a4
    rcases a4 with ⟨-, -, z, -⟩ | ⟨z1, z2, z3⟩
    · exact Or.inr z
    · left; omega
  have hX : x_tal I = g_up (g_up (t_M I (517 + 3 * t.toNat) S) 1 1 0) 0 11 (t + 1) := by unfold x_tal; rw [← htt, ← hS]
  have e : ∀ k : Nat, k ≠ 0 → k ≠ 1 → k ≠ 517 + 3 * t.toNat → k ≠ 518 + 3 * t.toNat → x_tal I k = I k := fun k k0 k1 k2 k3 => by
    rw [hX]
    funext j
    rw [g_up_k k0, g_up_k k1]
    unfold t_M
    rw [g_ts_k k1, g_rw, if_neg (by omega), if_neg (by omega)]
  have e0 : ∀ j : Int, j ≠ 11 → x_tal I 0 j = I 0 j := fun j hj => by rw [hX, g_up_i hj, g_up_k (by decide), x_tM0 hg0]
  have e11 : x_tal I 0 11 = t + 1 := by rw [hX, g_up_s]
  have eT2 : x_tal I (517 + 3 * t.toNat) 2 = (S.2.2.length : Int) := by
    rw [hX, g_up_k (by omega), g_up_k (by omega)]
    unfold t_M
    rw [g_ts_k (by omega), g_rw, if_pos ⟨rfl, rfl⟩]
  have eT1 : ∀ i : Int, 0 ≤ i → i < (S.2.2.length : Int) → x_tal I (518 + 3 * t.toNat) i = S.2.2.getD i.toNat 0 := fun i i0 i1 => by
    rw [hX, g_up_k (by omega), g_up_k (by omega)]
    unfold t_M
    rw [g_ts_k (by omega), g_rw, if_neg (by omega), if_pos ⟨by omega, i0, i1⟩]
  have eo : ∀ k : Nat, k ≠ 0 → k ≠ 1 → (k < 517 ∨ 536 < k) → x_tal I k = I k := fun k k0 k1 hk => e k k0 k1 (by omega) (by omega)
  have el : ∀ o : Nat, o < 128 → x_tal I (lb + o) = I (lb + o) := fun o ho => eo _ (by omega) (by omega) (by omega)
  have el0 : x_tal I lb = I lb := el 0 (by omega)
  have e550 := eo 550 (by decide) (by decide) (by decide)
  have hNo : ∀ k : Nat, (708 ≤ k ∧ k ≤ 712) → ∀ j : Int, (k = 708 → j < 252) → (k = 709 → j < 270) → (k = 710 → j < 1296) → (k = 711 → j < 3) → (k = 712 → j < 3) → N k j = M k j := fun k hk j c1 c2 c3 c4 c5 => hfN k j (by unfold x_tq x_fl z_sc; omega)
  refine ⟨hgN, ?_, ⟨q_lok_row el d1, by rw [e11]; omega, fun τ t0 t1 => ?_, by rw [e550]; exact d4, by rw [e550, e11]; omega, by rw [e550, e11]; omega, by rw [e550]; exact d7, fun f f0 f1 => ?_⟩, ?_, by rw [e0 10 (by decide)]; exact a5, ⟨by rw [e0 12 (by decide), hfN 703 24 (by unfold x_tq x_fl z_sc; omega)]; exact a6.1, by rw [e0 10 (by decide), hfN 703 23 (by unfold x_tq x_fl z_sc; omega)]; exact a6.2.1, by rw [e11]; exact h7⟩, fun jj j0 j1 => ?_, fun k k0 k1 => by rw [e550, hfN 714 k (by unfold x_tq x_fl z_sc; omega)]; exact a8 k k0 k1, fun f f0 f1 => ?_, fun τ t0 t1 => ?_, ?_⟩
  · rw [hX]
    exact x_up32 (x_up32 (t_M32 a2 hx.2.1.2 hok) ⟨by decide, by decide⟩) ⟨by omega, by omega⟩
  · rw [e11] at t1
    by_cases z : τ = t
    · rw [z]
      exact x_tok hok hgd eT2 (fun i i0 i1 => by rw [show 517 + 3 * t.toNat + 1 = 518 + 3 * t.toNat by omega]; exact eT1 i i0 i1)
    · have := d3 τ t0 (by omega)
      unfold g_tok at this ⊢
      rw [e (517 + 3 * τ.toNat) (by omega) (by omega) (by omega) (by omega), e (517 + 3 * τ.toNat + 1) (by omega) (by omega) (by omega) (by omega)]
      exact this
  · rw [el0] at f1
    rw [e550]; exact d8 f f0 f1
  · unfold q_tb at a4 ⊢
    rw [e0 12 (by decide), e0 10 (by decide), eo 555 (by decide) (by decide) (by decide)]
    exact a4
  · rw [e0 10 (by decide)] at j1
    have er : ∀ o : Nat, o < 128 → x_tal I (4 + 128 * jj.toNat + o) = I (4 + 128 * jj.toNat + o) := fun o ho => eo _ (by omega) (by omega) (by omega)
    exact q_lf_row er (q_lf_cp (a7 jj j0 j1) (fun c c0 c1 => hNo 708 (by decide) _ (by omega) (by omega) (by omega) (by omega) (by omega)) (fun c c0 c1 => hNo 709 (by decide) _ (by omega) (by omega) (by omega) (by omega) (by omega)) (fun c c0 c1 => hNo 710 (by decide) _ (by omega) (by omega) (by omega) (by omega) (by omega)) (hNo 711 (by decide) _ (by omega) (by omega) (by omega) (by omega) (by omega)) (hNo 712 (by decide) _ (by omega) (by omega) (by omega) (by omega) (by omega)))
  · rw [el0] at f1
    rw [e550, el 43 (by omega)]
    obtain ⟨b1, b2⟩ := a9 f f0 f1
    exact ⟨b1, fun r r0 r1 => by rw [hfN 713 _ (by unfold x_tq x_fl z_sc; omega)]; exact b2 r r0 r1⟩
  · rw [e11] at t1
    by_cases z : τ = t
    · rw [z]
      have hr : t_read (q_by N 705 (240 * t)) (N 706 t) = S := by
        rw [h706, hS]
        refine u_read (fun j j0 j1 => ?_) hx.2.1
        show g_and (N 705 (240 * t + j)) 255 = I 2 j
        rw [h705 j j0 j1]
        exact (hT.2.2.1 j).symm
      unfold q_ta
      rw [hr, h706, eT2]
      exact ⟨hx.2.1, hq, hb5, rfl, eT1⟩
    · have ha := a10 τ t0 (by omega)
      have e6 : N 706 τ = M 706 τ := hfN 706 τ (by unfold x_tq x_fl z_sc; omega)
      unfold q_ta at ha ⊢
      have hr : t_read (q_by N 705 (240 * τ)) (M 706 τ) = t_read (q_by M 705 (240 * τ)) (M 706 τ) := by
        refine u_read (fun j j0 j1 => ?_) ha.1
        show g_and (N 705 (240 * τ + j)) 255 = g_and (M 705 (240 * τ + j)) 255
        rw [hfN 705 _ (by unfold x_tq x_fl z_sc; omega)]
      rw [e6, hr, e (517 + 3 * τ.toNat) (by omega) (by omega) (by omega) (by omega), e (518 + 3 * τ.toNat) (by omega) (by omega) (by omega) (by omega)]
      exact ⟨ha.1, ha.2.1, hb5, ha.2.2.2⟩
  · obtain ⟨⟨c1, c2⟩, c3, c4⟩ := a11
    have f7 := eo 697 (by decide) (by decide) (by decide)
    have f8 := eo 698 (by decide) (by decide) (by decide)
    have f9 := eo 699 (by decide) (by decide) (by decide)
    have f10 := eo 700 (by decide) (by decide) (by decide)
    refine ⟨?_, by rw [f7, hfN 703 38 (by unfold x_tq x_fl z_sc; omega)]; exact c3, fun c k0 k1 => ?_⟩
    · unfold g_cok
      rw [f7, f8, f9, f10]
      exact ⟨c1, c2⟩
    · rw [f7] at k1
      rw [f8, f9, f10, hfN 721 c (by unfold x_tq x_fl z_sc; omega), hfN 722 c (by unfold x_tq x_fl z_sc; omega), hfN 723 c (by unfold x_tq x_fl z_sc; omega)]
      exact c4 c k0 k1
