/-! ===== a whole LIFE is read ===== -/
/-- what the readers take for granted of the class's memory -/
def x_lk (I : g_I) : Prop := (∀ k j, g32 (I k j)) ∧ (0 ≤ I 1 1 ∧ I 1 1 ≤ 240) ∧ (∀ j, 0 ≤ I 2 j ∧ I 2 j ≤ 255) ∧ (∀ i, 0 ≤ I 545 i ∧ I 545 i < 20) ∧ ∀ i, 0 ≤ I 546 i ∧ I 546 i < 4
theorem x_beg_ok {b : Nat} {I : g_I} (hb : g_life b) (h : x_lk I) : l_ok b (m_beg b I) := by
  unfold g_life at hb
  obtain ⟨h1, h2, h3, h4, h5⟩ := h
  have e : ∀ k : Nat, k ≠ 1 → k ≠ b → m_beg b I k = I k := fun k a c => by
    unfold m_beg; rw [g_ts_f a]; funext j; rw [g_up_k c, g_up_k c]
  have e1 : m_beg b I 1 1 = I 1 1 := by unfold m_beg; rw [g_ts_n, g_up_k (by omega), g_up_k (by omega)]
  have e0 : ∀ j, m_beg b I b j = if j = 1 then 0 else if j = 0 then 0 else I b j := fun j => by
    unfold m_beg
    rw [g_ts_f (by omega)]
    by_cases z : j = 1
    · rw [if_pos z, z, g_up_s]
    · rw [if_neg z, g_up_i z]
      by_cases y : j = 0
      · rw [if_pos y, y, g_up_s]
      · rw [if_neg y, g_up_i y]
  refine ⟨?_, ?_, ?_, ?_, ?_, ?_, ?_, ?_, ?_⟩
  · unfold m_beg; exact g_ts32 (x_up32 (x_up32 h1 ⟨by decide, by decide⟩) ⟨by decide, by decide⟩) ⟨by decide, by decide⟩ ⟨by decide, by decide⟩
  · rw [e1, show m_beg b I 1 2 = 0 from g_ts_a]; exact ⟨by decide, h2.1⟩
  · rw [e1]; exact h2.2
  · rw [show m_beg b I 1 3 = -1 from g_ts_q]; decide
  · rw [e 2 (by decide) (by omega)]; exact h3
  · rw [e 545 (by decide) (by omega)]; exact h4
  · rw [e 546 (by decide) (by omega)]; exact h5
  · rw [e0, if_neg (by decide), if_pos rfl]; decide
  · rw [e0, if_pos rfl]; decide
theorem y_Lf {M : g_I} : ∃ Lf : Int → Int, ∀ c, 0 ≤ t_lt c → M 707 c = Lf (t_lt c) := by
  refine ⟨fun k => M 707 (g_tx 3 k), fun c hc => ?_⟩
  have h := hc
  unfold t_lt at hc ⊢
  by_cases z : c < 0
  · rw [if_pos z] at hc; omega
  · rw [if_neg z] at hc ⊢
    have hs := (g_first_in (p := fun j => decide (g_tx 3 j = c)) 8 0 (by decide)).resolve_left (by omega)
    dsimp only
    rw [of_decide_eq_true hs.2.2]
theorem z_beg {b : Nat} {I X N : g_I} (hb : g_life b) (hX : X = m_beg b I) (h1 : N 711 3 = 0) (h2 : N 712 3 = 0) : X 1 1 = I 1 1 ∧ X 2 = I 2 ∧ X 1 2 = 0 ∧ X 1 3 = -1 ∧ X b 0 = 0 ∧ X b 1 = 0 ∧ z_Z X b N 0 (-1) 0 (fun _ => 0) ∧ z_E X b 0 := by
  unfold g_life at hb
  have e0 : X b 0 = 0 := by rw [hX]; unfold m_beg; rw [g_ts_k (by omega), g_up_i (by decide), g_up_s]
  have e1 : X b 1 = 0 := by rw [hX]; unfold m_beg; rw [g_ts_k (by omega), g_up_s]
  refine ⟨?_, ?_, ?_, ?_, e0, e1, ⟨⟨by omega, by omega, by decide, by omega, by omega, fun z => by omega⟩, fun i i0 i1 => by omega, fun s s0 s1 => by omega, fun f f0 f1 => by omega⟩, fun _ => ⟨e0, e1⟩, by omega, fun s s0 s1 => by omega⟩
  · rw [hX]; unfold m_beg; rw [g_ts_n, g_up_k (by omega), g_up_k (by omega)]
  · rw [hX]; unfold m_beg; rw [g_ts_f (by decide)]; funext j; rw [g_up_k (by omega), g_up_k (by omega)]
  · rw [hX]; exact g_ts_a
  · rw [hX]; exact g_ts_q
theorem z_fin1 {b : Nat} {X Y N : g_I} {v : Int} (hb : g_life b) (h0 : X b 0 = 0 ∧ X b 1 = 0) (hR : z_R X Y b N 0 (fun _ => 0) v) : q_lf (m_fin Y) b N 3 := by
  obtain ⟨lv, -, hZ, -, n1, n2, n3, n4⟩ := hR
  have hb5 := hb
  unfold g_life at hb5
  have hk : ∀ k : Nat, k ≠ 1 → m_fin Y k = Y k := fun k hk => by unfold m_fin; exact z_ts5 hk
  have hZ2 : z_Z (m_fin Y) b N 0 (-1) 0 lv := z_Z_cg hZ (fun k k0 k1 => hk k (by omega)) (fun i _ => ⟨by rw [hk 545 (by decide)], by rw [hk 546 (by decide)]⟩) (fun _ _ _ => rfl)
  refine z_S6 hZ2 (by rw [hk b (by omega)]; omega) (fun z => ?_)
  rw [hk b (by omega)] at z ⊢
  rcases n4 with ⟨a1, a2⟩ | ⟨a1, a2, a3⟩
  · by_cases y : Y b 0 = 1
    · exact y
    · have := (n1 1 (by omega) (by omega)).2.2
      omega
  · omega
/-- a LIFE told, or its FAULT -/
def z_rl (w : g_W) (M : g_I) (J : g_J) (lb b : Nat) (Y : g_I) : g_P := fun r n' I' J' R' => r = none ∧ n' = g_n ∧ J' = J ∧ g_rf w R' lb 704 ∧ (∀ (k : Nat) (j : Int), ¬ (z_sc k j ∨ (k = 703 ∧ 8 ≤ j ∧ j ≤ 12)) → I' k j = M k j) ∧ (∀ k j, g32 (I' k j)) ∧ I' 703 11 = Y 1 3 ∧ (Y 1 3 = -1 → q_lf Y b I' 3)
theorem q_lf_y {Y N : g_I} {b : Nat} {a q d jj : Int} (h : q_lf Y b N jj) : q_lf Y b (y_M N a q d) jj := by
  have e : ∀ k : Nat, k ≠ 703 → y_M N a q d k = N k := fun k hk => funext fun j => y_M_off (by omega)
  have e8 := e 708 (by decide)
  have e9 := e 709 (by decide)
  have e10 := e 710 (by decide)
  have e11 := e 711 (by decide)
  have e12 := e 712 (by decide)
  unfold q_lf q_sl q_fk at h ⊢
  rw [e8, e9, e10, e11, e12]
  exact h
theorem y_M_o9 {N : g_I} {a q d : Int} {k : Nat} {j : Int} (h : ¬ (k = 703 ∧ 8 ≤ j ∧ j ≤ 12)) : y_M N a q d k j = N k j := (g_up_n (by omega)).trans ((g_up_n (by omega)).trans (g_up_n (by omega)))
set_option maxHeartbeats 4000000 in
set_option maxRecDepth 100000 in
/-- X13_readLife -/
theorem c_X13_readLife (w : g_W) {J : g_J} {R : g_R} {I : g_I} {lb t0 b : Nat} (hR : g_rf w R lb t0) {M : g_I} (hgM : ∀ k j, g32 (M k j)) (hb : g_life b) (hx : x_lk I) (hT : q_tap I M) : g_Met w g_n M J R yX13_readLife cX13_readLife 1 none 19 0 0 [(gvr w 703)] (z_rl w M J lb b (m_life b I)) := by
  refine g_intro (own := RX13) [some (gvr w 703)] (by decide +kernel) rfl (by decide) (Nat.le_of_ble_eq_true rfl) rfl (fun i v hv => g_args 0 i v hv rfl) (fun x hc hm => ?_)
  refine g_aldn hc dX13_readLife_0 rfl ?_
  refine g_aldn hc dX13_readLife_1 rfl ?_
  refine g_getRk hc lk_X13_9 ca_703 (rc_703_1 hR) dX13_readLife_2 ?_
  refine g_iconst hc dX13_readLife_5 ?_
  refine g_aldn hc dX13_readLife_6 rfl ?_
  refine g_getI' hc lk_X13_115 ca_703 6 rfl dX13_readLife_7 ?_
  refine g_V3 hc (c_X13_opens w hR (tx := 704)) my_X13_opens mv_X13_opens ca_703 rfl rfl lm_X13_213 rfl (by decide) (Nat.le_of_ble_eq_true rfl) hm dX13_readLife_10 (fun rO nO IO JO RO hpO => ?_)
  obtain ⟨rfl, rfl, rfl, hRO, rfl⟩ := hpO
  clear hR
  have hR := hRO
  obtain ⟨MO, hMO⟩ : ∃ MO, MO = g_up (g_up M 703 8 0) 703 9 (M 703 6) := ⟨_, rfl⟩
  rw [← hMO]
  obtain ⟨d, hdd⟩ : ∃ d, d = MO 703 12 := ⟨_, rfl⟩
  rw [← hdd]
  have hTn := hT.1
  have hxn := hx.2.1
  have hg9 : ∀ k j, g32 (MO k j) := by rw [hMO]; exact x_up32 (x_up32 hgM ⟨by omega, by omega⟩) ⟨by omega, by omega⟩
  have hd32 : g32 d := by rw [hdd]; exact hg9 _ _
  have hfr : ∀ (k : Nat) (j : Int), ¬ (z_sc k j ∨ (k = 703 ∧ 8 ≤ j ∧ j ≤ 12)) → MO k j = M k j := fun k j hk => by rw [hMO]; exact (g_up_n (by omega)).trans (g_up_n (by omega))
  have hgN := hg9
  obtain ⟨n, hn⟩ : ∃ n, n = I 1 1 := ⟨_, rfl⟩
  have h89 : MO 703 8 = 0 ∧ MO 703 9 = n := ⟨by rw [hMO, g_up_i (by decide), g_up_s], by rw [hMO, g_up_s, hn]; exact hTn⟩
  obtain ⟨Lf, hLf⟩ := @y_Lf M
  refine g_aldn hc dX13_readLife_13 rfl ?_
  refine g_getRk hc lk_X13_46 ca_703 (rc_703_21 hR) dX13_readLife_14 ?_
  refine g_iconst hc dX13_readLife_17 ?_
  refine g_iconst hc dX13_readLife_18 ?_
  obtain ⟨N3, hN3⟩ : ∃ N3, N3 = g_up MO 711 3 0 := ⟨_, rfl⟩
  refine g_iaste (I2 := (y_M N3 0 (-1) d)) hc ca_711 (by decide) (by omega) (by omega) ((y_M_p (by omega)).trans (by rw [hN3])) dX13_readLife_19 ?_
  have hgN : ∀ k j, g32 (N3 k j) := by rw [hN3]; exact x_up32 hgN ⟨by omega, by omega⟩
  have hfr : ∀ (k : Nat) (j : Int), ¬ (z_sc k j ∨ (k = 703 ∧ 8 ≤ j ∧ j ≤ 12)) → N3 k j = M k j := fun k j hk => by rw [hN3]; exact (g_up_n (by unfold z_sc at hk; omega)).trans (hfr k j hk)
  have h89 : N3 703 8 = 0 ∧ N3 703 9 = n := by rw [hN3, g_up_k (by decide), g_up_k (by decide)]; exact h89
  have k711 : N3 711 3 = 0 := by rw [hN3, g_up_s]
  refine g_aldn hc dX13_readLife_20 rfl ?_
  refine g_getRk hc lk_X13_49 ca_703 (rc_703_22 hR) dX13_readLife_21 ?_
  refine g_iconst hc dX13_readLife_24 ?_
  refine g_iconst hc dX13_readLife_25 ?_
  obtain ⟨N4, hN4⟩ : ∃ N4, N4 = g_up N3 712 3 0 := ⟨_, rfl⟩
  refine g_iaste (I2 := (y_M N4 0 (-1) d)) hc ca_712 (by decide) (by omega) (by omega) ((y_M_p (by omega)).trans (by rw [hN4])) dX13_readLife_26 ?_
  have hgN : ∀ k j, g32 (N4 k j) := by rw [hN4]; exact x_up32 hgN ⟨by omega, by omega⟩
  have hfr : ∀ (k : Nat) (j : Int), ¬ (z_sc k j ∨ (k = 703 ∧ 8 ≤ j ∧ j ≤ 12)) → N4 k j = M k j := fun k j hk => by rw [hN4]; exact (g_up_n (by unfold z_sc at hk; omega)).trans (hfr k j hk)
  have h89 : N4 703 8 = 0 ∧ N4 703 9 = n := by rw [hN4, g_up_k (by decide), g_up_k (by decide)]; exact h89
  have k711 : N4 711 3 = 0 := by rw [hN4, g_up_k (by decide)]; exact k711
  have k712 : N4 712 3 = 0 := by rw [hN4, g_up_s]
  have he : y_env N4 704 240 0 n Lf := ⟨h89, ⟨by decide, by omega, by decide⟩, by omega, fun j => by rw [hfr 704 j (by unfold z_sc; omega)]; exact hT.2.2.2 j, hgN, fun c hc => by rw [hfr 707 c (by unfold z_sc; omega)]; exact hLf c hc, ca_704, by decide⟩
  have hBx : q_by N4 704 0 = I 2 := by
    funext j
    show g_and (N4 704 (0 + j)) 255 = I 2 j
    rw [Int.zero_add, hfr 704 j (by unfold z_sc; omega)]
    exact (hT.2.2.1 j).symm
  obtain ⟨X, hX⟩ : ∃ X, X = m_beg b I := ⟨_, rfl⟩
  obtain ⟨b1, b2, b3, b4, b5, b6, b7, b8⟩ := z_beg hb hX k711 k712
  obtain ⟨Y, hY⟩ : ∃ Y, Y = m_life b I := ⟨_, rfl⟩
  obtain ⟨Z, hZ⟩ : ∃ Z, Z = m_node b 6 X := ⟨_, rfl⟩
  have hYZ : Y = m_fin Z.2 := by rw [hY, hZ, hX]; rfl
  rw [← hY]
  have hZok : l_ok b Z.2 := by rw [hZ]; exact (m_node_ok hb 6 (by decide) X (by rw [hX]; exact x_beg_ok hb hx)).1
  have hK := (z_node_K hb 6 (by decide) X (by rw [hX]; exact x_beg_ok hb hx)).1
  rw [← hZ] at hK
  have z1 : Z.2 1 1 = n := by rw [hK.1, b1, hn]
  have z2 : Z.2 2 = I 2 := (hK.2.1 2 (by unfold z_in g_life at *; omega)).trans b2
  have hZq := hZok.2.2.2.1
  refine g_aldn hc dX13_readLife_27 rfl ?_
  refine g_iconst hc dX13_readLife_28 ?_
  refine g_iconst hc dX13_readLife_29 ?_
  refine g_iconst hc dX13_readLife_30 ?_
  refine g_V3 hc (r_node w hb 6 (by decide) hR he (a := 0) (d := d) (dep := 0) (ah := -1) (bh := -1) (X := X) (lv := fun _ => 0) ⟨by decide, by omega⟩ (by rw [hX]; exact x_beg_ok hb hx) ⟨b1.trans hn.symm, b2.trans hBx.symm, b3, b4⟩ (by decide) (by rw [if_pos rfl]) (by rw [if_pos rfl]) b7 b8) my_X13_readNode mv_X13_readNode ca_703 rfl rfl lm_X13_272 rfl (by decide) (Nat.le_of_ble_eq_true rfl) hm dX13_readLife_31 (fun ro no Ioz Jo Ro hpo => ?_)
  obtain ⟨rfl, rfl, rfl, v3, a3, N3, rfl, rfl, ha3, hv3, hg3, hf3, ht3⟩ := hpo
  rw [← hZ] at ht3 ⊢
  have he : y_env N3 704 240 0 n Lf := z_env_fr he hf3 hg3
  have hBm : q_by N3 704 0 = I 2 := z_by_fr hf3 hBx
  have hfr : ∀ (k : Nat) (j : Int), ¬ (z_sc k j ∨ (k = 703 ∧ 8 ≤ j ∧ j ≤ 12)) → N3 k j = M k j := fun k j hk => (hf3 k j (fun z => hk (Or.inl z))).trans (hfr k j hk)
  have hgN := hg3
  have hXb0 := hx.2.2.1
  refine g_pop hc dX13_readLife_34 rfl ?_
  refine g_aldn hc dX13_readLife_35 rfl ?_
  refine g_getIe hc lk_X13_134 ca_703 11 rfl (y_M_q) dX13_readLife_36 ?_
  refine g_iconst hc dX13_readLife_39 ?_
  refine g_icmp_ne (tgt := 56) hc dX13_readLife_40 (by decide) (by first | assumption | with_reducible exact z_sg32 hXb | with_reducible exact z_sg32 hXb0 | with_reducible exact g_and32 | with_reducible exact g_or32 | exact ⟨by omega, by omega⟩) (by first | assumption | with_reducible exact z_sg32 hXb | with_reducible exact z_sg32 hXb0 | with_reducible exact g_and32 | with_reducible exact g_or32 | exact ⟨by omega, by omega⟩) (fun c1 => ?_) (fun c1 => ?_)
  · skip
    have hq1 : ¬ Z.2 1 3 = -1 := c1
    refine g_vret hc hm dX13_readLife_56 ?_
    have hq9 : Y 1 3 = Z.2 1 3 := by rw [hYZ]; exact z_fin_q hq1
    exact ⟨rfl, rfl, rfl, hR, fun k j hk => (y_M_o9 (by omega)).trans (hfr k j hk), y_M32 hgN ⟨by omega, by omega⟩ ⟨by omega, by omega⟩ hd32, by rw [y_M_q, hq9], fun z => by rw [hq9] at z; exact absurd z hq1⟩
  · skip
    have hq1 : Z.2 1 3 = -1 := c1
    obtain ⟨t1, t2, t3⟩ := ht3 hq1
    have hpi := g_pos_in (B := I 2) (len := n) (a := a3) (by omega)
    rw [hq1]
    skip
    refine g_aldn hc dX13_readLife_43 rfl ?_
    refine g_V0r hc (z_look w hR he hBm (by omega) (by omega)) my_X13_look mv_X13_look ca_703 rfl rfl lm_X13_144 rfl (by decide) (Nat.le_of_ble_eq_true rfl) hm dX13_readLife_44 ?_
    refine g_iconst hc dX13_readLife_47 ?_
    refine g_icmp_eq (tgt := 56) hc dX13_readLife_48 (by decide) (by first | assumption | with_reducible exact z_sg32 hXb | with_reducible exact z_sg32 hXb0 | with_reducible exact g_and32 | with_reducible exact g_or32 | exact ⟨by omega, by omega⟩) (by first | assumption | with_reducible exact z_sg32 hXb | with_reducible exact z_sg32 hXb0 | with_reducible exact g_and32 | with_reducible exact g_or32 | exact ⟨by omega, by omega⟩) (fun c2 => ?_) (fun c2 => ?_)
    · skip
      have hs1 : g_sgn (I 2) n a3 = -1 := c2
      refine g_vret hc hm dX13_readLife_56 ?_
      have f1 : Y 1 3 = if g_sgn (I 2) n (Z.2 1 2) = -1 then Z.2 1 3 else g_q1 (Z.2 1 3) (g_pos (I 2) n (g_pos (I 2) n (Z.2 1 2))) := by rw [hYZ]; unfold m_fin; rw [g_ts_q, z1, z2]
      have hq9 : Y 1 3 = -1 := by rw [f1, ← t2, if_pos hs1]; exact hq1
      exact ⟨rfl, rfl, rfl, hR, fun k j hk => (y_M_o9 (by omega)).trans (hfr k j hk), y_M32 hgN ⟨by omega, by omega⟩ ⟨by omega, by omega⟩ hd32, by rw [y_M_q, hq9], fun _ => by rw [hYZ]; exact q_lf_y (z_fin1 hb ⟨b5, b6⟩ t3)⟩
    · skip
      have hs1 : ¬ g_sgn (I 2) n a3 = -1 := c2
      refine g_aldn hc dX13_readLife_51 rfl ?_
      refine g_V0r hc (d_fails w hR he (by omega) (by omega)) my_X13_fails mv_X13_fails ca_703 rfl rfl lm_X13_140 rfl (by decide) (Nat.le_of_ble_eq_true rfl) hm dX13_readLife_52 ?_
      refine g_pop hc dX13_readLife_55 rfl ?_
      refine g_vret hc hm dX13_readLife_56 ?_
      have f1 : Y 1 3 = if g_sgn (I 2) n (Z.2 1 2) = -1 then Z.2 1 3 else g_q1 (Z.2 1 3) (g_pos (I 2) n (g_pos (I 2) n (Z.2 1 2))) := by rw [hYZ]; unfold m_fin; rw [g_ts_q, z1, z2]
      have hq9 : Y 1 3 = g_pos (I 2) n a3 := by rw [f1, ← t2, if_neg hs1, hq1, g_q1, if_pos rfl, g_pos_pos (by omega)]
      rw [g_q1, if_pos rfl]
      exact ⟨rfl, rfl, rfl, hR, fun k j hk => (y_M_o9 (by omega)).trans (hfr k j hk), y_M32 hgN ⟨by omega, by omega⟩ ⟨by omega, by omega⟩ hd32, by rw [y_M_q, hq9], fun z => by rw [hq9] at z; omega⟩
