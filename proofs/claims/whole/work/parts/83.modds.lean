abbrev x_g (k : Nat) (j : Int) : Prop := k = 703 ∧ ((8 ≤ j ∧ j ≤ 14) ∨ j = 17)
theorem x_gt {k : Nat} {j : Int} (h : x_g k j) : x_t k j := by unfold x_g at h; unfold x_t; omega
theorem x_ga {k : Nat} {j : Int} (h : x_g k j) : x_a k j := by unfold x_g at h; unfold x_a; omega
theorem q_bc1 {m : Int} (h : 1 ≤ m ∧ m ≤ 15) : 1 ≤ g_bc m ∧ g_bc m ≤ 4 := by
  have z : ∀ i : Fin 16, 1 ≤ i.val → 1 ≤ g_bc (i.val : Int) ∧ g_bc (i.val : Int) ≤ 4 := by decide +kernel
  have h2 := z ⟨m.toNat, by omega⟩ (by show 1 ≤ m.toNat; omega)
  dsimp only at h2
  rwa [show ((m.toNat : Nat) : Int) = m by omega] at h2
theorem g_pbh0 {I : g_I} {b : Nat} {f r mask : Int} : g_pbh I b 0 f r mask = 0 := by
  unfold g_pbh
  split
  · rfl
  · split
    · split
      · rfl
      · rw [Int.zero_mul, Int.zero_tdiv]
    · split
      · split
        · rfl
        · rw [Int.zero_tdiv]
      · split <;> rfl
theorem g_ptn_z {I : g_I} {b : Nat} {s : Int} {mask : Int → Int} {i : Nat} (h : g_ptn I b s mask i = 0) : ∀ n : Nat, i ≤ n → g_ptn I b s mask n = 0 := by
  intro n hn
  induction n with
  | zero =>
    have : i = 0 := by omega
    rwa [this] at h
  | succ n ih =>
    by_cases e : i = n + 1
    · rwa [e] at h
    · rw [g_ptn, ih (by omega), g_pbh0]
theorem g_lt8_in {I : g_I} {b : Nat} (h : g_lok I b) {f r o : Int} (h1 : 0 ≤ f ∧ f < I b 1) (h2 : 0 ≤ r ∧ r < I (b + 43) f) (h3 : 0 ≤ o ∧ o ≤ 63) : ∀ k : Int, 0 ≤ k → k < 8 → -1000000 ≤ g_lt8 I b f r o k ∧ g_lt8 I b f r o k ≤ 1000000 := by
  intro k h0 h8
  obtain ⟨⟨k1, k2⟩, -, hy, hit⟩ := h.2.2.2 f h1.1 h1.2
  obtain ⟨a0, a1, a2, a3, -⟩ := hit r h2.1 h2.2
  unfold g_lt8
  rcases (show k = 0 ∨ k = 1 ∨ k = 2 ∨ k = 3 ∨ k = 4 ∨ k = 5 ∨ k = 6 ∨ k = 7 by omega) with rfl | rfl | rfl | rfl | rfl | rfl | rfl | rfl <;> (simp only [reduceIte, Int.reduceEq]; omega)
set_option maxHeartbeats 4000000 in
set_option maxRecDepth 100000 in
/-- X13_worthBy -/
theorem c_X13_worthBy (w : g_W) {I : g_I} {J : g_J} {R : g_R} {lb tx : Nat} (hR : g_rf w R lb tx) {M : g_I} (hmM : q_rel I lb M) {t : Int} (h1 : 0 ≤ t ∧ t < I 0 11) {Lf : Int → Int} (hlt : x_let Lf M) : g_Met w g_n M J R yX13_worthBy cX13_worthBy 2 (some .int) 34 0 0 [(gvr w 703), (gvI t)] (x_rel w (some (gvI (g_tw I (517 + 3 * t.toNat) Lf))) x_g M J lb) := by
  refine g_intro (own := RX13) [some (gvr w 703), some (gvI t)] (by decide +kernel) rfl (by decide) (Nat.le_of_ble_eq_true rfl) rfl (fun i v hv => g_args 0 i v hv rfl) (fun x hc hm => ?_)
  have hfM : ∀ (k : Nat) (j : Int), ¬ x_g k j → M k j = M k j := fun _ _ _ => rfl
  have hI := hmM.gi
  have hTb := q_b1 hmM
  have hLv := hmM.lv
  have hC := hmM.cin
  have hL := hC.1
  obtain ⟨hn0, hn1, hLs, hLf⟩ := id hL
  obtain ⟨-, hC1, hC2, hC3, hC4, hC5, hC6, hC7⟩ := id hC
  have hta := hmM.ta h1
  have hta1 := hta.1
  have hty : y_txt M 705 1440 (240 * t) (M 706 t) Lf := ⟨⟨by omega, by omega, by decide⟩, hta.1, hta.2.2.1, hmM.g, hlt, ca_705, Or.inr rfl⟩
  refine g_aldn hc dX13_worthBy_0 rfl ?_
  refine g_aldn hc dX13_worthBy_1 rfl ?_
  refine g_getRk hc lk_X13_13 ca_703 (rc_703_2 hR) dX13_worthBy_2 ?_
  refine g_sipush hc dX13_worthBy_5 (by decide +kernel) ?_
  refine g_iload_n hc dX13_worthBy_8 rfl ?_
  refine g_imul hc dX13_worthBy_9 ?_
  refine g_aldn hc dX13_worthBy_10 rfl ?_
  refine g_getRk hc lk_X13_16 ca_703 (rc_703_3 hR) dX13_worthBy_11 ?_
  refine g_iload_n hc dX13_worthBy_14 rfl ?_
  refine g_iald hc ca_706 (by decide) (by omega) (by omega) dX13_worthBy_15 ?_
  refine g_V3 hc (c_X13_goThrough w hR (tx := 705) (ln := 1440) hty) my_X13_goThrough mv_X13_goThrough ca_703 rfl rfl lm_X13_278 rfl (by decide) (Nat.le_of_ble_eq_true rfl) hm dX13_worthBy_16 (fun r3 n3 I3 J3 R3 hp3 => ?_)
  obtain ⟨rfl, rfl, rfl, hR, hG3, hX3, hq3, hf14⟩ := hp3
  have hK3 : ∀ (k : Nat) (j : Int), ¬ x_g k j → I3 k j = M k j := fun k j hk => hG3 k j (fun z => hk (by unfold x_g; omega))
  have hmI3 : q_rel I lb I3 := q_cg (fun k j hk => hK3 k j (fun z => hk (x_ga z))) hX3 hmM
  have hfI3 : ∀ (k : Nat) (j : Int), ¬ x_g k j → I3 k j = M k j := fun k j hk => (hK3 k j hk).trans (hfM k j hk)
  refine g_aldn hc dX13_worthBy_19 rfl ?_
  refine g_getIe hc lk_X13_210 ca_703 14 rfl (show I3 703 14 = g_tw I (517 + 3 * t.toNat) Lf from (hf14 hta.2.1).trans (q_tw hmM h1)) dX13_worthBy_20 ?_
  refine g_iret hc hm dX13_worthBy_23 ?_
  exact x_end rfl hfI3 hmI3.g hR
set_option maxHeartbeats 4000000 in
set_option maxRecDepth 100000 in
/-- X13_layLetters -/
theorem c_X13_layLetters (w : g_W) {I : g_I} {J : g_J} {R : g_R} {lb tx : Nat} (hR : g_rf w R lb tx) {M : g_I} (hmM : q_rel I lb M) {s : Int} (h1 : 0 ≤ s ∧ s < I lb 0) : g_Met w g_n M J R yX13_layLetters cX13_layLetters 2 none 3 0 0 [(gvr w 703), (gvI s)] (fun rr nn II JJ RR => x_rel w none x_a M J lb rr nn II JJ RR ∧ x_let (g_lt6 (I (lb + 2 + s.toNat))) II) := by
  refine g_intro (own := RX13) [some (gvr w 703), some (gvI s)] (by decide +kernel) rfl (by decide) (Nat.le_of_ble_eq_true rfl) rfl (fun i v hv => g_args 0 i v hv rfl) (fun x hc hm => ?_)
  have hfM : ∀ (k : Nat) (j : Int), ¬ x_a k j → M k j = M k j := fun _ _ _ => rfl
  have hI := hmM.gi
  have hTb := q_b1 hmM
  have hLv := hmM.lv
  have hC := hmM.cin
  have hL := hC.1
  obtain ⟨hn0, hn1, hLs, hLf⟩ := id hL
  obtain ⟨-, hC1, hC2, hC3, hC4, hC5, hC6, hC7⟩ := id hC
  have hTs := q_ts hmM (by omega)
  obtain ⟨-, -, a0, a1, a2, a3, a4, a5, -⟩ := hLs s h1.1 h1.2
  refine g_aldn hc dX13_layLetters_0 rfl ?_
  refine g_getRk hc lk_X13_20 ca_703 (rc_703_4 hR) dX13_layLetters_1 ?_
  refine g_bipush hc dX13_layLetters_4 (by decide +kernel) ?_
  refine g_aldn hc dX13_layLetters_6 rfl ?_
  refine g_iload_n hc dX13_layLetters_7 rfl ?_
  refine g_iconst hc dX13_layLetters_8 ?_
  refine g_V2 hc (c_X13_hasOf w hR hmM (by omega) (by omega)) my_X13_hasOf mv_X13_hasOf ca_703 rfl rfl lm_X13_318 rfl (by decide) (Nat.le_of_ble_eq_true rfl) hm dX13_layLetters_9 (fun r3 n3 I3 J3 R3 hp3 => ?_)
  obtain ⟨⟨rfl, rfl, hK3, hX3, rfl, t3, hR⟩, hwI3⟩ := hp3
  have hmI3 : q_rel I lb I3 := q_cg (fun k j hk => hK3 k j (fun z => hk (x_wa z))) hX3 hmM
  have hfI3 : ∀ (k : Nat) (j : Int), ¬ x_a k j → I3 k j = M k j := fun k j hk => (hK3 k j (fun z => hk (x_wa z))).trans (hfM k j hk)
  refine g_iast' hc ca_707 (by decide) (by omega) (by omega)  dX13_layLetters_12 (fun I4 hI4 => ?_)
  have hmI4 : q_rel I lb I4 := by rw [hI4]; exact q_up hmI3 (by unfold x_a; omega) (by first | exact hI _ _ | exact hmM.g _ _ | exact g_b32 | exact g_and32 | exact g_or32 | exact g_shl32 | assumption | exact ⟨by omega, by omega⟩)
  have hfI4 : ∀ (k : Nat) (j : Int), ¬ x_a k j → I4 k j = M k j := fun k j hk => by rw [hI4]; exact (g_up_n (by unfold x_a at hk; omega)).trans (hfI3 k j hk)
  have L103 : I4 707 103 = I (lb + 2 + s.toNat) 0 := by rw [hI4, g_up_s]
  refine g_aldn hc dX13_layLetters_13 rfl ?_
  refine g_getRk hc lk_X13_20 ca_703 (rc_703_4 hR) dX13_layLetters_14 ?_
  refine g_bipush hc dX13_layLetters_17 (by decide +kernel) ?_
  refine g_aldn hc dX13_layLetters_19 rfl ?_
  refine g_iload_n hc dX13_layLetters_20 rfl ?_
  refine g_iconst hc dX13_layLetters_21 ?_
  refine g_V2 hc (c_X13_hasOf w hR hmI4 (by omega) (by omega)) my_X13_hasOf mv_X13_hasOf ca_703 rfl rfl lm_X13_318 rfl (by decide) (Nat.le_of_ble_eq_true rfl) hm dX13_layLetters_22 (fun r5 n5 I5 J5 R5 hp5 => ?_)
  obtain ⟨⟨rfl, rfl, hK5, hX5, rfl, t5, hR⟩, hwI5⟩ := hp5
  have hmI5 : q_rel I lb I5 := q_cg (fun k j hk => hK5 k j (fun z => hk (x_wa z))) hX5 hmI4
  have hfI5 : ∀ (k : Nat) (j : Int), ¬ x_a k j → I5 k j = M k j := fun k j hk => (hK5 k j (fun z => hk (x_wa z))).trans (hfI4 k j hk)
  have L103 : I5 707 103 = I (lb + 2 + s.toNat) 0 := (hK5 707 _ (by unfold x_w; omega)).trans L103
  refine g_iast' hc ca_707 (by decide) (by omega) (by omega)  dX13_layLetters_25 (fun I6 hI6 => ?_)
  have hmI6 : q_rel I lb I6 := by rw [hI6]; exact q_up hmI5 (by unfold x_a; omega) (by first | exact hI _ _ | exact hmM.g _ _ | exact g_b32 | exact g_and32 | exact g_or32 | exact g_shl32 | assumption | exact ⟨by omega, by omega⟩)
  have hfI6 : ∀ (k : Nat) (j : Int), ¬ x_a k j → I6 k j = M k j := fun k j hk => by rw [hI6]; exact (g_up_n (by unfold x_a at hk; omega)).trans (hfI5 k j hk)
  have L103 : I6 707 103 = I (lb + 2 + s.toNat) 0 := by rw [hI6, g_up_i (by decide)]; exact L103
  have L106 : I6 707 106 = I (lb + 2 + s.toNat) 1 := by rw [hI6, g_up_s]
  refine g_aldn hc dX13_layLetters_26 rfl ?_
  refine g_getRk hc lk_X13_20 ca_703 (rc_703_4 hR) dX13_layLetters_27 ?_
  refine g_bipush hc dX13_layLetters_30 (by decide +kernel) ?_
  refine g_aldn hc dX13_layLetters_32 rfl ?_
  refine g_iload_n hc dX13_layLetters_33 rfl ?_
  refine g_iconst hc dX13_layLetters_34 ?_
  refine g_V2 hc (c_X13_hasOf w hR hmI6 (by omega) (by omega)) my_X13_hasOf mv_X13_hasOf ca_703 rfl rfl lm_X13_318 rfl (by decide) (Nat.le_of_ble_eq_true rfl) hm dX13_layLetters_35 (fun r7 n7 I7 J7 R7 hp7 => ?_)
  obtain ⟨⟨rfl, rfl, hK7, hX7, rfl, t7, hR⟩, hwI7⟩ := hp7
  have hmI7 : q_rel I lb I7 := q_cg (fun k j hk => hK7 k j (fun z => hk (x_wa z))) hX7 hmI6
  have hfI7 : ∀ (k : Nat) (j : Int), ¬ x_a k j → I7 k j = M k j := fun k j hk => (hK7 k j (fun z => hk (x_wa z))).trans (hfI6 k j hk)
  have L103 : I7 707 103 = I (lb + 2 + s.toNat) 0 := (hK7 707 _ (by unfold x_w; omega)).trans L103
  have L106 : I7 707 106 = I (lb + 2 + s.toNat) 1 := (hK7 707 _ (by unfold x_w; omega)).trans L106
  refine g_iast' hc ca_707 (by decide) (by omega) (by omega)  dX13_layLetters_38 (fun I8 hI8 => ?_)
  have hmI8 : q_rel I lb I8 := by rw [hI8]; exact q_up hmI7 (by unfold x_a; omega) (by first | exact hI _ _ | exact hmM.g _ _ | exact g_b32 | exact g_and32 | exact g_or32 | exact g_shl32 | assumption | exact ⟨by omega, by omega⟩)
  have hfI8 : ∀ (k : Nat) (j : Int), ¬ x_a k j → I8 k j = M k j := fun k j hk => by rw [hI8]; exact (g_up_n (by unfold x_a at hk; omega)).trans (hfI7 k j hk)
  have L103 : I8 707 103 = I (lb + 2 + s.toNat) 0 := by rw [hI8, g_up_i (by decide)]; exact L103
  have L106 : I8 707 106 = I (lb + 2 + s.toNat) 1 := by rw [hI8, g_up_i (by decide)]; exact L106
  have L111 : I8 707 111 = I (lb + 2 + s.toNat) 2 := by rw [hI8, g_up_s]
  refine g_aldn hc dX13_layLetters_39 rfl ?_
  refine g_getRk hc lk_X13_20 ca_703 (rc_703_4 hR) dX13_layLetters_40 ?_
  refine g_bipush hc dX13_layLetters_43 (by decide +kernel) ?_
  refine g_aldn hc dX13_layLetters_45 rfl ?_
  refine g_getRk hc lk_X13_37 ca_703 (rc_703_18 hR) dX13_layLetters_46 ?_
  refine g_aldn hc dX13_layLetters_49 rfl ?_
  refine g_aldn hc dX13_layLetters_50 rfl ?_
  refine g_getIe hc lk_X13_52 ca_703 24 rfl (show I8 703 24 = I 0 12 from hmI8.tab) dX13_layLetters_51 ?_
  refine g_iload_n hc dX13_layLetters_54 rfl ?_
  refine g_V2r hc (c_X13_leafAt w) my_X13_leafAt mv_X13_leafAt ca_703 rfl rfl lm_X13_235 rfl (by decide) (Nat.le_of_ble_eq_true rfl) hm dX13_layLetters_55 ?_
  refine g_iconst hc dX13_layLetters_58 ?_
  refine g_iadd hc dX13_layLetters_59 ?_
  refine g_ialde hc ca_708 (by decide) (by omega) (by omega) (show I8 708 ((((I 0 12) * 12 + s) * 7) + 2) = I (lb + 2 + s.toNat) 3 from q_l2 hmI8 (by omega)) dX13_layLetters_60 ?_
  refine g_iast' hc ca_707 (by decide) (by omega) (by omega)  dX13_layLetters_61 (fun I9 hI9 => ?_)
  have hmI9 : q_rel I lb I9 := by rw [hI9]; exact q_up hmI8 (by unfold x_a; omega) (by first | exact hI _ _ | exact hmM.g _ _ | exact g_b32 | exact g_and32 | exact g_or32 | exact g_shl32 | assumption | exact ⟨by omega, by omega⟩)
  have hfI9 : ∀ (k : Nat) (j : Int), ¬ x_a k j → I9 k j = M k j := fun k j hk => by rw [hI9]; exact (g_up_n (by unfold x_a at hk; omega)).trans (hfI8 k j hk)
  have L103 : I9 707 103 = I (lb + 2 + s.toNat) 0 := by rw [hI9, g_up_i (by decide)]; exact L103
  have L106 : I9 707 106 = I (lb + 2 + s.toNat) 1 := by rw [hI9, g_up_i (by decide)]; exact L106
  have L111 : I9 707 111 = I (lb + 2 + s.toNat) 2 := by rw [hI9, g_up_i (by decide)]; exact L111
  have L121 : I9 707 121 = I (lb + 2 + s.toNat) 3 := by rw [hI9, g_up_s]
  refine g_aldn hc dX13_layLetters_62 rfl ?_
  refine g_getRk hc lk_X13_20 ca_703 (rc_703_4 hR) dX13_layLetters_63 ?_
  refine g_bipush hc dX13_layLetters_66 (by decide +kernel) ?_
  refine g_aldn hc dX13_layLetters_68 rfl ?_
  refine g_iload_n hc dX13_layLetters_69 rfl ?_
  refine g_V1r hc (c_X13_dead w hR hmI9 (by omega)) my_X13_dead mv_X13_dead ca_703 rfl rfl lm_X13_367 rfl (by decide) (Nat.le_of_ble_eq_true rfl) hm dX13_layLetters_70 ?_
  refine g_iast' hc ca_707 (by decide) (by omega) (by omega)  dX13_layLetters_73 (fun I10 hI10 => ?_)
  have hmI10 : q_rel I lb I10 := by rw [hI10]; exact q_up hmI9 (by unfold x_a; omega) (by first | exact hI _ _ | exact hmM.g _ _ | exact g_b32 | exact g_and32 | exact g_or32 | exact g_shl32 | assumption | exact ⟨by omega, by omega⟩)
  have hfI10 : ∀ (k : Nat) (j : Int), ¬ x_a k j → I10 k j = M k j := fun k j hk => by rw [hI10]; exact (g_up_n (by unfold x_a at hk; omega)).trans (hfI9 k j hk)
  have L103 : I10 707 103 = I (lb + 2 + s.toNat) 0 := by rw [hI10, g_up_i (by decide)]; exact L103
  have L106 : I10 707 106 = I (lb + 2 + s.toNat) 1 := by rw [hI10, g_up_i (by decide)]; exact L106
  have L111 : I10 707 111 = I (lb + 2 + s.toNat) 2 := by rw [hI10, g_up_i (by decide)]; exact L111
  have L121 : I10 707 121 = I (lb + 2 + s.toNat) 3 := by rw [hI10, g_up_i (by decide)]; exact L121
  have L100 : I10 707 100 = I (lb + 2 + s.toNat) 4 := by rw [hI10, g_up_s]
  refine g_aldn hc dX13_layLetters_74 rfl ?_
  refine g_getRk hc lk_X13_20 ca_703 (rc_703_4 hR) dX13_layLetters_75 ?_
  refine g_bipush hc dX13_layLetters_78 (by decide +kernel) ?_
  refine g_aldn hc dX13_layLetters_80 rfl ?_
  refine g_getRk hc lk_X13_37 ca_703 (rc_703_18 hR) dX13_layLetters_81 ?_
  refine g_aldn hc dX13_layLetters_84 rfl ?_
  refine g_aldn hc dX13_layLetters_85 rfl ?_
  refine g_getIe hc lk_X13_52 ca_703 24 rfl (show I10 703 24 = I 0 12 from hmI10.tab) dX13_layLetters_86 ?_
  refine g_iload_n hc dX13_layLetters_89 rfl ?_
  refine g_V2r hc (c_X13_leafAt w) my_X13_leafAt mv_X13_leafAt ca_703 rfl rfl lm_X13_235 rfl (by decide) (Nat.le_of_ble_eq_true rfl) hm dX13_layLetters_90 ?_
  refine g_iconst hc dX13_layLetters_93 ?_
  refine g_iadd hc dX13_layLetters_94 ?_
  refine g_ialde hc ca_708 (by decide) (by omega) (by omega) (show I10 708 ((((I 0 12) * 12 + s) * 7) + 4) = I (lb + 2 + s.toNat) 5 from q_l4 hmI10 (by omega)) dX13_layLetters_95 ?_
  refine g_iast' hc ca_707 (by decide) (by omega) (by omega)  dX13_layLetters_96 (fun I11 hI11 => ?_)
  have hmI11 : q_rel I lb I11 := by rw [hI11]; exact q_up hmI10 (by unfold x_a; omega) (by first | exact hI _ _ | exact hmM.g _ _ | exact g_b32 | exact g_and32 | exact g_or32 | exact g_shl32 | assumption | exact ⟨by omega, by omega⟩)
  have hfI11 : ∀ (k : Nat) (j : Int), ¬ x_a k j → I11 k j = M k j := fun k j hk => by rw [hI11]; exact (g_up_n (by unfold x_a at hk; omega)).trans (hfI10 k j hk)
  have L103 : I11 707 103 = I (lb + 2 + s.toNat) 0 := by rw [hI11, g_up_i (by decide)]; exact L103
  have L106 : I11 707 106 = I (lb + 2 + s.toNat) 1 := by rw [hI11, g_up_i (by decide)]; exact L106
  have L111 : I11 707 111 = I (lb + 2 + s.toNat) 2 := by rw [hI11, g_up_i (by decide)]; exact L111
  have L121 : I11 707 121 = I (lb + 2 + s.toNat) 3 := by rw [hI11, g_up_i (by decide)]; exact L121
  have L100 : I11 707 100 = I (lb + 2 + s.toNat) 4 := by rw [hI11, g_up_i (by decide)]; exact L100
  have L116 : I11 707 116 = I (lb + 2 + s.toNat) 5 := by rw [hI11, g_up_s]
  refine g_aldn hc dX13_layLetters_97 rfl ?_
  refine g_getRk hc lk_X13_20 ca_703 (rc_703_4 hR) dX13_layLetters_98 ?_
  refine g_bipush hc dX13_layLetters_101 (by decide +kernel) ?_
  refine g_iconst hc dX13_layLetters_103 ?_
  refine g_iast' hc ca_707 (by decide) (by omega) (by omega)  dX13_layLetters_104 (fun I12 hI12 => ?_)
  have hmI12 : q_rel I lb I12 := by rw [hI12]; exact q_up hmI11 (by unfold x_a; omega) (by first | exact hI _ _ | exact hmM.g _ _ | exact g_b32 | exact g_and32 | exact g_or32 | exact g_shl32 | assumption | exact ⟨by omega, by omega⟩)
  have hfI12 : ∀ (k : Nat) (j : Int), ¬ x_a k j → I12 k j = M k j := fun k j hk => by rw [hI12]; exact (g_up_n (by unfold x_a at hk; omega)).trans (hfI11 k j hk)
  have L103 : I12 707 103 = I (lb + 2 + s.toNat) 0 := by rw [hI12, g_up_i (by decide)]; exact L103
  have L106 : I12 707 106 = I (lb + 2 + s.toNat) 1 := by rw [hI12, g_up_i (by decide)]; exact L106
  have L111 : I12 707 111 = I (lb + 2 + s.toNat) 2 := by rw [hI12, g_up_i (by decide)]; exact L111
  have L121 : I12 707 121 = I (lb + 2 + s.toNat) 3 := by rw [hI12, g_up_i (by decide)]; exact L121
  have L100 : I12 707 100 = I (lb + 2 + s.toNat) 4 := by rw [hI12, g_up_i (by decide)]; exact L100
  have L116 : I12 707 116 = I (lb + 2 + s.toNat) 5 := by rw [hI12, g_up_i (by decide)]; exact L116
  have L98 : I12 707 98 = 0 := by rw [hI12, g_up_s]
  refine g_aldn hc dX13_layLetters_105 rfl ?_
  refine g_getRk hc lk_X13_20 ca_703 (rc_703_4 hR) dX13_layLetters_106 ?_
  refine g_bipush hc dX13_layLetters_109 (by decide +kernel) ?_
  refine g_iconst hc dX13_layLetters_111 ?_
  refine g_iast' hc ca_707 (by decide) (by omega) (by omega)  dX13_layLetters_112 (fun I13 hI13 => ?_)
  have hmI13 : q_rel I lb I13 := by rw [hI13]; exact q_up hmI12 (by unfold x_a; omega) (by first | exact hI _ _ | exact hmM.g _ _ | exact g_b32 | exact g_and32 | exact g_or32 | exact g_shl32 | assumption | exact ⟨by omega, by omega⟩)
  have hfI13 : ∀ (k : Nat) (j : Int), ¬ x_a k j → I13 k j = M k j := fun k j hk => by rw [hI13]; exact (g_up_n (by unfold x_a at hk; omega)).trans (hfI12 k j hk)
  have L103 : I13 707 103 = I (lb + 2 + s.toNat) 0 := by rw [hI13, g_up_i (by decide)]; exact L103
  have L106 : I13 707 106 = I (lb + 2 + s.toNat) 1 := by rw [hI13, g_up_i (by decide)]; exact L106
  have L111 : I13 707 111 = I (lb + 2 + s.toNat) 2 := by rw [hI13, g_up_i (by decide)]; exact L111
  have L121 : I13 707 121 = I (lb + 2 + s.toNat) 3 := by rw [hI13, g_up_i (by decide)]; exact L121
  have L100 : I13 707 100 = I (lb + 2 + s.toNat) 4 := by rw [hI13, g_up_i (by decide)]; exact L100
  have L116 : I13 707 116 = I (lb + 2 + s.toNat) 5 := by rw [hI13, g_up_i (by decide)]; exact L116
  have L98 : I13 707 98 = 0 := by rw [hI13, g_up_i (by decide)]; exact L98
  have L119 : I13 707 119 = 0 := by rw [hI13, g_up_s]
  refine g_vret hc hm dX13_layLetters_113 ?_
  exact ⟨x_endv hfI13 hmI13.g hR, x_let_of (by rw [L103]; rfl) (by rw [L106]; rfl) (by rw [L111]; rfl) (by rw [L121]; rfl) (by rw [L100]; rfl) (by rw [L116]; rfl) (by rw [L98]; rfl) (by rw [L119]; rfl)⟩
set_option maxHeartbeats 4000000 in
set_option maxRecDepth 100000 in
/-- X13_ruleOf -/
theorem c_X13_ruleOf (w : g_W) {I : g_I} {J : g_J} {R : g_R} {lb tx : Nat} (hR : g_rf w R lb tx) {M : g_I} (hmM : q_rel I lb M) {f r : Int} (h1 : 0 ≤ f ∧ f < I lb 1) (h2 : 0 ≤ r ∧ r < I (lb + 43) f) (h3 : ¬ I 550 1 = -1) : g_Met w g_n M J R yX13_ruleOf cX13_ruleOf 4 (some .int) 35 0 0 [(gvr w 703), (gvI f), (gvI r)] (x_rel w (some (gvI (g_tw I (517 + 3 * (I 550 1).toNat) (g_lt8 I lb f r (g_bc (I 550 (4 + f))))))) x_t M J lb) := by
  refine g_intro (own := RX13) [some (gvr w 703), some (gvI f), some (gvI r), none] (by decide +kernel) rfl (by decide) (Nat.le_of_ble_eq_true rfl) rfl (fun i v hv => g_args 1 i v hv rfl) (fun x hc hm => ?_)
  have hfM : ∀ (k : Nat) (j : Int), ¬ x_t k j → M k j = M k j := fun _ _ _ => rfl
  have hI := hmM.gi
  have hTb := q_b1 hmM
  have hLv := hmM.lv
  have hC := hmM.cin
  have hL := hC.1
  obtain ⟨hn0, hn1, hLs, hLf⟩ := id hL
  obtain ⟨-, hC1, hC2, hC3, hC4, hC5, hC6, hC7⟩ := id hC
  have hTs := q_ts hmM (by omega)
  obtain ⟨hk2, hk1, hy, hit⟩ := hLf f h1.1 h1.2
  obtain ⟨b0, b1, b2, b3, b4, htg⟩ := hit r h2.1 h2.2
  have hbc9 := g_bc_in (a := I 550 (4 + f))
  refine g_aldn hc dX13_ruleOf_0 rfl ?_
  refine g_aldn hc dX13_ruleOf_1 rfl ?_
  refine g_getIe hc lk_X13_52 ca_703 24 rfl (show M 703 24 = I 0 12 from hmM.tab) dX13_ruleOf_2 ?_
  refine g_iload_n hc dX13_ruleOf_5 rfl ?_
  refine g_iload_n hc dX13_ruleOf_6 rfl ?_
  refine g_V3r hc (c_X13_branchAt w) my_X13_branchAt mv_X13_branchAt ca_703 rfl rfl lm_X13_262 rfl (by decide) (Nat.le_of_ble_eq_true rfl) hm dX13_ruleOf_7 ?_
  refine g_istore_3 hc dX13_ruleOf_10 rfl ?_
  refine g_aldn hc dX13_ruleOf_11 rfl ?_
  refine g_getRk hc lk_X13_20 ca_703 (rc_703_4 hR) dX13_ruleOf_12 ?_
  refine g_bipush hc dX13_ruleOf_15 (by decide +kernel) ?_
  refine g_aldn hc dX13_ruleOf_17 rfl ?_
  refine g_getRk hc lk_X13_43 ca_703 (rc_703_20 hR) dX13_ruleOf_18 ?_
  refine g_iload_n hc dX13_ruleOf_21 rfl ?_
  refine g_iconst hc dX13_ruleOf_22 ?_
  refine g_iadd hc dX13_ruleOf_23 ?_
  refine g_ialde hc ca_710 (by decide) (by omega) (by omega) (show M 710 (((((I 0 12) * 18 + f) * 4 + r) * 6) + 1) = I (lb + 47 + (f * 4 + r).toNat) 1 from q_bi hmM (by omega) (by omega) (by omega)) dX13_ruleOf_24 ?_
  refine g_iast' hc ca_707 (by decide) (by omega) (by omega)  dX13_ruleOf_25 (fun I3 hI3 => ?_)
  have hmI3 : q_rel I lb I3 := by rw [hI3]; exact q_up hmM (by unfold x_a; omega) (by first | exact hI _ _ | exact hmM.g _ _ | exact g_b32 | exact g_and32 | exact g_or32 | exact g_shl32 | assumption | exact ⟨by omega, by omega⟩)
  have hfI3 : ∀ (k : Nat) (j : Int), ¬ x_t k j → I3 k j = M k j := fun k j hk => by rw [hI3]; exact (g_up_n (by unfold x_t at hk; omega)).trans (hfM k j hk)
  have L103 : I3 707 103 = I (lb + 47 + (f * 4 + r).toNat) 1 := by rw [hI3, g_up_s]
  refine g_aldn hc dX13_ruleOf_26 rfl ?_
  refine g_getRk hc lk_X13_20 ca_703 (rc_703_4 hR) dX13_ruleOf_27 ?_
  refine g_bipush hc dX13_ruleOf_30 (by decide +kernel) ?_
  refine g_aldn hc dX13_ruleOf_32 rfl ?_
  refine g_getRk hc lk_X13_43 ca_703 (rc_703_20 hR) dX13_ruleOf_33 ?_
  refine g_iload_n hc dX13_ruleOf_36 rfl ?_
  refine g_iconst hc dX13_ruleOf_37 ?_
  refine g_iadd hc dX13_ruleOf_38 ?_
  refine g_ialde hc ca_710 (by decide) (by omega) (by omega) (show I3 710 (((((I 0 12) * 18 + f) * 4 + r) * 6) + 2) = I (lb + 47 + (f * 4 + r).toNat) 2 from q_bi hmI3 (by omega) (by omega) (by omega)) dX13_ruleOf_39 ?_
  refine g_iast' hc ca_707 (by decide) (by omega) (by omega)  dX13_ruleOf_40 (fun I4 hI4 => ?_)
  have hmI4 : q_rel I lb I4 := by rw [hI4]; exact q_up hmI3 (by unfold x_a; omega) (by first | exact hI _ _ | exact hmM.g _ _ | exact g_b32 | exact g_and32 | exact g_or32 | exact g_shl32 | assumption | exact ⟨by omega, by omega⟩)
  have hfI4 : ∀ (k : Nat) (j : Int), ¬ x_t k j → I4 k j = M k j := fun k j hk => by rw [hI4]; exact (g_up_n (by unfold x_t at hk; omega)).trans (hfI3 k j hk)
  have L103 : I4 707 103 = I (lb + 47 + (f * 4 + r).toNat) 1 := by rw [hI4, g_up_i (by decide)]; exact L103
  have L106 : I4 707 106 = I (lb + 47 + (f * 4 + r).toNat) 2 := by rw [hI4, g_up_s]
  refine g_aldn hc dX13_ruleOf_41 rfl ?_
  refine g_getRk hc lk_X13_20 ca_703 (rc_703_4 hR) dX13_ruleOf_42 ?_
  refine g_bipush hc dX13_ruleOf_45 (by decide +kernel) ?_
  refine g_aldn hc dX13_ruleOf_47 rfl ?_
  refine g_getRk hc lk_X13_43 ca_703 (rc_703_20 hR) dX13_ruleOf_48 ?_
  refine g_iload_n hc dX13_ruleOf_51 rfl ?_
  refine g_iconst hc dX13_ruleOf_52 ?_
  refine g_iadd hc dX13_ruleOf_53 ?_
  refine g_ialde hc ca_710 (by decide) (by omega) (by omega) (show I4 710 (((((I 0 12) * 18 + f) * 4 + r) * 6) + 3) = I (lb + 47 + (f * 4 + r).toNat) 3 from q_bi hmI4 (by omega) (by omega) (by omega)) dX13_ruleOf_54 ?_
  refine g_iast' hc ca_707 (by decide) (by omega) (by omega)  dX13_ruleOf_55 (fun I5 hI5 => ?_)
  have hmI5 : q_rel I lb I5 := by rw [hI5]; exact q_up hmI4 (by unfold x_a; omega) (by first | exact hI _ _ | exact hmM.g _ _ | exact g_b32 | exact g_and32 | exact g_or32 | exact g_shl32 | assumption | exact ⟨by omega, by omega⟩)
  have hfI5 : ∀ (k : Nat) (j : Int), ¬ x_t k j → I5 k j = M k j := fun k j hk => by rw [hI5]; exact (g_up_n (by unfold x_t at hk; omega)).trans (hfI4 k j hk)
  have L103 : I5 707 103 = I (lb + 47 + (f * 4 + r).toNat) 1 := by rw [hI5, g_up_i (by decide)]; exact L103
  have L106 : I5 707 106 = I (lb + 47 + (f * 4 + r).toNat) 2 := by rw [hI5, g_up_i (by decide)]; exact L106
  have L111 : I5 707 111 = I (lb + 47 + (f * 4 + r).toNat) 3 := by rw [hI5, g_up_s]
  refine g_aldn hc dX13_ruleOf_56 rfl ?_
  refine g_getRk hc lk_X13_20 ca_703 (rc_703_4 hR) dX13_ruleOf_57 ?_
  refine g_bipush hc dX13_ruleOf_60 (by decide +kernel) ?_
  refine g_aldn hc dX13_ruleOf_62 rfl ?_
  refine g_getRk hc lk_X13_40 ca_703 (rc_703_19 hR) dX13_ruleOf_63 ?_
  refine g_aldn hc dX13_ruleOf_66 rfl ?_
  refine g_aldn hc dX13_ruleOf_67 rfl ?_
  refine g_getIe hc lk_X13_52 ca_703 24 rfl (show I5 703 24 = I 0 12 from hmI5.tab) dX13_ruleOf_68 ?_
  refine g_iload_n hc dX13_ruleOf_71 rfl ?_
  refine g_V2r hc (c_X13_forkAt w) my_X13_forkAt mv_X13_forkAt ca_703 rfl rfl lm_X13_249 rfl (by decide) (Nat.le_of_ble_eq_true rfl) hm dX13_ruleOf_72 ?_
  refine g_ialde hc ca_709 (by decide) (by omega) (by omega) (show I5 709 (((I 0 12) * 18 + f) * 5) = I (lb + 41) f from q_yr hmI5 (by omega)) dX13_ruleOf_75 ?_
  refine g_iast' hc ca_707 (by decide) (by omega) (by omega)  dX13_ruleOf_76 (fun I6 hI6 => ?_)
  have hmI6 : q_rel I lb I6 := by rw [hI6]; exact q_up hmI5 (by unfold x_a; omega) (by first | exact hI _ _ | exact hmM.g _ _ | exact g_b32 | exact g_and32 | exact g_or32 | exact g_shl32 | assumption | exact ⟨by omega, by omega⟩)
  have hfI6 : ∀ (k : Nat) (j : Int), ¬ x_t k j → I6 k j = M k j := fun k j hk => by rw [hI6]; exact (g_up_n (by unfold x_t at hk; omega)).trans (hfI5 k j hk)
  have L103 : I6 707 103 = I (lb + 47 + (f * 4 + r).toNat) 1 := by rw [hI6, g_up_i (by decide)]; exact L103
  have L106 : I6 707 106 = I (lb + 47 + (f * 4 + r).toNat) 2 := by rw [hI6, g_up_i (by decide)]; exact L106
  have L111 : I6 707 111 = I (lb + 47 + (f * 4 + r).toNat) 3 := by rw [hI6, g_up_i (by decide)]; exact L111
  have L121 : I6 707 121 = I (lb + 41) f := by rw [hI6, g_up_s]
  refine g_aldn hc dX13_ruleOf_77 rfl ?_
  refine g_getRk hc lk_X13_20 ca_703 (rc_703_4 hR) dX13_ruleOf_78 ?_
  refine g_bipush hc dX13_ruleOf_81 (by decide +kernel) ?_
  refine g_iconst hc dX13_ruleOf_83 ?_
  refine g_iast' hc ca_707 (by decide) (by omega) (by omega)  dX13_ruleOf_84 (fun I7 hI7 => ?_)
  have hmI7 : q_rel I lb I7 := by rw [hI7]; exact q_up hmI6 (by unfold x_a; omega) (by first | exact hI _ _ | exact hmM.g _ _ | exact g_b32 | exact g_and32 | exact g_or32 | exact g_shl32 | assumption | exact ⟨by omega, by omega⟩)
  have hfI7 : ∀ (k : Nat) (j : Int), ¬ x_t k j → I7 k j = M k j := fun k j hk => by rw [hI7]; exact (g_up_n (by unfold x_t at hk; omega)).trans (hfI6 k j hk)
  have L103 : I7 707 103 = I (lb + 47 + (f * 4 + r).toNat) 1 := by rw [hI7, g_up_i (by decide)]; exact L103
  have L106 : I7 707 106 = I (lb + 47 + (f * 4 + r).toNat) 2 := by rw [hI7, g_up_i (by decide)]; exact L106
  have L111 : I7 707 111 = I (lb + 47 + (f * 4 + r).toNat) 3 := by rw [hI7, g_up_i (by decide)]; exact L111
  have L121 : I7 707 121 = I (lb + 41) f := by rw [hI7, g_up_i (by decide)]; exact L121
  have L100 : I7 707 100 = 0 := by rw [hI7, g_up_s]
  refine g_aldn hc dX13_ruleOf_85 rfl ?_
  refine g_getRk hc lk_X13_20 ca_703 (rc_703_4 hR) dX13_ruleOf_86 ?_
  refine g_bipush hc dX13_ruleOf_89 (by decide +kernel) ?_
  refine g_aldn hc dX13_ruleOf_91 rfl ?_
  refine g_iload_n hc dX13_ruleOf_92 rfl ?_
  refine g_V1r hc (c_X13_openMany w hR hmI7 (by omega)) my_X13_openMany mv_X13_openMany ca_703 rfl rfl lm_X13_329 rfl (by decide) (Nat.le_of_ble_eq_true rfl) hm dX13_ruleOf_93 ?_
  refine g_iast' hc ca_707 (by decide) (by omega) (by omega)  dX13_ruleOf_96 (fun I8 hI8 => ?_)
  have hmI8 : q_rel I lb I8 := by rw [hI8]; exact q_up hmI7 (by unfold x_a; omega) (by first | exact hI _ _ | exact hmM.g _ _ | exact g_b32 | exact g_and32 | exact g_or32 | exact g_shl32 | assumption | exact ⟨by omega, by omega⟩)
  have hfI8 : ∀ (k : Nat) (j : Int), ¬ x_t k j → I8 k j = M k j := fun k j hk => by rw [hI8]; exact (g_up_n (by unfold x_t at hk; omega)).trans (hfI7 k j hk)
  have L103 : I8 707 103 = I (lb + 47 + (f * 4 + r).toNat) 1 := by rw [hI8, g_up_i (by decide)]; exact L103
  have L106 : I8 707 106 = I (lb + 47 + (f * 4 + r).toNat) 2 := by rw [hI8, g_up_i (by decide)]; exact L106
  have L111 : I8 707 111 = I (lb + 47 + (f * 4 + r).toNat) 3 := by rw [hI8, g_up_i (by decide)]; exact L111
  have L121 : I8 707 121 = I (lb + 41) f := by rw [hI8, g_up_i (by decide)]; exact L121
  have L100 : I8 707 100 = 0 := by rw [hI8, g_up_i (by decide)]; exact L100
  have L116 : I8 707 116 = g_bc (I 550 (4 + f)) := by rw [hI8, g_up_s]
  refine g_aldn hc dX13_ruleOf_97 rfl ?_
  refine g_getRk hc lk_X13_20 ca_703 (rc_703_4 hR) dX13_ruleOf_98 ?_
  refine g_bipush hc dX13_ruleOf_101 (by decide +kernel) ?_
  refine g_iload_n hc dX13_ruleOf_103 rfl ?_
  refine g_iast' hc ca_707 (by decide) (by omega) (by omega)  dX13_ruleOf_104 (fun I9 hI9 => ?_)
  have hmI9 : q_rel I lb I9 := by rw [hI9]; exact q_up hmI8 (by unfold x_a; omega) (by first | exact hI _ _ | exact hmM.g _ _ | exact g_b32 | exact g_and32 | exact g_or32 | exact g_shl32 | assumption | exact ⟨by omega, by omega⟩)
  have hfI9 : ∀ (k : Nat) (j : Int), ¬ x_t k j → I9 k j = M k j := fun k j hk => by rw [hI9]; exact (g_up_n (by unfold x_t at hk; omega)).trans (hfI8 k j hk)
  have L103 : I9 707 103 = I (lb + 47 + (f * 4 + r).toNat) 1 := by rw [hI9, g_up_i (by decide)]; exact L103
  have L106 : I9 707 106 = I (lb + 47 + (f * 4 + r).toNat) 2 := by rw [hI9, g_up_i (by decide)]; exact L106
  have L111 : I9 707 111 = I (lb + 47 + (f * 4 + r).toNat) 3 := by rw [hI9, g_up_i (by decide)]; exact L111
  have L121 : I9 707 121 = I (lb + 41) f := by rw [hI9, g_up_i (by decide)]; exact L121
  have L100 : I9 707 100 = 0 := by rw [hI9, g_up_i (by decide)]; exact L100
  have L116 : I9 707 116 = g_bc (I 550 (4 + f)) := by rw [hI9, g_up_i (by decide)]; exact L116
  have L98 : I9 707 98 = r := by rw [hI9, g_up_s]
  refine g_aldn hc dX13_ruleOf_105 rfl ?_
  refine g_getRk hc lk_X13_20 ca_703 (rc_703_4 hR) dX13_ruleOf_106 ?_
  refine g_bipush hc dX13_ruleOf_109 (by decide +kernel) ?_
  refine g_aldn hc dX13_ruleOf_111 rfl ?_
  refine g_getRk hc lk_X13_43 ca_703 (rc_703_20 hR) dX13_ruleOf_112 ?_
  refine g_iload_n hc dX13_ruleOf_115 rfl ?_
  refine g_ialde hc ca_710 (by decide) (by omega) (by omega) (show I9 710 ((((I 0 12) * 18 + f) * 4 + r) * 6) = I (lb + 47 + (f * 4 + r).toNat) 0 from q_b0 hmI9 (by omega) (by omega)) dX13_ruleOf_116 ?_
  refine g_iast' hc ca_707 (by decide) (by omega) (by omega)  dX13_ruleOf_117 (fun I10 hI10 => ?_)
  have hmI10 : q_rel I lb I10 := by rw [hI10]; exact q_up hmI9 (by unfold x_a; omega) (by first | exact hI _ _ | exact hmM.g _ _ | exact g_b32 | exact g_and32 | exact g_or32 | exact g_shl32 | assumption | exact ⟨by omega, by omega⟩)
  have hfI10 : ∀ (k : Nat) (j : Int), ¬ x_t k j → I10 k j = M k j := fun k j hk => by rw [hI10]; exact (g_up_n (by unfold x_t at hk; omega)).trans (hfI9 k j hk)
  have L103 : I10 707 103 = I (lb + 47 + (f * 4 + r).toNat) 1 := by rw [hI10, g_up_i (by decide)]; exact L103
  have L106 : I10 707 106 = I (lb + 47 + (f * 4 + r).toNat) 2 := by rw [hI10, g_up_i (by decide)]; exact L106
  have L111 : I10 707 111 = I (lb + 47 + (f * 4 + r).toNat) 3 := by rw [hI10, g_up_i (by decide)]; exact L111
  have L121 : I10 707 121 = I (lb + 41) f := by rw [hI10, g_up_i (by decide)]; exact L121
  have L100 : I10 707 100 = 0 := by rw [hI10, g_up_i (by decide)]; exact L100
  have L116 : I10 707 116 = g_bc (I 550 (4 + f)) := by rw [hI10, g_up_i (by decide)]; exact L116
  have L98 : I10 707 98 = r := by rw [hI10, g_up_i (by decide)]; exact L98
  have L119 : I10 707 119 = I (lb + 47 + (f * 4 + r).toNat) 0 := by rw [hI10, g_up_s]
  have hltI10 : x_let (g_lt8 I lb f r (g_bc (I 550 (4 + f)))) I10 := x_let_of (by rw [L103]; rfl) (by rw [L106]; rfl) (by rw [L111]; rfl) (by rw [L121]; rfl) (by rw [L100]; rfl) (by rw [L116]; rfl) (by rw [L98]; rfl) (by rw [L119]; rfl)
  refine g_aldn hc dX13_ruleOf_118 rfl ?_
  refine g_aldn hc dX13_ruleOf_119 rfl ?_
  refine g_getRk hc lk_X13_60 ca_703 (rc_703_26 hR) dX13_ruleOf_120 ?_
  refine g_iconst hc dX13_ruleOf_123 ?_
  refine g_ialde hc ca_714 (by decide) (by omega) (by omega) (show I10 714 1 = I 550 1 from hmI10.told (by omega)) dX13_ruleOf_124 ?_
  refine g_V1 hc (c_X13_worthBy w hR hmI10 (by omega) hltI10) my_X13_worthBy mv_X13_worthBy ca_703 rfl rfl lm_X13_350 rfl (by decide) (Nat.le_of_ble_eq_true rfl) hm dX13_ruleOf_125 (fun r11 n11 I11 J11 R11 hp11 => ?_)
  obtain ⟨rfl, rfl, hK11, hX11, rfl, t11, hR⟩ := hp11
  have hmI11 : q_rel I lb I11 := q_cg (fun k j hk => hK11 k j (fun z => hk (x_ga z))) hX11 hmI10
  have hfI11 : ∀ (k : Nat) (j : Int), ¬ x_t k j → I11 k j = M k j := fun k j hk => (hK11 k j (fun z => hk (x_gt z))).trans (hfI10 k j hk)
  refine g_iret hc hm dX13_ruleOf_128 ?_
  exact x_end rfl hfI11 hmI11.g hR
set_option maxHeartbeats 4000000 in
set_option maxRecDepth 100000 in
/-- X13_worthOf -/
theorem c_X13_worthOf (w : g_W) {I : g_I} {J : g_J} {R : g_R} {lb tx : Nat} (hR : g_rf w R lb tx) {M : g_I} (hmM : q_rel I lb M) {s : Int} (h1 : 0 ≤ s ∧ s < I lb 0) : g_Met w g_n M J R yX13_worthOf cX13_worthOf 2 (some .int) 35 0 0 [(gvr w 703), (gvI s)] (x_rel w (some (gvI (g_lkd I lb s))) x_a M J lb) := by
  refine g_intro (own := RX13) [some (gvr w 703), some (gvI s)] (by decide +kernel) rfl (by decide) (Nat.le_of_ble_eq_true rfl) rfl (fun i v hv => g_args 0 i v hv rfl) (fun x hc hm => ?_)
  have hfM : ∀ (k : Nat) (j : Int), ¬ x_a k j → M k j = M k j := fun _ _ _ => rfl
  have hI := hmM.gi
  have hTb := q_b1 hmM
  have hLv := hmM.lv
  have hC := hmM.cin
  have hL := hC.1
  obtain ⟨hn0, hn1, hLs, hLf⟩ := id hL
  obtain ⟨-, hC1, hC2, hC3, hC4, hC5, hC6, hC7⟩ := id hC
  have hTs := q_ts hmM (by omega)
  refine g_aldn hc dX13_worthOf_0 rfl ?_
  refine g_getRk hc lk_X13_60 ca_703 (rc_703_26 hR) dX13_worthOf_1 ?_
  refine g_iconst hc dX13_worthOf_4 ?_
  refine g_ialde hc ca_714 (by decide) (by omega) (by omega) (show M 714 2 = I 550 2 from hmM.told (by omega)) dX13_worthOf_5 ?_
  refine g_iconst hc dX13_worthOf_6 ?_
  refine g_icmp_ne (tgt := 31) hc dX13_worthOf_7 (by decide) (by first | exact hI _ _ | exact hxI2 _ _ | exact hIa _ _ | exact hIb _ _ | exact g_b32 | exact g_and32 | assumption | exact ⟨by omega, by omega⟩) (by first | exact hI _ _ | exact hxI2 _ _ | exact hIa _ _ | exact hIb _ _ | exact g_b32 | exact g_and32 | assumption | exact ⟨by omega, by omega⟩) (fun c1 => ?_) (fun c1 => ?_)
  · skip
    refine g_aldn hc dX13_worthOf_31 rfl ?_
    refine g_iload_n hc dX13_worthOf_32 rfl ?_
    refine g_V1 hc (c_X13_layLetters w hR hmM (by omega)) my_X13_layLetters mv_X13_layLetters ca_703 rfl rfl lm_X13_370 rfl (by decide) (Nat.le_of_ble_eq_true rfl) hm dX13_worthOf_33 (fun r3 n3 I3 J3 R3 hp3 => ?_)
    obtain ⟨⟨rfl, rfl, hK3, hX3, rfl, t3, hR⟩, hl3⟩ := hp3
    have hmI3 : q_rel I lb I3 := q_cg hK3 hX3 hmM
    have hfI3 : ∀ (k : Nat) (j : Int), ¬ x_a k j → I3 k j = M k j := fun k j hk => (hK3 k j hk).trans (hfM k j hk)
    have hltI3 := hl3
    refine g_aldn hc dX13_worthOf_36 rfl ?_
    refine g_aldn hc dX13_worthOf_37 rfl ?_
    refine g_getRk hc lk_X13_60 ca_703 (rc_703_26 hR) dX13_worthOf_38 ?_
    refine g_iconst hc dX13_worthOf_41 ?_
    refine g_ialde hc ca_714 (by decide) (by omega) (by omega) (show I3 714 2 = I 550 2 from hmI3.told (by omega)) dX13_worthOf_42 ?_
    refine g_V1 hc (c_X13_worthBy w hR hmI3 (by omega) hltI3) my_X13_worthBy mv_X13_worthBy ca_703 rfl rfl lm_X13_350 rfl (by decide) (Nat.le_of_ble_eq_true rfl) hm dX13_worthOf_43 (fun r4 n4 I4 J4 R4 hp4 => ?_)
    obtain ⟨rfl, rfl, hK4, hX4, rfl, t4, hR⟩ := hp4
    have hmI4 : q_rel I lb I4 := q_cg (fun k j hk => hK4 k j (fun z => hk (x_ga z))) hX4 hmI3
    have hfI4 : ∀ (k : Nat) (j : Int), ¬ x_a k j → I4 k j = M k j := fun k j hk => (hK4 k j (fun z => hk (x_ga z))).trans (hfI3 k j hk)
    refine g_iret hc hm dX13_worthOf_46 ?_
    exact x_end (by rw [g_lkd, if_neg (by omega)]; rfl) hfI4 hmI4.g hR
  · skip
    refine g_aldn hc dX13_worthOf_10 rfl ?_
    refine g_iload_n hc dX13_worthOf_11 rfl ?_
    refine g_iconst hc dX13_worthOf_12 ?_
    refine g_V2 hc (c_X13_hasOf w hR hmM (by omega) (by omega)) my_X13_hasOf mv_X13_hasOf ca_703 rfl rfl lm_X13_318 rfl (by decide) (Nat.le_of_ble_eq_true rfl) hm dX13_worthOf_13 (fun r5 n5 I5 J5 R5 hp5 => ?_)
    obtain ⟨⟨rfl, rfl, hK5, hX5, rfl, t5, hR⟩, hwI5⟩ := hp5
    have hmI5 : q_rel I lb I5 := q_cg (fun k j hk => hK5 k j (fun z => hk (x_wa z))) hX5 hmM
    have hfI5 : ∀ (k : Nat) (j : Int), ¬ x_a k j → I5 k j = M k j := fun k j hk => (hK5 k j (fun z => hk (x_wa z))).trans (hfM k j hk)
    refine g_aldn hc dX13_worthOf_16 rfl ?_
    refine g_iload_n hc dX13_worthOf_17 rfl ?_
    refine g_iconst hc dX13_worthOf_18 ?_
    refine g_V2 hc (c_X13_hasOf w hR hmI5 (by omega) (by omega)) my_X13_hasOf mv_X13_hasOf ca_703 rfl rfl lm_X13_318 rfl (by decide) (Nat.le_of_ble_eq_true rfl) hm dX13_worthOf_19 (fun r6 n6 I6 J6 R6 hp6 => ?_)
    obtain ⟨⟨rfl, rfl, hK6, hX6, rfl, t6, hR⟩, hwI6⟩ := hp6
    have hmI6 : q_rel I lb I6 := q_cg (fun k j hk => hK6 k j (fun z => hk (x_wa z))) hX6 hmI5
    have hfI6 : ∀ (k : Nat) (j : Int), ¬ x_a k j → I6 k j = M k j := fun k j hk => (hK6 k j (fun z => hk (x_wa z))).trans (hfI5 k j hk)
    refine g_iadd hc dX13_worthOf_22 ?_
    refine g_aldn hc dX13_worthOf_23 rfl ?_
    refine g_iload_n hc dX13_worthOf_24 rfl ?_
    refine g_iconst hc dX13_worthOf_25 ?_
    refine g_V2 hc (c_X13_hasOf w hR hmI6 (by omega) (by omega)) my_X13_hasOf mv_X13_hasOf ca_703 rfl rfl lm_X13_318 rfl (by decide) (Nat.le_of_ble_eq_true rfl) hm dX13_worthOf_26 (fun r7 n7 I7 J7 R7 hp7 => ?_)
    obtain ⟨⟨rfl, rfl, hK7, hX7, rfl, t7, hR⟩, hwI7⟩ := hp7
    have hmI7 : q_rel I lb I7 := q_cg (fun k j hk => hK7 k j (fun z => hk (x_wa z))) hX7 hmI6
    have hfI7 : ∀ (k : Nat) (j : Int), ¬ x_a k j → I7 k j = M k j := fun k j hk => (hK7 k j (fun z => hk (x_wa z))).trans (hfI6 k j hk)
    refine g_isub hc dX13_worthOf_29 ?_
    refine g_iret hc hm dX13_worthOf_30 ?_
    exact x_end (by rw [g_lkd, if_pos (by omega)]) hfI7 hmI7.g hR
abbrev q_t3 (I : g_I) : Prop := ¬ I 550 0 = 2 ∧ (¬ I 550 0 = 0 ∨ I 550 1 = -1)
abbrev q_gc (I : g_I) (lb : Nat) (f i : Int) : Int × Int := g_chs (fun r => g_rnk I lb f r (g_bc (I 550 (4 + f)))) (I 550 (4 + f)) i.toNat
/-- the best so far and its number; a number at i -/
def q_ch (I : g_I) (lb : Nat) (f i a p : Int) : Prop := a = (q_gc I lb f i).1 ∧ (¬ a = -1 → (q_t3 I → p = -a ∧ 0 ≤ a ∧ a < i ∧ (q_gc I lb f i).2 = 0) ∧ (¬ q_t3 I → p = (q_gc I lb f i).2))
def q_vr (I : g_I) (lb : Nat) (f i v : Int) : Prop := (q_t3 I → v = -i) ∧ (¬ q_t3 I → v = g_rnk I lb f i (g_bc (I 550 (4 + f)))) ∧ -1000300 ≤ v ∧ v ≤ 1000300
theorem q_r3 {I : g_I} {lb : Nat} {f i o : Int} (h : q_t3 I) : g_rnk I lb f i o = 0 := by
  unfold g_rnk
  rw [if_neg h.1, if_pos h.2]
section QCH
variable {I : g_I} {lb : Nat} {f i a p v : Int}
theorem q_ch.skip (h : q_ch I lb f i a p) (h0 : 0 ≤ i) (hno : ¬ g_bit (I 550 (4 + f)) i) : q_ch I lb f (i + 1) a p := by
  have e : q_gc I lb f (i + 1) = q_gc I lb f i := by unfold q_gc; rw [g_chs_i h0, if_neg hno]
  obtain ⟨h1, h2⟩ := h
  refine ⟨by rw [e]; exact h1, fun z => ?_⟩
  obtain ⟨h3, h4⟩ := h2 z
  rw [e]
  exact ⟨fun y => ⟨(h3 y).1, (h3 y).2.1, by have := (h3 y).2.2.1; omega, (h3 y).2.2.2⟩, h4⟩
theorem q_ch.keep (h : q_ch I lb f i a p) (h0 : 0 ≤ i) (hop : g_bit (I 550 (4 + f)) i) (hv : q_vr I lb f i v) (hne : ¬ a = -1) (hle : v ≤ p) : q_ch I lb f (i + 1) a p := by
  obtain ⟨h1, h2⟩ := h
  obtain ⟨h3, h4⟩ := h2 hne
  have e : q_gc I lb f (i + 1) = q_gc I lb f i := by
    have hn : ¬ ((q_gc I lb f i).1 = -1 ∨ (q_gc I lb f i).2 < g_rnk I lb f i (g_bc (I 550 (4 + f)))) := by
      rintro (z | z)
      · omega
      · by_cases y : q_t3 I
        · rw [q_r3 y, (h3 y).2.2.2] at z; omega
        · rw [← h4 y, ← hv.2.1 y] at z; omega
    show g_chs _ _ (i + 1).toNat = _
    rw [g_chs_i h0, if_pos hop, if_neg hn]
  refine ⟨by rw [e]; exact h1, fun z => ?_⟩
  rw [e]
  exact ⟨fun y => ⟨(h3 y).1, (h3 y).2.1, by have := (h3 y).2.2.1; omega, (h3 y).2.2.2⟩, h4⟩
theorem q_ch.take (h : q_ch I lb f i a p) (h0 : 0 ≤ i) (hop : g_bit (I 550 (4 + f)) i) (hv : q_vr I lb f i v) (hx : a = -1 ∨ p < v) : q_ch I lb f (i + 1) i v := by
  obtain ⟨h1, h2⟩ := h
  have hn : (q_gc I lb f i).1 = -1 ∨ (q_gc I lb f i).2 < g_rnk I lb f i (g_bc (I 550 (4 + f))) := by
    by_cases z : a = -1
    · exact Or.inl (by omega)
    · obtain ⟨h3, h4⟩ := h2 z
      by_cases y : q_t3 I
      · have := h3 y; have := hv.1 y; omega
      · refine Or.inr ?_
        rw [← h4 y, ← hv.2.1 y]; omega
  have e : q_gc I lb f (i + 1) = (i, g_rnk I lb f i (g_bc (I 550 (4 + f)))) := by
    show g_chs _ _ (i + 1).toNat = _
    rw [g_chs_i h0, if_pos hop, if_pos hn]
  refine ⟨by rw [e], fun z => ⟨fun y => ⟨hv.1 y, h0, by omega, by rw [e]; exact q_r3 y⟩, fun y => by rw [e]; exact hv.2.1 y⟩⟩
end QCH
set_option maxHeartbeats 4000000 in
set_option maxRecDepth 100000 in
/-- X13_choice -/
theorem c_X13_choice (w : g_W) {I : g_I} {J : g_J} {R : g_R} {lb tx : Nat} (hR : g_rf w R lb tx) {M : g_I} (hmM : q_rel I lb M) {f : Int} (h1 : 0 ≤ f ∧ f < I lb 1) : g_Met w g_n M J R yX13_choice cX13_choice 6 (some .int) 36 0 0 [(gvr w 703), (gvI f)] (x_rel w (some (gvI (g_cho I lb f (I 550 (4 + f))))) x_t M J lb) := by
  refine g_intro (own := RX13) [some (gvr w 703), some (gvI f), none, none, none, none] (by decide +kernel) rfl (by decide) (Nat.le_of_ble_eq_true rfl) rfl (fun i v hv => g_args 4 i v hv rfl) (fun x hc hm => ?_)
  have hfM : ∀ (k : Nat) (j : Int), ¬ x_t k j → M k j = M k j := fun _ _ _ => rfl
  have hI := hmM.gi
  have hTb := q_b1 hmM
  have hLv := hmM.lv
  have hC := hmM.cin
  have hL := hC.1
  obtain ⟨hn0, hn1, hLs, hLf⟩ := id hL
  obtain ⟨-, hC1, hC2, hC3, hC4, hC5, hC6, hC7⟩ := id hC
  have hTs := q_ts hmM (by omega)
  obtain ⟨hk2, hk1, hy, hit⟩ := hLf f h1.1 h1.2
  have hbc9 := g_bc_in (a := I 550 (4 + f))
  refine g_iconst hc dX13_choice_0 ?_
  refine g_istore_2 hc dX13_choice_1 rfl ?_
  refine g_iconst hc dX13_choice_2 ?_
  refine g_istore_3 hc dX13_choice_3 rfl ?_
  refine g_iconst hc dX13_choice_4 ?_
  refine g_istore_4 hc dX13_choice_5 rfl ?_
  have lp_7 : ∀ (fu : Nat) (a p i : Int) (Mm : g_I) (Rm : g_R), 0 ≤ i ∧ i ≤ I (lb + 43) f → q_ch I lb f i a p → (-1 ≤ a ∧ a < 4) ∧ -1000300 ≤ p ∧ p ≤ 1000300 → (∃ tm, g_rf w Rm lb tm) → q_rel I lb Mm → (∀ (k : Nat) (j : Int), ¬ x_t k j → Mm k j = M k j) → I (lb + 43) f - i < (fu : Int) → G w x (x_rel w (some (gvI (g_cho I lb f (I 550 (4 + f))))) x_t M J lb) 0 0 g_n Mm J Rm 7 [some (gvr w 703), some (gvI f), some (gvI a), some (gvI p), some (gvI i), none] [] := by
    intro fu
    induction fu with
    | zero => intro a p i Mm Rm h3 hch h5 hR hmMm hfMm hfu; exfalso; omega
    | succ fu ih =>
      intro a p i Mm Rm h3 hch h5 hR hmMm hfMm hfu
      obtain ⟨tm, hR⟩ := hR
      have ih_7 := ih
      refine g_iload hc dX13_choice_7 rfl ?_
      refine g_aldn hc dX13_choice_9 rfl ?_
      refine g_getRk hc lk_X13_40 ca_703 (rc_703_19 hR) dX13_choice_10 ?_
      refine g_aldn hc dX13_choice_13 rfl ?_
      refine g_aldn hc dX13_choice_14 rfl ?_
      refine g_getIe hc lk_X13_52 ca_703 24 rfl (show Mm 703 24 = I 0 12 from hmMm.tab) dX13_choice_15 ?_
      refine g_iload_n hc dX13_choice_18 rfl ?_
      refine g_V2r hc (c_X13_forkAt w) my_X13_forkAt mv_X13_forkAt ca_703 rfl rfl lm_X13_249 rfl (by decide) (Nat.le_of_ble_eq_true rfl) hm dX13_choice_19 ?_
      refine g_iconst hc dX13_choice_22 ?_
      refine g_iadd hc dX13_choice_23 ?_
      refine g_ialde hc ca_709 (by decide) (by omega) (by omega) (show Mm 709 ((((I 0 12) * 18 + f) * 5) + 2) = I (lb + 43) f from q_bm hmMm (by omega)) dX13_choice_24 ?_
      refine g_icmp_ge (tgt := 120) hc dX13_choice_25 (by decide) (by first | exact hI _ _ | exact hxI2 _ _ | exact hIa _ _ | exact hIb _ _ | exact g_b32 | exact g_and32 | assumption | exact ⟨by omega, by omega⟩) (by first | exact hI _ _ | exact hxI2 _ _ | exact hIa _ _ | exact hIb _ _ | exact g_b32 | exact g_and32 | assumption | exact ⟨by omega, by omega⟩) (fun c1 => ?_) (fun c1 => ?_)
      · skip
        refine g_iload_n hc dX13_choice_120 rfl ?_
        refine g_iret hc hm dX13_choice_121 ?_
        exact x_end (by rw [hch.1]; show (q_gc I lb f i).1 = _; rw [show i = I (lb + 43) f by omega]; rfl) hfMm hmMm.g hR
      · skip
        refine g_aldn hc dX13_choice_28 rfl ?_
        refine g_getRk hc lk_X13_56 ca_703 (rc_703_25 hR) dX13_choice_29 ?_
        refine g_iconst hc dX13_choice_32 ?_
        refine g_iload_n hc dX13_choice_33 rfl ?_
        refine g_imul hc dX13_choice_34 ?_
        refine g_iload hc dX13_choice_35 rfl ?_
        refine g_iadd hc dX13_choice_37 ?_
        refine g_zalde hc ca_713 (by decide) (by omega) (by omega) (show Mm 713 ((4 * f) + i) = g_b (g_bit (I 550 (4 + f)) i) from hmMm.opn (by omega) (by omega)) dX13_choice_38 ?_
        refine g_ifb_ne (tgt := 45) hc dX13_choice_39 (by decide)  (fun c2 => ?_) (fun c2 => ?_)
        · skip
          have hop := c2
          refine g_aldn hc dX13_choice_45 rfl ?_
          refine g_getRk hc lk_X13_60 ca_703 (rc_703_26 hR) dX13_choice_46 ?_
          refine g_iconst hc dX13_choice_49 ?_
          refine g_ialde hc ca_714 (by decide) (by omega) (by omega) (show Mm 714 0 = I 550 0 from hmMm.told (by omega)) dX13_choice_50 ?_
          refine g_iconst hc dX13_choice_51 ?_
          refine g_icmp_ne (tgt := 60) hc dX13_choice_52 (by decide) (by first | exact hI _ _ | exact hxI2 _ _ | exact hIa _ _ | exact hIb _ _ | exact g_b32 | exact g_and32 | assumption | exact ⟨by omega, by omega⟩) (by first | exact hI _ _ | exact hxI2 _ _ | exact hIa _ _ | exact hIb _ _ | exact g_b32 | exact g_and32 | assumption | exact ⟨by omega, by omega⟩) (fun c3 => ?_) (fun c3 => ?_)
          · skip
            refine g_aldn hc dX13_choice_60 rfl ?_
            refine g_getRk hc lk_X13_60 ca_703 (rc_703_26 hR) dX13_choice_61 ?_
            refine g_iconst hc dX13_choice_64 ?_
            refine g_ialde hc ca_714 (by decide) (by omega) (by omega) (show Mm 714 0 = I 550 0 from hmMm.told (by omega)) dX13_choice_65 ?_
            refine g_if_ne (tgt := 89) hc dX13_choice_66 (by decide) (by first | exact hI _ _ | exact hxI2 _ _ | exact hIa _ _ | exact hIb _ _ | exact g_b32 | exact g_and32 | assumption | exact ⟨by omega, by omega⟩) (fun c4 => ?_) (fun c4 => ?_)
            · skip
              refine g_iload hc dX13_choice_89 rfl ?_
              refine g_ineg hc dX13_choice_91 ?_
              refine g_istore_5 hc dX13_choice_92 rfl ?_
              have lp_94 : ∀ (fu : Nat) (v : Int) (Mm : g_I) (Rm : g_R), q_vr I lb f i v → (∃ tm, g_rf w Rm lb tm) → q_rel I lb Mm → (∀ (k : Nat) (j : Int), ¬ x_t k j → Mm k j = M k j) → (0 : Int) < (fu : Int) → G w x (x_rel w (some (gvI (g_cho I lb f (I 550 (4 + f))))) x_t M J lb) 0 0 g_n Mm J Rm 94 [some (gvr w 703), some (gvI f), some (gvI a), some (gvI p), some (gvI i), some (gvI v)] [] := by
                intro fu
                induction fu with
                | zero => intro v Mm Rm hvr hR hmMm hfMm hfu; exfalso; omega
                | succ fu ih =>
                  intro v Mm Rm hvr hR hmMm hfMm hfu
                  obtain ⟨tm, hR⟩ := hR
                  obtain ⟨-, -, hv1, hv2⟩ := id hvr
                  have ih_94 := ih
                  refine g_iload_n hc dX13_choice_94 rfl ?_
                  refine g_iconst hc dX13_choice_95 ?_
                  refine g_icmp_eq (tgt := 108) hc dX13_choice_96 (by decide) (by first | exact hI _ _ | exact hxI2 _ _ | exact hIa _ _ | exact hIb _ _ | exact g_b32 | exact g_and32 | assumption | exact ⟨by omega, by omega⟩) (by first | exact hI _ _ | exact hxI2 _ _ | exact hIa _ _ | exact hIb _ _ | exact g_b32 | exact g_and32 | assumption | exact ⟨by omega, by omega⟩) (fun c5 => ?_) (fun c5 => ?_)
                  · skip
                    refine g_iload hc dX13_choice_108 rfl ?_
                    refine g_istore_2 hc dX13_choice_110 rfl ?_
                    refine g_iload hc dX13_choice_111 rfl ?_
                    refine g_istore_3 hc dX13_choice_113 rfl ?_
                    refine g_iinc_4 hc dX13_choice_114 rfl ?_
                    refine g_goto (tgt := 7) hc dX13_choice_117 (by decide) ?_
                    refine G_sub (L' := [some (gvr w 703), some (gvI f), some (gvI i), some (gvI v), some (gvI (i + 1)), none]) (show g_le _ _ from ⟨rfl, ⟨rfl, ⟨rfl, ⟨rfl, ⟨rfl, trivial⟩⟩⟩⟩⟩) ?_
                    refine ih_7 _ _ _ _ _ ?_ ?_ ?_ ?_ ?_ ?_ ?_
                    · omega
                    · exact hch.take h3.1 hop hvr (by omega)
                    · omega
                    · exact ⟨_, hR⟩
                    · exact hmMm
                    · exact hfMm
                    · omega
                  · skip
                    refine g_iload hc dX13_choice_99 rfl ?_
                    refine g_iload_n hc dX13_choice_101 rfl ?_
                    refine g_icmp_gt (tgt := 108) hc dX13_choice_102 (by decide) (by first | exact hI _ _ | exact hxI2 _ _ | exact hIa _ _ | exact hIb _ _ | exact g_b32 | exact g_and32 | assumption | exact ⟨by omega, by omega⟩) (by first | exact hI _ _ | exact hxI2 _ _ | exact hIa _ _ | exact hIb _ _ | exact g_b32 | exact g_and32 | assumption | exact ⟨by omega, by omega⟩) (fun c6 => ?_) (fun c6 => ?_)
                    · skip
                      refine g_iload hc dX13_choice_108 rfl ?_
                      refine g_istore_2 hc dX13_choice_110 rfl ?_
                      refine g_iload hc dX13_choice_111 rfl ?_
                      refine g_istore_3 hc dX13_choice_113 rfl ?_
                      refine g_iinc_4 hc dX13_choice_114 rfl ?_
                      refine g_goto (tgt := 7) hc dX13_choice_117 (by decide) ?_
                      refine G_sub (L' := [some (gvr w 703), some (gvI f), some (gvI i), some (gvI v), some (gvI (i + 1)), none]) (show g_le _ _ from ⟨rfl, ⟨rfl, ⟨rfl, ⟨rfl, ⟨rfl, trivial⟩⟩⟩⟩⟩) ?_
                      refine ih_7 _ _ _ _ _ ?_ ?_ ?_ ?_ ?_ ?_ ?_
                      · omega
                      · exact hch.take h3.1 hop hvr (by omega)
                      · omega
                      · exact ⟨_, hR⟩
                      · exact hmMm
                      · exact hfMm
                      · omega
                    · skip
                      refine g_goto (tgt := 114) hc dX13_choice_105 (by decide) ?_
                      refine g_iinc_4 hc dX13_choice_114 rfl ?_
                      refine g_goto (tgt := 7) hc dX13_choice_117 (by decide) ?_
                      refine G_sub (L' := [some (gvr w 703), some (gvI f), some (gvI a), some (gvI p), some (gvI (i + 1)), none]) (show g_le _ _ from ⟨rfl, ⟨rfl, ⟨rfl, ⟨rfl, ⟨rfl, trivial⟩⟩⟩⟩⟩) ?_
                      refine ih_7 _ _ _ _ _ ?_ ?_ ?_ ?_ ?_ ?_ ?_
                      · omega
                      · exact hch.keep h3.1 hop hvr (by omega) (by omega)
                      · omega
                      · exact ⟨_, hR⟩
                      · exact hmMm
                      · exact hfMm
                      · omega
              refine lp_94 1 _ _ _ ?_ ?_ ?_ ?_ (?_)
              · exact ⟨fun z => rfl, fun z => absurd ⟨by omega, by omega⟩ z, by omega, by omega⟩
              · exact ⟨_, hR⟩
              · exact hmMm
              · exact hfMm
              · omega
            · skip
              refine g_aldn hc dX13_choice_69 rfl ?_
              refine g_getRk hc lk_X13_60 ca_703 (rc_703_26 hR) dX13_choice_70 ?_
              refine g_iconst hc dX13_choice_73 ?_
              refine g_ialde hc ca_714 (by decide) (by omega) (by omega) (show Mm 714 1 = I 550 1 from hmMm.told (by omega)) dX13_choice_74 ?_
              refine g_iconst hc dX13_choice_75 ?_
              refine g_icmp_eq (tgt := 89) hc dX13_choice_76 (by decide) (by first | exact hI _ _ | exact hxI2 _ _ | exact hIa _ _ | exact hIb _ _ | exact g_b32 | exact g_and32 | assumption | exact ⟨by omega, by omega⟩) (by first | exact hI _ _ | exact hxI2 _ _ | exact hIa _ _ | exact hIb _ _ | exact g_b32 | exact g_and32 | assumption | exact ⟨by omega, by omega⟩) (fun c7 => ?_) (fun c7 => ?_)
              · skip
                refine g_iload hc dX13_choice_89 rfl ?_
                refine g_ineg hc dX13_choice_91 ?_
                refine g_istore_5 hc dX13_choice_92 rfl ?_
                have lp_94 : ∀ (fu : Nat) (v : Int) (Mm : g_I) (Rm : g_R), q_vr I lb f i v → (∃ tm, g_rf w Rm lb tm) → q_rel I lb Mm → (∀ (k : Nat) (j : Int), ¬ x_t k j → Mm k j = M k j) → (0 : Int) < (fu : Int) → G w x (x_rel w (some (gvI (g_cho I lb f (I 550 (4 + f))))) x_t M J lb) 0 0 g_n Mm J Rm 94 [some (gvr w 703), some (gvI f), some (gvI a), some (gvI p), some (gvI i), some (gvI v)] [] := by
                  intro fu
                  induction fu with
                  | zero => intro v Mm Rm hvr hR hmMm hfMm hfu; exfalso; omega
                  | succ fu ih =>
                    intro v Mm Rm hvr hR hmMm hfMm hfu
                    obtain ⟨tm, hR⟩ := hR
                    obtain ⟨-, -, hv1, hv2⟩ := id hvr
                    have ih_94 := ih
                    refine g_iload_n hc dX13_choice_94 rfl ?_
                    refine g_iconst hc dX13_choice_95 ?_
                    refine g_icmp_eq (tgt := 108) hc dX13_choice_96 (by decide) (by first | exact hI _ _ | exact hxI2 _ _ | exact hIa _ _ | exact hIb _ _ | exact g_b32 | exact g_and32 | assumption | exact ⟨by omega, by omega⟩) (by first | exact hI _ _ | exact hxI2 _ _ | exact hIa _ _ | exact hIb _ _ | exact g_b32 | exact g_and32 | assumption | exact ⟨by omega, by omega⟩) (fun c8 => ?_) (fun c8 => ?_)
                    · skip
                      refine g_iload hc dX13_choice_108 rfl ?_
                      refine g_istore_2 hc dX13_choice_110 rfl ?_
                      refine g_iload hc dX13_choice_111 rfl ?_
                      refine g_istore_3 hc dX13_choice_113 rfl ?_
                      refine g_iinc_4 hc dX13_choice_114 rfl ?_
                      refine g_goto (tgt := 7) hc dX13_choice_117 (by decide) ?_
                      refine G_sub (L' := [some (gvr w 703), some (gvI f), some (gvI i), some (gvI v), some (gvI (i + 1)), none]) (show g_le _ _ from ⟨rfl, ⟨rfl, ⟨rfl, ⟨rfl, ⟨rfl, trivial⟩⟩⟩⟩⟩) ?_
                      refine ih_7 _ _ _ _ _ ?_ ?_ ?_ ?_ ?_ ?_ ?_
                      · omega
                      · exact hch.take h3.1 hop hvr (by omega)
                      · omega
                      · exact ⟨_, hR⟩
                      · exact hmMm
                      · exact hfMm
                      · omega
                    · skip
                      refine g_iload hc dX13_choice_99 rfl ?_
                      refine g_iload_n hc dX13_choice_101 rfl ?_
                      refine g_icmp_gt (tgt := 108) hc dX13_choice_102 (by decide) (by first | exact hI _ _ | exact hxI2 _ _ | exact hIa _ _ | exact hIb _ _ | exact g_b32 | exact g_and32 | assumption | exact ⟨by omega, by omega⟩) (by first | exact hI _ _ | exact hxI2 _ _ | exact hIa _ _ | exact hIb _ _ | exact g_b32 | exact g_and32 | assumption | exact ⟨by omega, by omega⟩) (fun c9 => ?_) (fun c9 => ?_)
                      · skip
                        refine g_iload hc dX13_choice_108 rfl ?_
                        refine g_istore_2 hc dX13_choice_110 rfl ?_
                        refine g_iload hc dX13_choice_111 rfl ?_
                        refine g_istore_3 hc dX13_choice_113 rfl ?_
                        refine g_iinc_4 hc dX13_choice_114 rfl ?_
                        refine g_goto (tgt := 7) hc dX13_choice_117 (by decide) ?_
                        refine G_sub (L' := [some (gvr w 703), some (gvI f), some (gvI i), some (gvI v), some (gvI (i + 1)), none]) (show g_le _ _ from ⟨rfl, ⟨rfl, ⟨rfl, ⟨rfl, ⟨rfl, trivial⟩⟩⟩⟩⟩) ?_
                        refine ih_7 _ _ _ _ _ ?_ ?_ ?_ ?_ ?_ ?_ ?_
                        · omega
                        · exact hch.take h3.1 hop hvr (by omega)
                        · omega
                        · exact ⟨_, hR⟩
                        · exact hmMm
                        · exact hfMm
                        · omega
                      · skip
                        refine g_goto (tgt := 114) hc dX13_choice_105 (by decide) ?_
                        refine g_iinc_4 hc dX13_choice_114 rfl ?_
                        refine g_goto (tgt := 7) hc dX13_choice_117 (by decide) ?_
                        refine G_sub (L' := [some (gvr w 703), some (gvI f), some (gvI a), some (gvI p), some (gvI (i + 1)), none]) (show g_le _ _ from ⟨rfl, ⟨rfl, ⟨rfl, ⟨rfl, ⟨rfl, trivial⟩⟩⟩⟩⟩) ?_
                        refine ih_7 _ _ _ _ _ ?_ ?_ ?_ ?_ ?_ ?_ ?_
                        · omega
                        · exact hch.keep h3.1 hop hvr (by omega) (by omega)
                        · omega
                        · exact ⟨_, hR⟩
                        · exact hmMm
                        · exact hfMm
                        · omega
                refine lp_94 1 _ _ _ ?_ ?_ ?_ ?_ (?_)
                · exact ⟨fun z => rfl, fun z => absurd ⟨by omega, by omega⟩ z, by omega, by omega⟩
                · exact ⟨_, hR⟩
                · exact hmMm
                · exact hfMm
                · omega
              · skip
                refine g_aldn hc dX13_choice_79 rfl ?_
                refine g_iload_n hc dX13_choice_80 rfl ?_
                refine g_iload hc dX13_choice_81 rfl ?_
                refine g_V2 hc (c_X13_ruleOf w hR hmMm (by omega) (by omega) (by omega)) my_X13_ruleOf mv_X13_ruleOf ca_703 rfl rfl lm_X13_353 rfl (by decide) (Nat.le_of_ble_eq_true rfl) hm dX13_choice_83 (fun r3 n3 I3 J3 R3 hp3 => ?_)
                obtain ⟨rfl, rfl, hK3, hX3, rfl, t3, hR⟩ := hp3
                have hmI3 : q_rel I lb I3 := q_cg (fun k j hk => hK3 k j (fun z => hk (x_ta z))) hX3 hmMm
                have hfI3 : ∀ (k : Nat) (j : Int), ¬ x_t k j → I3 k j = M k j := fun k j hk => (hK3 k j hk).trans (hfMm k j hk)
                refine g_goto (tgt := 92) hc dX13_choice_86 (by decide) ?_
                refine g_istore_5 hc dX13_choice_92 rfl ?_
                have lp_94 : ∀ (fu : Nat) (v : Int) (Mm : g_I) (Rm : g_R), q_vr I lb f i v → (∃ tm, g_rf w Rm lb tm) → q_rel I lb Mm → (∀ (k : Nat) (j : Int), ¬ x_t k j → Mm k j = M k j) → (0 : Int) < (fu : Int) → G w x (x_rel w (some (gvI (g_cho I lb f (I 550 (4 + f))))) x_t M J lb) 0 0 g_n Mm J Rm 94 [some (gvr w 703), some (gvI f), some (gvI a), some (gvI p), some (gvI i), some (gvI v)] [] := by
                  intro fu
                  induction fu with
                  | zero => intro v Mm Rm hvr hR hmMm hfMm hfu; exfalso; omega
                  | succ fu ih =>
                    intro v Mm Rm hvr hR hmMm hfMm hfu
                    obtain ⟨tm, hR⟩ := hR
                    obtain ⟨-, -, hv1, hv2⟩ := id hvr
                    have ih_94 := ih
                    refine g_iload_n hc dX13_choice_94 rfl ?_
                    refine g_iconst hc dX13_choice_95 ?_
                    refine g_icmp_eq (tgt := 108) hc dX13_choice_96 (by decide) (by first | exact hI _ _ | exact hxI2 _ _ | exact hIa _ _ | exact hIb _ _ | exact g_b32 | exact g_and32 | assumption | exact ⟨by omega, by omega⟩) (by first | exact hI _ _ | exact hxI2 _ _ | exact hIa _ _ | exact hIb _ _ | exact g_b32 | exact g_and32 | assumption | exact ⟨by omega, by omega⟩) (fun c10 => ?_) (fun c10 => ?_)
                    · skip
                      refine g_iload hc dX13_choice_108 rfl ?_
                      refine g_istore_2 hc dX13_choice_110 rfl ?_
                      refine g_iload hc dX13_choice_111 rfl ?_
                      refine g_istore_3 hc dX13_choice_113 rfl ?_
                      refine g_iinc_4 hc dX13_choice_114 rfl ?_
                      refine g_goto (tgt := 7) hc dX13_choice_117 (by decide) ?_
                      refine G_sub (L' := [some (gvr w 703), some (gvI f), some (gvI i), some (gvI v), some (gvI (i + 1)), none]) (show g_le _ _ from ⟨rfl, ⟨rfl, ⟨rfl, ⟨rfl, ⟨rfl, trivial⟩⟩⟩⟩⟩) ?_
                      refine ih_7 _ _ _ _ _ ?_ ?_ ?_ ?_ ?_ ?_ ?_
                      · omega
                      · exact hch.take h3.1 hop hvr (by omega)
                      · omega
                      · exact ⟨_, hR⟩
                      · exact hmMm
                      · exact hfMm
                      · omega
                    · skip
                      refine g_iload hc dX13_choice_99 rfl ?_
                      refine g_iload_n hc dX13_choice_101 rfl ?_
                      refine g_icmp_gt (tgt := 108) hc dX13_choice_102 (by decide) (by first | exact hI _ _ | exact hxI2 _ _ | exact hIa _ _ | exact hIb _ _ | exact g_b32 | exact g_and32 | assumption | exact ⟨by omega, by omega⟩) (by first | exact hI _ _ | exact hxI2 _ _ | exact hIa _ _ | exact hIb _ _ | exact g_b32 | exact g_and32 | assumption | exact ⟨by omega, by omega⟩) (fun c11 => ?_) (fun c11 => ?_)
                      · skip
                        refine g_iload hc dX13_choice_108 rfl ?_
                        refine g_istore_2 hc dX13_choice_110 rfl ?_
                        refine g_iload hc dX13_choice_111 rfl ?_
                        refine g_istore_3 hc dX13_choice_113 rfl ?_
                        refine g_iinc_4 hc dX13_choice_114 rfl ?_
                        refine g_goto (tgt := 7) hc dX13_choice_117 (by decide) ?_
                        refine G_sub (L' := [some (gvr w 703), some (gvI f), some (gvI i), some (gvI v), some (gvI (i + 1)), none]) (show g_le _ _ from ⟨rfl, ⟨rfl, ⟨rfl, ⟨rfl, ⟨rfl, trivial⟩⟩⟩⟩⟩) ?_
                        refine ih_7 _ _ _ _ _ ?_ ?_ ?_ ?_ ?_ ?_ ?_
                        · omega
                        · exact hch.take h3.1 hop hvr (by omega)
                        · omega
                        · exact ⟨_, hR⟩
                        · exact hmMm
                        · exact hfMm
                        · omega
                      · skip
                        refine g_goto (tgt := 114) hc dX13_choice_105 (by decide) ?_
                        refine g_iinc_4 hc dX13_choice_114 rfl ?_
                        refine g_goto (tgt := 7) hc dX13_choice_117 (by decide) ?_
                        refine G_sub (L' := [some (gvr w 703), some (gvI f), some (gvI a), some (gvI p), some (gvI (i + 1)), none]) (show g_le _ _ from ⟨rfl, ⟨rfl, ⟨rfl, ⟨rfl, ⟨rfl, trivial⟩⟩⟩⟩⟩) ?_
                        refine ih_7 _ _ _ _ _ ?_ ?_ ?_ ?_ ?_ ?_ ?_
                        · omega
                        · exact hch.keep h3.1 hop hvr (by omega) (by omega)
                        · omega
                        · exact ⟨_, hR⟩
                        · exact hmMm
                        · exact hfMm
                        · omega
                refine lp_94 1 _ _ _ ?_ ?_ ?_ ?_ (?_)
                · have hb9 := g_tw_in (hC2 (I 550 1) (by omega) (by omega)) (g_lt8_in hL (f := f) (r := i) (o := g_bc (I 550 (4 + f))) h1 ⟨by omega, by omega⟩ (by omega))
                  exact ⟨fun z => absurd z.2 (by omega), fun z => by rw [g_rnk, if_neg (by omega), if_neg (by omega)], hb9.1, hb9.2⟩
                · exact ⟨_, hR⟩
                · exact hmI3
                · exact hfI3
                · omega
          · skip
            refine g_iload hc dX13_choice_55 rfl ?_
            refine g_goto (tgt := 92) hc dX13_choice_57 (by decide) ?_
            refine g_istore_5 hc dX13_choice_92 rfl ?_
            have lp_94 : ∀ (fu : Nat) (v : Int) (Mm : g_I) (Rm : g_R), q_vr I lb f i v → (∃ tm, g_rf w Rm lb tm) → q_rel I lb Mm → (∀ (k : Nat) (j : Int), ¬ x_t k j → Mm k j = M k j) → (0 : Int) < (fu : Int) → G w x (x_rel w (some (gvI (g_cho I lb f (I 550 (4 + f))))) x_t M J lb) 0 0 g_n Mm J Rm 94 [some (gvr w 703), some (gvI f), some (gvI a), some (gvI p), some (gvI i), some (gvI v)] [] := by
              intro fu
              induction fu with
              | zero => intro v Mm Rm hvr hR hmMm hfMm hfu; exfalso; omega
              | succ fu ih =>
                intro v Mm Rm hvr hR hmMm hfMm hfu
                obtain ⟨tm, hR⟩ := hR
                obtain ⟨-, -, hv1, hv2⟩ := id hvr
                have ih_94 := ih
                refine g_iload_n hc dX13_choice_94 rfl ?_
                refine g_iconst hc dX13_choice_95 ?_
                refine g_icmp_eq (tgt := 108) hc dX13_choice_96 (by decide) (by first | exact hI _ _ | exact hxI2 _ _ | exact hIa _ _ | exact hIb _ _ | exact g_b32 | exact g_and32 | assumption | exact ⟨by omega, by omega⟩) (by first | exact hI _ _ | exact hxI2 _ _ | exact hIa _ _ | exact hIb _ _ | exact g_b32 | exact g_and32 | assumption | exact ⟨by omega, by omega⟩) (fun c12 => ?_) (fun c12 => ?_)
                · skip
                  refine g_iload hc dX13_choice_108 rfl ?_
                  refine g_istore_2 hc dX13_choice_110 rfl ?_
                  refine g_iload hc dX13_choice_111 rfl ?_
                  refine g_istore_3 hc dX13_choice_113 rfl ?_
                  refine g_iinc_4 hc dX13_choice_114 rfl ?_
                  refine g_goto (tgt := 7) hc dX13_choice_117 (by decide) ?_
                  refine G_sub (L' := [some (gvr w 703), some (gvI f), some (gvI i), some (gvI v), some (gvI (i + 1)), none]) (show g_le _ _ from ⟨rfl, ⟨rfl, ⟨rfl, ⟨rfl, ⟨rfl, trivial⟩⟩⟩⟩⟩) ?_
                  refine ih_7 _ _ _ _ _ ?_ ?_ ?_ ?_ ?_ ?_ ?_
                  · omega
                  · exact hch.take h3.1 hop hvr (by omega)
                  · omega
                  · exact ⟨_, hR⟩
                  · exact hmMm
                  · exact hfMm
                  · omega
                · skip
                  refine g_iload hc dX13_choice_99 rfl ?_
                  refine g_iload_n hc dX13_choice_101 rfl ?_
                  refine g_icmp_gt (tgt := 108) hc dX13_choice_102 (by decide) (by first | exact hI _ _ | exact hxI2 _ _ | exact hIa _ _ | exact hIb _ _ | exact g_b32 | exact g_and32 | assumption | exact ⟨by omega, by omega⟩) (by first | exact hI _ _ | exact hxI2 _ _ | exact hIa _ _ | exact hIb _ _ | exact g_b32 | exact g_and32 | assumption | exact ⟨by omega, by omega⟩) (fun c13 => ?_) (fun c13 => ?_)
                  · skip
                    refine g_iload hc dX13_choice_108 rfl ?_
                    refine g_istore_2 hc dX13_choice_110 rfl ?_
                    refine g_iload hc dX13_choice_111 rfl ?_
                    refine g_istore_3 hc dX13_choice_113 rfl ?_
                    refine g_iinc_4 hc dX13_choice_114 rfl ?_
                    refine g_goto (tgt := 7) hc dX13_choice_117 (by decide) ?_
                    refine G_sub (L' := [some (gvr w 703), some (gvI f), some (gvI i), some (gvI v), some (gvI (i + 1)), none]) (show g_le _ _ from ⟨rfl, ⟨rfl, ⟨rfl, ⟨rfl, ⟨rfl, trivial⟩⟩⟩⟩⟩) ?_
                    refine ih_7 _ _ _ _ _ ?_ ?_ ?_ ?_ ?_ ?_ ?_
                    · omega
                    · exact hch.take h3.1 hop hvr (by omega)
                    · omega
                    · exact ⟨_, hR⟩
                    · exact hmMm
                    · exact hfMm
                    · omega
                  · skip
                    refine g_goto (tgt := 114) hc dX13_choice_105 (by decide) ?_
                    refine g_iinc_4 hc dX13_choice_114 rfl ?_
                    refine g_goto (tgt := 7) hc dX13_choice_117 (by decide) ?_
                    refine G_sub (L' := [some (gvr w 703), some (gvI f), some (gvI a), some (gvI p), some (gvI (i + 1)), none]) (show g_le _ _ from ⟨rfl, ⟨rfl, ⟨rfl, ⟨rfl, ⟨rfl, trivial⟩⟩⟩⟩⟩) ?_
                    refine ih_7 _ _ _ _ _ ?_ ?_ ?_ ?_ ?_ ?_ ?_
                    · omega
                    · exact hch.keep h3.1 hop hvr (by omega) (by omega)
                    · omega
                    · exact ⟨_, hR⟩
                    · exact hmMm
                    · exact hfMm
                    · omega
            refine lp_94 1 _ _ _ ?_ ?_ ?_ ?_ (?_)
            · exact ⟨fun z => absurd (by omega) z.1, fun z => by rw [g_rnk, if_pos (by omega)], by omega, by omega⟩
            · exact ⟨_, hR⟩
            · exact hmMm
            · exact hfMm
            · omega
        · skip
          have hno := c2
          refine g_goto (tgt := 114) hc dX13_choice_42 (by decide) ?_
          refine g_iinc_4 hc dX13_choice_114 rfl ?_
          refine g_goto (tgt := 7) hc dX13_choice_117 (by decide) ?_
          refine ih_7 _ _ _ _ _ ?_ ?_ ?_ ?_ ?_ ?_ ?_
          · omega
          · exact hch.skip h3.1 hno
          · omega
          · exact ⟨_, hR⟩
          · exact hmMm
          · exact hfMm
          · omega
  refine lp_7 5 _ _ _ _ _ ?_ ?_ ?_ ?_ ?_ ?_ (?_)
  · omega
  · exact ⟨rfl, fun z => absurd rfl z⟩
  · omega
  · exact ⟨_, hR⟩
  · exact hmM
  · exact hfM
  · omega
set_option maxHeartbeats 4000000 in
set_option maxRecDepth 100000 in
/-- X13_oddsOf -/
theorem c_X13_oddsOf (w : g_W) {I : g_I} {J : g_J} {R : g_R} {lb tx : Nat} (hR : g_rf w R lb tx) {M : g_I} (hmM : q_rel I lb M) {s : Int} (h1 : 0 ≤ s ∧ s < I lb 0) : g_Met w g_n M J R yX13_oddsOf cX13_oddsOf 7 (some .int) 37 0 0 [(gvr w 703), (gvI s)] (fun rr nn II JJ RR => x_rel w (some (gvI (g_pts I lb s 0))) x_a M J lb rr nn II JJ RR ∧ 0 ≤ g_pts I lb s 0 ∧ g_pts I lb s 0 ≤ 1000000000) := by
  refine g_intro (own := RX13) [some (gvr w 703), some (gvI s), none, none, none, none, none] (by decide +kernel) rfl (by decide) (Nat.le_of_ble_eq_true rfl) rfl (fun i v hv => g_args 5 i v hv rfl) (fun x hc hm => ?_)
  have hfM : ∀ (k : Nat) (j : Int), ¬ x_a k j → M k j = M k j := fun _ _ _ => rfl
  have hI := hmM.gi
  have hTb := q_b1 hmM
  have hLv := hmM.lv
  have hC := hmM.cin
  have hL := hC.1
  obtain ⟨hn0, hn1, hLs, hLf⟩ := id hL
  obtain ⟨-, hC1, hC2, hC3, hC4, hC5, hC6, hC7⟩ := id hC
  have hTs := q_ts hmM (by omega)
  obtain ⟨hst, hway, hg0, hg1, hg2, hg3, hg4, hg5, hg6⟩ := hLs s h1.1 h1.2
  refine g_aldn hc dX13_oddsOf_0 rfl ?_
  refine g_aldn hc dX13_oddsOf_1 rfl ?_
  refine g_getIe hc lk_X13_52 ca_703 24 rfl (show M 703 24 = I 0 12 from hmM.tab) dX13_oddsOf_2 ?_
  refine g_iload_n hc dX13_oddsOf_5 rfl ?_
  refine g_V2 hc (c_X13_layWay w hR hmM (q_lfS hmM (by omega)) (by omega) (by omega)) my_X13_layWay mv_X13_layWay ca_703 rfl rfl lm_X13_310 rfl (by decide) (Nat.le_of_ble_eq_true rfl) hm dX13_oddsOf_6 (fun r3 n3 I3 J3 R3 hp3 => ?_)
  obtain ⟨⟨rfl, rfl, hK3, hX3, rfl, t3, hR⟩, hwI3⟩ := hp3
  have hmI3 : q_rel I lb I3 := q_cg (fun k j hk => hK3 k j (fun z => hk (x_wa z))) hX3 hmM
  have hfI3 : ∀ (k : Nat) (j : Int), ¬ x_a k j → I3 k j = M k j := fun k j hk => (hK3 k j (fun z => hk (x_wa z))).trans (hfM k j hk)
  refine g_ldc2 (k := 1000000000) hc dX13_oddsOf_9 _ lc_X13_356 (by decide +kernel) ?_
  refine g_lstore_2 hc dX13_oddsOf_12 rfl ?_
  refine g_iconst hc dX13_oddsOf_13 ?_
  refine g_istore_4 hc dX13_oddsOf_14 rfl ?_
  have lp_16 : ∀ (fu : Nat) (p i : Int) (Mm : g_I) (Rm : g_R), 0 ≤ i ∧ i ≤ I (lb + 14) s → p = g_ptn I lb s (fun f => if (0 : Int) = 0 then I 550 (4 + f) else g_shl 1 (I (lb + 43) f) - 1) i.toNat → 0 ≤ p ∧ p ≤ 1000000000 → (∃ tm, g_rf w Rm lb tm) → q_rel I lb Mm → (∀ (k : Nat) (j : Int), ¬ x_a k j → Mm k j = M k j) → x_wy I lb s Mm → I (lb + 14) s - i < (fu : Int) → G w x (fun rr nn II JJ RR => x_rel w (some (gvI (g_pts I lb s 0))) x_a M J lb rr nn II JJ RR ∧ 0 ≤ g_pts I lb s 0 ∧ g_pts I lb s 0 ≤ 1000000000) 0 0 g_n Mm J Rm 16 [some (gvr w 703), some (gvI s), some (gvL p), none, some (gvI i), none, none] [] := by
    intro fu
    induction fu with
    | zero => intro p i Mm Rm h3 h4 h5 hR hmMm hfMm hwMm hfu; exfalso; omega
    | succ fu ih =>
      intro p i Mm Rm h3 h4 h5 hR hmMm hfMm hwMm hfu
      obtain ⟨tm, hR⟩ := hR
      have ih_16 := ih
      refine g_iload hc dX13_oddsOf_16 rfl ?_
      refine g_aldn hc dX13_oddsOf_18 rfl ?_
      refine g_getIe hc lk_X13_307 ca_703 29 rfl (show Mm 703 29 = I (lb + 14) s from hwMm.1) dX13_oddsOf_19 ?_
      refine g_icmp_ge (tgt := 159) hc dX13_oddsOf_22 (by decide) (by first | exact hI _ _ | exact hxI2 _ _ | exact hIa _ _ | exact hIb _ _ | exact g_b32 | exact g_and32 | assumption | exact ⟨by omega, by omega⟩) (by first | exact hI _ _ | exact hxI2 _ _ | exact hIa _ _ | exact hIb _ _ | exact g_b32 | exact g_and32 | assumption | exact ⟨by omega, by omega⟩) (fun c1 => ?_) (fun c1 => ?_)
      · skip
        refine g_lload_n hc dX13_oddsOf_159 rfl ?_
        refine g_l2i hc dX13_oddsOf_160 ?_
        refine g_iret hc hm dX13_oddsOf_161 ?_
        have hE : p = g_pts I lb s 0 := by rw [h4, show i = I (lb + 14) s by omega]; rfl
        exact ⟨x_end hE hfMm hmMm.g hR, by omega, by omega⟩
      · skip
        refine g_aldn hc dX13_oddsOf_25 rfl ?_
        refine g_getRk hc lk_X13_63 ca_703 (rc_703_27 hR) dX13_oddsOf_26 ?_
        refine g_iload hc dX13_oddsOf_29 rfl ?_
        refine g_ialde hc ca_715 (by decide) (by omega) (by omega) (show Mm 715 i = I (lb + 16 + s.toNat) i from (hwMm.2 _ (by omega) (by omega)).1) dX13_oddsOf_31 ?_
        refine g_istore_5 hc dX13_oddsOf_32 rfl ?_
        refine g_aldn hc dX13_oddsOf_34 rfl ?_
        refine g_getRk hc lk_X13_66 ca_703 (rc_703_28 hR) dX13_oddsOf_35 ?_
        refine g_iload hc dX13_oddsOf_38 rfl ?_
        refine g_ialde hc ca_716 (by decide) (by omega) (by omega) (show Mm 716 i = I (lb + 29 + s.toNat) i from (hwMm.2 _ (by omega) (by omega)).2) dX13_oddsOf_40 ?_
        refine g_istore_6 hc dX13_oddsOf_41 rfl ?_
        obtain ⟨⟨hw1, hw2⟩, hw3, hw4⟩ := hway i h3.1 (by omega)
        obtain ⟨hk2, hk1, hy, hit⟩ := hLf _ hw1 hw2
        obtain ⟨hb0, hb1, hb2, hb3, hb4, htg⟩ := hit _ hw3 hw4
        refine g_aldn hc dX13_oddsOf_43 rfl ?_
        refine g_getRk hc lk_X13_56 ca_703 (rc_703_25 hR) dX13_oddsOf_44 ?_
        refine g_iconst hc dX13_oddsOf_47 ?_
        refine g_iload hc dX13_oddsOf_48 rfl ?_
        refine g_imul hc dX13_oddsOf_50 ?_
        refine g_iload hc dX13_oddsOf_51 rfl ?_
        refine g_iadd hc dX13_oddsOf_53 ?_
        refine g_zalde hc ca_713 (by decide) (by omega) (by omega) (show Mm 713 ((4 * (I (lb + 16 + s.toNat) i)) + (I (lb + 29 + s.toNat) i)) = g_b (g_bit (I 550 (4 + (I (lb + 16 + s.toNat) i))) (I (lb + 29 + s.toNat) i)) from hmMm.opn (by omega) (by omega)) dX13_oddsOf_54 ?_
        refine g_ifb_ne (tgt := 60) hc dX13_oddsOf_55 (by decide)  (fun c2 => ?_) (fun c2 => ?_)
        · skip
          have hop := c2
          have hb1 : g_and (g_shr (I 550 (4 + I (lb + 16 + s.toNat) i)) (I (lb + 29 + s.toNat) i)) 1 = 1 := hop
          have hwg := g_wt_ge (m := I 550 (4 + I (lb + 16 + s.toNat) i)) (fun r h0 h9 => (hit r h0 h9).1) hw3 hop (I (lb + 43) (I (lb + 16 + s.toNat) i)).toNat (by omega) (by omega)
          have hwi := g_wt_in (m := I 550 (4 + I (lb + 16 + s.toNat) i)) (fun r h0 h9 => (hit r h0 h9).1) (I (lb + 43) (I (lb + 16 + s.toNat) i)).toNat (by omega)
          have hm15 := q_bc1 (hC7 _ hw1 hw2)
          have hmd := g_mulDiv (p := p) (a := I (lb + 47 + (I (lb + 16 + s.toNat) i * 4 + I (lb + 29 + s.toNat) i).toNat) 0) (c := g_wt I lb (I (lb + 16 + s.toNat) i) (I 550 (4 + I (lb + 16 + s.toNat) i)) (I (lb + 43) (I (lb + 16 + s.toNat) i)).toNat) (by omega) (by omega) (by omega) (by omega)
          have htd := g_tdiv1 (p := p) (c := g_bc (I 550 (4 + I (lb + 16 + s.toNat) i))) (by omega) (by omega)
          have hml := g_mulb (a := p) (b := I (lb + 47 + (I (lb + 16 + s.toNat) i * 4 + I (lb + 29 + s.toNat) i).toNat) 0) (m := 1000000000) (n := 9) (by omega) (by omega)
          refine g_aldn hc dX13_oddsOf_60 rfl ?_
          refine g_getRk hc lk_X13_40 ca_703 (rc_703_19 hR) dX13_oddsOf_61 ?_
          refine g_aldn hc dX13_oddsOf_64 rfl ?_
          refine g_aldn hc dX13_oddsOf_65 rfl ?_
          refine g_getIe hc lk_X13_52 ca_703 24 rfl (show Mm 703 24 = I 0 12 from hmMm.tab) dX13_oddsOf_66 ?_
          refine g_iload hc dX13_oddsOf_69 rfl ?_
          refine g_V2r hc (c_X13_forkAt w) my_X13_forkAt mv_X13_forkAt ca_703 rfl rfl lm_X13_249 rfl (by decide) (Nat.le_of_ble_eq_true rfl) hm dX13_oddsOf_71 ?_
          refine g_iconst hc dX13_oddsOf_74 ?_
          refine g_iadd hc dX13_oddsOf_75 ?_
          refine g_ialde hc ca_709 (by decide) (by omega) (by omega) (show Mm 709 ((((I 0 12) * 18 + (I (lb + 16 + s.toNat) i)) * 5) + 1) = I (lb + 42) (I (lb + 16 + s.toNat) i) from q_kd hmMm (by omega)) dX13_oddsOf_76 ?_
          refine g_iconst hc dX13_oddsOf_77 ?_
          refine g_icmp_ne (tgt := 113) hc dX13_oddsOf_78 (by decide) (by first | exact hI _ _ | exact hxI2 _ _ | exact hIa _ _ | exact hIb _ _ | exact g_b32 | exact g_and32 | assumption | exact ⟨by omega, by omega⟩) (by first | exact hI _ _ | exact hxI2 _ _ | exact hIa _ _ | exact hIb _ _ | exact g_b32 | exact g_and32 | assumption | exact ⟨by omega, by omega⟩) (fun c3 => ?_) (fun c3 => ?_)
          · skip
            refine g_aldn hc dX13_oddsOf_113 rfl ?_
            refine g_getRk hc lk_X13_60 ca_703 (rc_703_26 hR) dX13_oddsOf_114 ?_
            refine g_iconst hc dX13_oddsOf_117 ?_
            refine g_ialde hc ca_714 (by decide) (by omega) (by omega) (show Mm 714 0 = I 550 0 from hmMm.told (by omega)) dX13_oddsOf_118 ?_
            refine g_iconst hc dX13_oddsOf_119 ?_
            refine g_icmp_ne (tgt := 136) hc dX13_oddsOf_120 (by decide) (by first | exact hI _ _ | exact hxI2 _ _ | exact hIa _ _ | exact hIb _ _ | exact g_b32 | exact g_and32 | assumption | exact ⟨by omega, by omega⟩) (by first | exact hI _ _ | exact hxI2 _ _ | exact hIa _ _ | exact hIb _ _ | exact g_b32 | exact g_and32 | assumption | exact ⟨by omega, by omega⟩) (fun c4 => ?_) (fun c4 => ?_)
            · skip
              refine g_aldn hc dX13_oddsOf_136 rfl ?_
              refine g_iload hc dX13_oddsOf_137 rfl ?_
              refine g_V1 hc (c_X13_choice w hR hmMm (by omega)) my_X13_choice mv_X13_choice ca_703 rfl rfl lm_X13_361 rfl (by decide) (Nat.le_of_ble_eq_true rfl) hm dX13_oddsOf_139 (fun r4 n4 I4 J4 R4 hp4 => ?_)
              obtain ⟨rfl, rfl, hK4, hX4, rfl, t4, hR⟩ := hp4
              have hmI4 : q_rel I lb I4 := q_cg (fun k j hk => hK4 k j (fun z => hk (x_ta z))) hX4 hmMm
              have hfI4 : ∀ (k : Nat) (j : Int), ¬ x_a k j → I4 k j = M k j := fun k j hk => (hK4 k j (fun z => hk (x_ta z))).trans (hfMm k j hk)
              have hwI4 : x_wy I lb s I4 := x_wy_cg hK4 hwMm
              refine g_iload hc dX13_oddsOf_142 rfl ?_
              refine g_icmp_ne (tgt := 151) hc dX13_oddsOf_144 (by decide) (g_cho32 hk2 (by omega)) (hI _ _) (fun c5 => ?_) (fun c5 => ?_)
              · skip
                refine g_lconst hc dX13_oddsOf_151 0 (by decide +kernel) ?_
                refine g_lstore_2 hc dX13_oddsOf_152 rfl ?_
                refine g_iinc_4 hc dX13_oddsOf_153 rfl ?_
                refine g_goto (tgt := 16) hc dX13_oddsOf_156 (by decide) ?_
                refine G_sub (L' := [some (gvr w 703), some (gvI s), some (gvL 0), none, some (gvI (i + 1)), none, none]) (show g_le _ _ from ⟨rfl, ⟨rfl, ⟨rfl, ⟨rfl, trivial⟩⟩⟩⟩) ?_
                refine ih_16 _ _ _ _ ?_ ?_ ?_ ?_ ?_ ?_ ?_ ?_
                · omega
                · rw [g_ptn_i h3.1, ← h4]; show _ = g_pbh I lb p (I (lb + 16 + s.toNat) i) (I (lb + 29 + s.toNat) i) (if (0 : Int) = 0 then I 550 (4 + I (lb + 16 + s.toNat) i) else _); rw [if_pos rfl, g_pbh, if_neg (by omega), if_neg (by omega), if_neg (by omega), if_neg (by assumption)]
                · omega
                · exact ⟨_, hR⟩
                · exact hmI4
                · exact hfI4
                · exact hwI4
                · omega
              · skip
                refine g_lload_n hc dX13_oddsOf_147 rfl ?_
                refine g_goto (tgt := 152) hc dX13_oddsOf_148 (by decide) ?_
                refine g_lstore_2 hc dX13_oddsOf_152 rfl ?_
                refine g_iinc_4 hc dX13_oddsOf_153 rfl ?_
                refine g_goto (tgt := 16) hc dX13_oddsOf_156 (by decide) ?_
                refine G_sub (L' := [some (gvr w 703), some (gvI s), some (gvL p), none, some (gvI (i + 1)), none, none]) (show g_le _ _ from ⟨rfl, ⟨rfl, ⟨rfl, ⟨rfl, trivial⟩⟩⟩⟩) ?_
                refine ih_16 _ _ _ _ ?_ ?_ ?_ ?_ ?_ ?_ ?_ ?_
                · omega
                · rw [g_ptn_i h3.1, ← h4]; show _ = g_pbh I lb p (I (lb + 16 + s.toNat) i) (I (lb + 29 + s.toNat) i) (if (0 : Int) = 0 then I 550 (4 + I (lb + 16 + s.toNat) i) else _); rw [if_pos rfl, g_pbh, if_neg (by omega), if_neg (by omega), if_neg (by omega), if_pos (by assumption)]
                · omega
                · exact ⟨_, hR⟩
                · exact hmI4
                · exact hfI4
                · exact hwI4
                · omega
            · skip
              refine g_lload_n hc dX13_oddsOf_123 rfl ?_
              refine g_aldn hc dX13_oddsOf_124 rfl ?_
              refine g_iload hc dX13_oddsOf_125 rfl ?_
              refine g_V1r hc (c_X13_openMany w hR hmMm (by omega)) my_X13_openMany mv_X13_openMany ca_703 rfl rfl lm_X13_329 rfl (by decide) (Nat.le_of_ble_eq_true rfl) hm dX13_oddsOf_127 ?_
              refine g_i2l hc dX13_oddsOf_130 (by first | exact hI _ _ | exact hxI2 _ _ | exact hIa _ _ | exact hIb _ _ | exact g_b32 | exact g_and32 | assumption | exact ⟨by omega, by omega⟩) ?_
              refine g_ldiv hc dX13_oddsOf_131 (by exact ⟨by omega, by omega⟩) (by exact ⟨by omega, by omega⟩) (by omega) ?_
              refine g_lstore_2 hc dX13_oddsOf_132 rfl ?_
              refine g_goto (tgt := 153) hc dX13_oddsOf_133 (by decide) ?_
              refine g_iinc_4 hc dX13_oddsOf_153 rfl ?_
              refine g_goto (tgt := 16) hc dX13_oddsOf_156 (by decide) ?_
              refine G_sub (L' := [some (gvr w 703), some (gvI s), some (gvL (p.tdiv (g_bc (I 550 (4 + (I (lb + 16 + s.toNat) i)))))), none, some (gvI (i + 1)), none, none]) (show g_le _ _ from ⟨rfl, ⟨rfl, ⟨rfl, ⟨rfl, trivial⟩⟩⟩⟩) ?_
              refine ih_16 _ _ _ _ ?_ ?_ ?_ ?_ ?_ ?_ ?_ ?_
              · omega
              · rw [g_ptn_i h3.1, ← h4]; show _ = g_pbh I lb p (I (lb + 16 + s.toNat) i) (I (lb + 29 + s.toNat) i) (if (0 : Int) = 0 then I 550 (4 + I (lb + 16 + s.toNat) i) else _); rw [if_pos rfl, g_pbh, if_neg (by omega), if_neg (by omega), if_pos (by omega), if_neg (by omega)]
              · omega
              · exact ⟨_, hR⟩
              · exact hmMm
              · exact hfMm
              · exact hwMm
              · omega
          · skip
            refine g_lload_n hc dX13_oddsOf_81 rfl ?_
            refine g_aldn hc dX13_oddsOf_82 rfl ?_
            refine g_getRk hc lk_X13_43 ca_703 (rc_703_20 hR) dX13_oddsOf_83 ?_
            refine g_aldn hc dX13_oddsOf_86 rfl ?_
            refine g_aldn hc dX13_oddsOf_87 rfl ?_
            refine g_getIe hc lk_X13_52 ca_703 24 rfl (show Mm 703 24 = I 0 12 from hmMm.tab) dX13_oddsOf_88 ?_
            refine g_iload hc dX13_oddsOf_91 rfl ?_
            refine g_iload hc dX13_oddsOf_93 rfl ?_
            refine g_V3r hc (c_X13_branchAt w) my_X13_branchAt mv_X13_branchAt ca_703 rfl rfl lm_X13_262 rfl (by decide) (Nat.le_of_ble_eq_true rfl) hm dX13_oddsOf_95 ?_
            refine g_ialde hc ca_710 (by decide) (by omega) (by omega) (show Mm 710 ((((I 0 12) * 18 + (I (lb + 16 + s.toNat) i)) * 4 + (I (lb + 29 + s.toNat) i)) * 6) = I (lb + 47 + ((I (lb + 16 + s.toNat) i) * 4 + (I (lb + 29 + s.toNat) i)).toNat) 0 from q_b0 hmMm (by omega) (by omega)) dX13_oddsOf_98 ?_
            refine g_i2l hc dX13_oddsOf_99 (by first | exact hI _ _ | exact hxI2 _ _ | exact hIa _ _ | exact hIb _ _ | exact g_b32 | exact g_and32 | assumption | exact ⟨by omega, by omega⟩) ?_
            refine g_lmul hc dX13_oddsOf_100 ?_
            refine g_aldn hc dX13_oddsOf_101 rfl ?_
            refine g_iload hc dX13_oddsOf_102 rfl ?_
            refine g_V1r hc (c_X13_weights w hR hmMm (by omega)) my_X13_weights mv_X13_weights ca_703 rfl rfl lm_X13_358 rfl (by decide) (Nat.le_of_ble_eq_true rfl) hm dX13_oddsOf_104 ?_
            refine g_i2l hc dX13_oddsOf_107 (by first | exact hI _ _ | exact hxI2 _ _ | exact hIa _ _ | exact hIb _ _ | exact g_b32 | exact g_and32 | assumption | exact ⟨by omega, by omega⟩) ?_
            refine g_ldiv hc dX13_oddsOf_108 (by exact ⟨by omega, by omega⟩) (by exact ⟨by omega, by omega⟩) (by omega) ?_
            refine g_lstore_2 hc dX13_oddsOf_109 rfl ?_
            refine g_goto (tgt := 153) hc dX13_oddsOf_110 (by decide) ?_
            refine g_iinc_4 hc dX13_oddsOf_153 rfl ?_
            refine g_goto (tgt := 16) hc dX13_oddsOf_156 (by decide) ?_
            refine G_sub (L' := [some (gvr w 703), some (gvI s), some (gvL ((p * (I (lb + 47 + ((I (lb + 16 + s.toNat) i) * 4 + (I (lb + 29 + s.toNat) i)).toNat) 0)).tdiv (g_wt I lb (I (lb + 16 + s.toNat) i) (I 550 (4 + (I (lb + 16 + s.toNat) i))) (I (lb + 43) (I (lb + 16 + s.toNat) i)).toNat))), none, some (gvI (i + 1)), none, none]) (show g_le _ _ from ⟨rfl, ⟨rfl, ⟨rfl, ⟨rfl, trivial⟩⟩⟩⟩) ?_
            refine ih_16 _ _ _ _ ?_ ?_ ?_ ?_ ?_ ?_ ?_ ?_
            · omega
            · rw [g_ptn_i h3.1, ← h4]; show _ = g_pbh I lb p (I (lb + 16 + s.toNat) i) (I (lb + 29 + s.toNat) i) (if (0 : Int) = 0 then I 550 (4 + I (lb + 16 + s.toNat) i) else _); rw [if_pos rfl, g_pbh, if_neg (by omega), if_pos (by omega), if_neg (by omega)]
            · omega
            · exact ⟨_, hR⟩
            · exact hmMm
            · exact hfMm
            · exact hwMm
            · omega
        · skip
          have hno := c2
          refine g_iconst hc dX13_oddsOf_58 ?_
          refine g_iret hc hm dX13_oddsOf_59 ?_
          have hz : g_pts I lb s 0 = 0 := g_ptn_z (i := (i + 1).toNat) (by rw [g_ptn_i h3.1]; show g_pbh I lb _ (I (lb + 16 + s.toNat) i) (I (lb + 29 + s.toNat) i) (if (0 : Int) = 0 then I 550 (4 + I (lb + 16 + s.toNat) i) else _) = 0; rw [if_pos rfl, g_pbh, if_pos (by have := @g_and1 (g_shr (I 550 (4 + I (lb + 16 + s.toNat) i)) (I (lb + 29 + s.toNat) i)); have hno2 : ¬ g_and (g_shr (I 550 (4 + I (lb + 16 + s.toNat) i)) (I (lb + 29 + s.toNat) i)) 1 = 1 := hno; omega)]) _ (by omega)
          exact ⟨x_end hz.symm hfMm hmMm.g hR, by omega, by omega⟩
  refine lp_16 7 _ _ _ _ ?_ ?_ ?_ ?_ ?_ ?_ ?_ (?_)
  · omega
  · rfl
  · omega
  · exact ⟨_, hR⟩
  · exact hmI3
  · exact hfI3
  · exact hwI3
  · omega
