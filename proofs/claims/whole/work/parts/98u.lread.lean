set_option maxHeartbeats 4000000 in
set_option maxRecDepth 100000 in
/-- X5_addStep -/
theorem s_step (w : g_W) {I : g_I} {J : g_J} {R : g_R} {lb tx : Nat} (hR : g_rf w R lb tx) {b : Nat} (hb : g_life b) (hmI : l_ok b I) {s i : Int} (h1 : 0 ≤ s ∧ s < 12) (h2 : 0 ≤ i ∧ i < 6) : g_Met w g_n I J R yX5_addStep cX5_addStep 8 none 1 0 0 [(gvr w 538), (gvr w b), (gvI s), (gvI i)] (g_post none g_n (m_step b s i I) J R) := by
  refine g_intro (own := RX5) [some (gvr w 538), some (gvr w b), some (gvI s), some (gvI i), none, none, none, none] (by decide +kernel) rfl (by decide) (Nat.le_of_ble_eq_true rfl) rfl (fun i v hv => g_args 4 i v hv rfl) (fun x hc hm => ?_)
  have hb5 := hb
  unfold g_life at hb5
  have hpf := hmI.2.2.2.2.2.1 i
  have hpb := hmI.2.2.2.2.2.2.1 i
  refine g_aldn hc dX5_addStep_0 rfl ?_
  refine g_getRk hc lk_X5_60 ca_538 (rc_538_4 hR) dX5_addStep_1 ?_
  refine g_iload_n hc dX5_addStep_4 rfl ?_
  refine g_iald hc ca_545 (by decide) (by omega) (by omega) dX5_addStep_5 ?_
  refine g_istore_4 hc dX5_addStep_6 rfl ?_
  refine g_aldn hc dX5_addStep_8 rfl ?_
  refine g_getRk hc lk_X5_63 ca_538 (rc_538_5 hR) dX5_addStep_9 ?_
  refine g_iload_n hc dX5_addStep_12 rfl ?_
  refine g_iald hc ca_546 (by decide) (by omega) (by omega) dX5_addStep_13 ?_
  refine g_istore_5 hc dX5_addStep_14 rfl ?_
  refine g_aldn hc dX5_addStep_16 rfl ?_
  refine g_getRk hc lk_X5_112 (la_0 hb) (rl_2 hR hb) dX5_addStep_17 ?_
  refine g_iload_n hc dX5_addStep_20 rfl ?_
  refine g_aaldk hc (la_1 hb) (by decide) rfl rfl (by decide) (by omega) (by omega) (rl_has hR hb (by omega) (by omega)) dX5_addStep_21 ?_
  refine g_astore_6 hc dX5_addStep_22 rfl ?_
  refine g_aldn hc dX5_addStep_24 rfl ?_
  refine g_getRk hc lk_X5_126 (la_0 hb) (rl_4 hR hb) dX5_addStep_25 ?_
  refine g_iload_n hc dX5_addStep_28 rfl ?_
  refine g_aaldk hc (la_15 hb) (by decide) rfl rfl (by decide) (by omega) (by omega) (rl_wf hR hb (by omega) (by omega)) dX5_addStep_29 ?_
  refine g_iload_n hc dX5_addStep_30 rfl ?_
  refine g_iload hc dX5_addStep_31 rfl ?_
  refine g_iast' hc (la_wf hb (by omega) (by omega)) (by decide) (by omega) (by omega)  dX5_addStep_33 (fun I3 hI3 => ?_)
  have hmI3 : l_ok b I3 := by rw [hI3]; exact l_up hmI (by omega) (by first | exact hI _ _ | exact hxI2 _ _ | exact hIa _ _ | exact hIb _ _ | exact g_b32 | exact g_and32 | assumption | exact ⟨by omega, by omega⟩)
  refine g_aldn hc dX5_addStep_34 rfl ?_
  refine g_getRk hc lk_X5_129 (la_0 hb) (rl_5 hR hb) dX5_addStep_35 ?_
  refine g_iload_n hc dX5_addStep_38 rfl ?_
  refine g_aaldk hc (la_28 hb) (by decide) rfl rfl (by decide) (by omega) (by omega) (rl_wb hR hb (by omega) (by omega)) dX5_addStep_39 ?_
  refine g_iload_n hc dX5_addStep_40 rfl ?_
  refine g_iload hc dX5_addStep_41 rfl ?_
  refine g_iast' hc (la_wb hb (by omega) (by omega)) (by decide) (by omega) (by omega)  dX5_addStep_43 (fun I4 hI4 => ?_)
  have hmI4 : l_ok b I4 := by rw [hI4]; exact l_up hmI3 (by omega) (by first | exact hI _ _ | exact hxI2 _ _ | exact hIa _ _ | exact hIb _ _ | exact g_b32 | exact g_and32 | assumption | exact ⟨by omega, by omega⟩)
  refine g_aldn hc dX5_addStep_44 rfl ?_
  refine g_getRk hc lk_X5_132 (la_0 hb) (rl_10 hR hb) dX5_addStep_45 ?_
  refine g_iload hc dX5_addStep_48 rfl ?_
  refine g_dup2 hc dX5_addStep_50 rfl rfl ?_
  refine g_iald hc (la_45 hb) (by decide) (by omega) (by omega) dX5_addStep_51 ?_
  refine g_iconst hc dX5_addStep_52 ?_
  refine g_iload_n hc dX5_addStep_53 rfl ?_
  refine g_ishl hc dX5_addStep_54 ?_
  refine g_ior hc dX5_addStep_55 ?_
  refine g_iast' hc (la_45 hb) (by decide) (by omega) (by omega)  dX5_addStep_56 (fun I5 hI5 => ?_)
  have hmI5 : l_ok b I5 := by rw [hI5]; exact l_up hmI4 (by omega) g_or32
  have hMI5 : m_bhd b s (I 545 i) I4 = I5 := by rw [hI5]; first | rfl | (unfold m_fct; rw [if_pos (by assumption)]) | (unfold m_fct; rw [if_neg (by assumption)]) | (unfold m_f2; rw [if_pos (by assumption)]) | (unfold m_f2; rw [if_neg (by assumption)])
  clear hI5
  refine g_ald hc dX5_addStep_57 rfl ?_
  refine g_iconst hc dX5_addStep_59 ?_
  refine g_dup2 hc dX5_addStep_60 rfl rfl ?_
  refine g_iald hc (la_has hb (by omega) (by omega)) (by decide) (by omega) (by omega) dX5_addStep_61 ?_
  refine g_aldn hc dX5_addStep_62 rfl ?_
  refine g_iload hc dX5_addStep_63 rfl ?_
  refine g_iload hc dX5_addStep_65 rfl ?_
  refine g_iconst hc dX5_addStep_67 ?_
  refine g_V3r hc (c_X4_item w hR hmI5.1 hb (by omega) (by omega) (by omega)) my_X4_item mv_X4_item (la_0 hb) rfl rfl lm_X5_135 rfl (by decide) (Nat.le_of_ble_eq_true rfl) hm dX5_addStep_68 ?_
  refine g_iadd hc dX5_addStep_71 ?_
  rw [show gvI ((I5 (b + 2 + (s).toNat) 0) + (I5 (b + 47 + ((I 545 i) * 4 + (I 546 i)).toNat) 1)) = gvI (g_w32 ((I5 (b + 2 + (s).toNat) 0) + (I5 (b + 47 + ((I 545 i) * 4 + (I 546 i)).toNat) 1))) from g_gw]
  refine g_iast' hc (la_has hb (by omega) (by omega)) (by decide) (by omega) (by omega)  dX5_addStep_72 (fun I6 hI6 => ?_)
  have hmI6 : l_ok b I6 := by rw [hI6]; exact l_up hmI5 (by omega) g_w32_in
  have hMI6 : m_add b s (I 545 i) (I 546 i) 0 1 I5 = I6 := by rw [hI6]; first | rfl | (unfold m_fct; rw [if_pos (by assumption)]) | (unfold m_fct; rw [if_neg (by assumption)]) | (unfold m_f2; rw [if_pos (by assumption)]) | (unfold m_f2; rw [if_neg (by assumption)])
  clear hI6
  refine g_ald hc dX5_addStep_73 rfl ?_
  refine g_iconst hc dX5_addStep_75 ?_
  refine g_dup2 hc dX5_addStep_76 rfl rfl ?_
  refine g_iald hc (la_has hb (by omega) (by omega)) (by decide) (by omega) (by omega) dX5_addStep_77 ?_
  refine g_aldn hc dX5_addStep_78 rfl ?_
  refine g_iload hc dX5_addStep_79 rfl ?_
  refine g_iload hc dX5_addStep_81 rfl ?_
  refine g_iconst hc dX5_addStep_83 ?_
  refine g_V3r hc (c_X4_item w hR hmI6.1 hb (by omega) (by omega) (by omega)) my_X4_item mv_X4_item (la_0 hb) rfl rfl lm_X5_135 rfl (by decide) (Nat.le_of_ble_eq_true rfl) hm dX5_addStep_84 ?_
  refine g_iadd hc dX5_addStep_87 ?_
  rw [show gvI ((I6 (b + 2 + (s).toNat) 1) + (I6 (b + 47 + ((I 545 i) * 4 + (I 546 i)).toNat) 2)) = gvI (g_w32 ((I6 (b + 2 + (s).toNat) 1) + (I6 (b + 47 + ((I 545 i) * 4 + (I 546 i)).toNat) 2))) from g_gw]
  refine g_iast' hc (la_has hb (by omega) (by omega)) (by decide) (by omega) (by omega)  dX5_addStep_88 (fun I7 hI7 => ?_)
  have hmI7 : l_ok b I7 := by rw [hI7]; exact l_up hmI6 (by omega) g_w32_in
  have hMI7 : m_add b s (I 545 i) (I 546 i) 1 2 I6 = I7 := by rw [hI7]; first | rfl | (unfold m_fct; rw [if_pos (by assumption)]) | (unfold m_fct; rw [if_neg (by assumption)]) | (unfold m_f2; rw [if_pos (by assumption)]) | (unfold m_f2; rw [if_neg (by assumption)])
  clear hI7
  refine g_ald hc dX5_addStep_89 rfl ?_
  refine g_iconst hc dX5_addStep_91 ?_
  refine g_dup2 hc dX5_addStep_92 rfl rfl ?_
  refine g_iald hc (la_has hb (by omega) (by omega)) (by decide) (by omega) (by omega) dX5_addStep_93 ?_
  refine g_aldn hc dX5_addStep_94 rfl ?_
  refine g_iload hc dX5_addStep_95 rfl ?_
  refine g_iload hc dX5_addStep_97 rfl ?_
  refine g_iconst hc dX5_addStep_99 ?_
  refine g_V3r hc (c_X4_item w hR hmI7.1 hb (by omega) (by omega) (by omega)) my_X4_item mv_X4_item (la_0 hb) rfl rfl lm_X5_135 rfl (by decide) (Nat.le_of_ble_eq_true rfl) hm dX5_addStep_100 ?_
  refine g_iadd hc dX5_addStep_103 ?_
  rw [show gvI ((I7 (b + 2 + (s).toNat) 2) + (I7 (b + 47 + ((I 545 i) * 4 + (I 546 i)).toNat) 3)) = gvI (g_w32 ((I7 (b + 2 + (s).toNat) 2) + (I7 (b + 47 + ((I 545 i) * 4 + (I 546 i)).toNat) 3))) from g_gw]
  refine g_iast' hc (la_has hb (by omega) (by omega)) (by decide) (by omega) (by omega)  dX5_addStep_104 (fun I8 hI8 => ?_)
  have hmI8 : l_ok b I8 := by rw [hI8]; exact l_up hmI7 (by omega) g_w32_in
  have hMI8 : m_add b s (I 545 i) (I 546 i) 2 3 I7 = I8 := by rw [hI8]; first | rfl | (unfold m_fct; rw [if_pos (by assumption)]) | (unfold m_fct; rw [if_neg (by assumption)]) | (unfold m_f2; rw [if_pos (by assumption)]) | (unfold m_f2; rw [if_neg (by assumption)])
  clear hI8
  refine g_aldn hc dX5_addStep_105 rfl ?_
  refine g_iload hc dX5_addStep_106 rfl ?_
  refine g_iload hc dX5_addStep_108 rfl ?_
  refine g_iconst hc dX5_addStep_110 ?_
  refine g_V3r hc (c_X4_item w hR hmI8.1 hb (by omega) (by omega) (by omega)) my_X4_item mv_X4_item (la_0 hb) rfl rfl lm_X5_135 rfl (by decide) (Nat.le_of_ble_eq_true rfl) hm dX5_addStep_111 ?_
  refine g_istore_7 hc dX5_addStep_114 rfl ?_
  have hg4 : g32 (I8 (b + 47 + (I 545 i * 4 + I 546 i).toNat) 4) := hmI8.1 _ _
  refine g_ald hc dX5_addStep_116 rfl ?_
  refine g_bipush hc dX5_addStep_118 (by decide +kernel) ?_
  refine g_dup2 hc dX5_addStep_120 rfl rfl ?_
  refine g_iald hc (la_has hb (by omega) (by omega)) (by decide) (by omega) (by omega) dX5_addStep_121 ?_
  refine g_iload hc dX5_addStep_122 rfl ?_
  refine g_iconst hc dX5_addStep_124 ?_
  refine g_icmp_ne (tgt := 132) hc dX5_addStep_125 (by decide) (by assumption) (by exact ⟨by decide, by decide⟩) (fun c1 => ?_) (fun c1 => ?_)
  · skip
    refine g_iconst hc dX5_addStep_132 ?_
    refine g_iload hc dX5_addStep_133 rfl ?_
    refine g_ishl hc dX5_addStep_135 ?_
    refine g_ior hc dX5_addStep_136 ?_
    refine g_iast' hc (la_has hb (by omega) (by omega)) (by decide) (by omega) (by omega)  dX5_addStep_137 (fun I9 hI9 => ?_)
    have hmI9 : l_ok b I9 := by rw [hI9]; exact l_up hmI8 (by omega) g_or32
    have hMI9 : m_fct b s (I 545 i) (I 546 i) I8 = I9 := by rw [hI9]; first | rfl | (unfold m_fct; rw [if_pos (by assumption)]) | (unfold m_fct; rw [if_neg (by assumption)]) | (unfold m_f2; rw [if_pos (by assumption)]) | (unfold m_f2; rw [if_neg (by assumption)])
    clear hI9
    refine g_vret hc hm dX5_addStep_138 ?_
    exact ⟨rfl, rfl, by subst_vars; rfl, rfl, rfl⟩
  · skip
    refine g_iconst hc dX5_addStep_128 ?_
    refine g_goto (tgt := 136) hc dX5_addStep_129 (by decide) ?_
    refine g_ior hc dX5_addStep_136 ?_
    refine g_iast' hc (la_has hb (by omega) (by omega)) (by decide) (by omega) (by omega)  dX5_addStep_137 (fun I10 hI10 => ?_)
    have hmI10 : l_ok b I10 := by rw [hI10]; exact l_up hmI8 (by omega) g_or32
    have hMI10 : m_fct b s (I 545 i) (I 546 i) I8 = I10 := by rw [hI10]; first | rfl | (unfold m_fct; rw [if_pos (by assumption)]) | (unfold m_fct; rw [if_neg (by assumption)]) | (unfold m_f2; rw [if_pos (by assumption)]) | (unfold m_f2; rw [if_neg (by assumption)])
    clear hI10
    refine g_vret hc hm dX5_addStep_138 ?_
    exact ⟨rfl, rfl, by subst_vars; rfl, rfl, rfl⟩
set_option maxHeartbeats 4000000 in
set_option maxRecDepth 100000 in
/-- X5_readLeaf -/
theorem s_leaf (w : g_W) {I : g_I} {J : g_J} {R : g_R} {lb tx : Nat} (hR : g_rf w R lb tx) {b : Nat} (hb : g_life b) (hmI : l_ok b I) {d : Int} (h1 : I b 0 < 12) (h2 : 0 ≤ d ∧ d ≤ 6) (h3 : I 1 2 < I 1 1) : g_Met w g_n I J R yX5_readLeaf cX5_readLeaf 6 (some .int) 6 0 0 [(gvr w 538), (gvr w b), (gvI d)] (g_post (some (gvI ((m_leaf b d I).1))) g_n ((m_leaf b d I).2) J R) := by
  refine g_intro (own := RX5) [some (gvr w 538), some (gvr w b), some (gvI d), none, none, none] (by decide +kernel) rfl (by decide) (Nat.le_of_ble_eq_true rfl) rfl (fun i v hv => g_args 3 i v hv rfl) (fun x hc hm => ?_)
  have hb5 := hb
  unfold g_life at hb5
  have h8 := hmI.2.2.2.2.2.2.2.1
  refine g_aldn hc dX5_readLeaf_0 rfl ?_
  refine g_getRk hc lk_X5_66 ca_538 (rc_538_0 hR) dX5_readLeaf_1 ?_
  refine g_dup hc dX5_readLeaf_4 rfl ?_
  refine g_getI' hc lk_X5_101 ca_1 2 rfl dX5_readLeaf_5 ?_
  refine g_iconst hc dX5_readLeaf_8 ?_
  refine g_iadd hc dX5_readLeaf_9 ?_
  refine g_putI' hc lk_X5_101 ca_1 2 rfl dX5_readLeaf_10 (fun I3 hI3 => ?_)
  have hmI3 : l_ok b I3 := by rw [hI3]; exact m_adv_ok hb hmI h3
  have hMI3 : m_adv I = I3 := by rw [hI3]; first | rfl | (unfold m_fct; rw [if_pos (by assumption)]) | (unfold m_fct; rw [if_neg (by assumption)]) | (unfold m_f2; rw [if_pos (by assumption)]) | (unfold m_f2; rw [if_neg (by assumption)])
  clear hI3
  refine g_aldn hc dX5_readLeaf_13 rfl ?_
  refine g_getRk hc lk_X5_28 ca_538 (rc_538_1 hR) dX5_readLeaf_14 ?_
  refine g_aldn hc dX5_readLeaf_17 rfl ?_
  refine g_getRk hc lk_X5_66 ca_538 (rc_538_0 hR) dX5_readLeaf_18 ?_
  refine g_V1v hc (i_leaf w hR hb hmI3) my_X3_read mv_X3_read ca_539 rfl rfl lm_X5_108 rfl (by decide) (Nat.le_of_ble_eq_true rfl) hm dX5_readLeaf_21 ?_
  generalize hMI4 : m_items 540 5 0 0 1 2 I3 = I4
  have hmI4 : l_ok b I4 := hMI4 ▸ m_items_ok hb hmI3 (by decide) (by decide) (by decide) (by decide) (by decide)
  refine g_aldn hc dX5_readLeaf_24 rfl ?_
  refine g_getI' hc lk_X5_70 (la_0 hb) 0 rfl dX5_readLeaf_25 ?_
  obtain ⟨s, hns⟩ : ∃ s, s = I4 b 0 := ⟨_, rfl⟩
  rw [← hns]
  refine g_istore_3 hc dX5_readLeaf_28 rfl ?_
  have hs0 : s = I b 0 := by subst_vars; rw [m_items_k (by omega) (by omega), m_adv_k (by omega)]
  refine g_aldn hc dX5_readLeaf_29 rfl ?_
  refine g_dup hc dX5_readLeaf_30 rfl ?_
  refine g_getI' hc lk_X5_70 (la_0 hb) 0 rfl dX5_readLeaf_31 ?_
  rw [show I4 b 0 = s from hns.symm]
  refine g_iconst hc dX5_readLeaf_34 ?_
  refine g_iadd hc dX5_readLeaf_35 ?_
  refine g_putI' hc lk_X5_70 (la_0 hb) 0 rfl dX5_readLeaf_36 (fun I5 hI5 => ?_)
  have hmI5 : l_ok b I5 := by rw [hI5]; exact l_lf hmI4 hb (by omega)
  refine g_aldn hc dX5_readLeaf_39 rfl ?_
  refine g_getRk hc lk_X5_112 (la_0 hb) (rl_2 hR hb) dX5_readLeaf_40 ?_
  refine g_iload_n hc dX5_readLeaf_43 rfl ?_
  refine g_aaldk hc (la_1 hb) (by decide) rfl rfl (by decide) (by omega) (by omega) (rl_has hR hb (by omega) (by omega)) dX5_readLeaf_44 ?_
  refine g_astore_4 hc dX5_readLeaf_45 rfl ?_
  refine g_ald hc dX5_readLeaf_47 rfl ?_
  refine g_iconst hc dX5_readLeaf_49 ?_
  refine g_aldn hc dX5_readLeaf_50 rfl ?_
  refine g_getRk hc lk_X5_28 ca_538 (rc_538_1 hR) dX5_readLeaf_51 ?_
  refine g_getRk hc lk_X5_116 ca_539 (rc_539_4 hR) dX5_readLeaf_54 ?_
  refine g_iconst hc dX5_readLeaf_57 ?_
  refine g_iald hc ca_540 (by decide) (by omega) (by omega) dX5_readLeaf_58 ?_
  refine g_iast' hc (la_has hb (by omega) (by omega)) (by decide) (by omega) (by omega)  dX5_readLeaf_59 (fun I6 hI6 => ?_)
  have hmI6 : l_ok b I6 := by rw [hI6]; exact l_up hmI5 (by omega) (hmI5.1 _ _)
  have hMI6 : m_r1 b s 0 0 I5 = I6 := by rw [hI6]; first | rfl | (unfold m_fct; rw [if_pos (by assumption)]) | (unfold m_fct; rw [if_neg (by assumption)]) | (unfold m_f2; rw [if_pos (by assumption)]) | (unfold m_f2; rw [if_neg (by assumption)])
  clear hI6
  refine g_ald hc dX5_readLeaf_60 rfl ?_
  refine g_iconst hc dX5_readLeaf_62 ?_
  refine g_aldn hc dX5_readLeaf_63 rfl ?_
  refine g_getRk hc lk_X5_28 ca_538 (rc_538_1 hR) dX5_readLeaf_64 ?_
  refine g_getRk hc lk_X5_116 ca_539 (rc_539_4 hR) dX5_readLeaf_67 ?_
  refine g_iconst hc dX5_readLeaf_70 ?_
  refine g_iald hc ca_540 (by decide) (by omega) (by omega) dX5_readLeaf_71 ?_
  refine g_iast' hc (la_has hb (by omega) (by omega)) (by decide) (by omega) (by omega)  dX5_readLeaf_72 (fun I7 hI7 => ?_)
  have hmI7 : l_ok b I7 := by rw [hI7]; exact l_up hmI6 (by omega) (hmI6.1 _ _)
  have hMI7 : m_r1 b s 1 1 I6 = I7 := by rw [hI7]; first | rfl | (unfold m_fct; rw [if_pos (by assumption)]) | (unfold m_fct; rw [if_neg (by assumption)]) | (unfold m_f2; rw [if_pos (by assumption)]) | (unfold m_f2; rw [if_neg (by assumption)])
  clear hI7
  refine g_ald hc dX5_readLeaf_73 rfl ?_
  refine g_iconst hc dX5_readLeaf_75 ?_
  refine g_iconst hc dX5_readLeaf_76 ?_
  refine g_iast' hc (la_has hb (by omega) (by omega)) (by decide) (by omega) (by omega)  dX5_readLeaf_77 (fun I8 hI8 => ?_)
  have hmI8 : l_ok b I8 := by rw [hI8]; exact l_up hmI7 (by omega) (by first | exact hI _ _ | exact hxI2 _ _ | exact hIa _ _ | exact hIb _ _ | exact g_b32 | exact g_and32 | assumption | exact ⟨by omega, by omega⟩)
  have hMI8 : m_r0 b s 2 I7 = I8 := by rw [hI8]; first | rfl | (unfold m_fct; rw [if_pos (by assumption)]) | (unfold m_fct; rw [if_neg (by assumption)]) | (unfold m_f2; rw [if_pos (by assumption)]) | (unfold m_f2; rw [if_neg (by assumption)])
  clear hI8
  refine g_ald hc dX5_readLeaf_78 rfl ?_
  refine g_iconst hc dX5_readLeaf_80 ?_
  refine g_aldn hc dX5_readLeaf_81 rfl ?_
  refine g_getRk hc lk_X5_28 ca_538 (rc_538_1 hR) dX5_readLeaf_82 ?_
  refine g_getRk hc lk_X5_116 ca_539 (rc_539_4 hR) dX5_readLeaf_85 ?_
  refine g_iconst hc dX5_readLeaf_88 ?_
  refine g_iald hc ca_540 (by decide) (by omega) (by omega) dX5_readLeaf_89 ?_
  refine g_iast' hc (la_has hb (by omega) (by omega)) (by decide) (by omega) (by omega)  dX5_readLeaf_90 (fun I9 hI9 => ?_)
  have hmI9 : l_ok b I9 := by rw [hI9]; exact l_up hmI8 (by omega) (hmI8.1 _ _)
  have hMI9 : m_r1 b s 3 2 I8 = I9 := by rw [hI9]; first | rfl | (unfold m_fct; rw [if_pos (by assumption)]) | (unfold m_fct; rw [if_neg (by assumption)]) | (unfold m_f2; rw [if_pos (by assumption)]) | (unfold m_f2; rw [if_neg (by assumption)])
  clear hI9
  refine g_ald hc dX5_readLeaf_91 rfl ?_
  refine g_iconst hc dX5_readLeaf_93 ?_
  refine g_aldn hc dX5_readLeaf_94 rfl ?_
  refine g_getRk hc lk_X5_28 ca_538 (rc_538_1 hR) dX5_readLeaf_95 ?_
  refine g_getRk hc lk_X5_116 ca_539 (rc_539_4 hR) dX5_readLeaf_98 ?_
  refine g_iconst hc dX5_readLeaf_101 ?_
  refine g_iald hc ca_540 (by decide) (by omega) (by omega) dX5_readLeaf_102 ?_
  refine g_iast' hc (la_has hb (by omega) (by omega)) (by decide) (by omega) (by omega)  dX5_readLeaf_103 (fun I10 hI10 => ?_)
  have hmI10 : l_ok b I10 := by rw [hI10]; exact l_up hmI9 (by omega) (hmI9.1 _ _)
  have hMI10 : m_r1 b s 4 3 I9 = I10 := by rw [hI10]; first | rfl | (unfold m_fct; rw [if_pos (by assumption)]) | (unfold m_fct; rw [if_neg (by assumption)]) | (unfold m_f2; rw [if_pos (by assumption)]) | (unfold m_f2; rw [if_neg (by assumption)])
  clear hI10
  refine g_ald hc dX5_readLeaf_104 rfl ?_
  refine g_iconst hc dX5_readLeaf_106 ?_
  refine g_aldn hc dX5_readLeaf_107 rfl ?_
  refine g_getRk hc lk_X5_28 ca_538 (rc_538_1 hR) dX5_readLeaf_108 ?_
  refine g_getRk hc lk_X5_116 ca_539 (rc_539_4 hR) dX5_readLeaf_111 ?_
  refine g_iconst hc dX5_readLeaf_114 ?_
  refine g_iald hc ca_540 (by decide) (by omega) (by omega) dX5_readLeaf_115 ?_
  refine g_iast' hc (la_has hb (by omega) (by omega)) (by decide) (by omega) (by omega)  dX5_readLeaf_116 (fun I11 hI11 => ?_)
  have hmI11 : l_ok b I11 := by rw [hI11]; exact l_up hmI10 (by omega) (hmI10.1 _ _)
  have hMI11 : m_r1 b s 5 4 I10 = I11 := by rw [hI11]; first | rfl | (unfold m_fct; rw [if_pos (by assumption)]) | (unfold m_fct; rw [if_neg (by assumption)]) | (unfold m_f2; rw [if_pos (by assumption)]) | (unfold m_f2; rw [if_neg (by assumption)])
  clear hI11
  refine g_ald hc dX5_readLeaf_117 rfl ?_
  refine g_bipush hc dX5_readLeaf_119 (by decide +kernel) ?_
  refine g_iconst hc dX5_readLeaf_121 ?_
  refine g_iast' hc (la_has hb (by omega) (by omega)) (by decide) (by omega) (by omega)  dX5_readLeaf_122 (fun I12 hI12 => ?_)
  have hmI12 : l_ok b I12 := by rw [hI12]; exact l_up hmI11 (by omega) (by first | exact hI _ _ | exact hxI2 _ _ | exact hIa _ _ | exact hIb _ _ | exact g_b32 | exact g_and32 | assumption | exact ⟨by omega, by omega⟩)
  have hMI12 : m_r0 b s 6 I11 = I12 := by rw [hI12]; first | rfl | (unfold m_fct; rw [if_pos (by assumption)]) | (unfold m_fct; rw [if_neg (by assumption)]) | (unfold m_f2; rw [if_pos (by assumption)]) | (unfold m_f2; rw [if_neg (by assumption)])
  clear hI12
  refine g_aldn hc dX5_readLeaf_123 rfl ?_
  refine g_getRk hc lk_X5_119 (la_0 hb) (rl_3 hR hb) dX5_readLeaf_124 ?_
  refine g_iload_n hc dX5_readLeaf_127 rfl ?_
  refine g_iload_n hc dX5_readLeaf_128 rfl ?_
  refine g_iast' hc (la_14 hb) (by decide) (by omega) (by omega)  dX5_readLeaf_129 (fun I13 hI13 => ?_)
  have hmI13 : l_ok b I13 := by rw [hI13]; exact l_up hmI12 (by omega) (by first | exact hI _ _ | exact hxI2 _ _ | exact hIa _ _ | exact hIb _ _ | exact g_b32 | exact g_and32 | assumption | exact ⟨by omega, by omega⟩)
  refine g_iconst hc dX5_readLeaf_130 ?_
  obtain ⟨Z0, hZ0⟩ : ∃ Z0, Z0 = I13 := ⟨_, rfl⟩
  refine g_istore_5 hc dX5_readLeaf_131 rfl ?_
  have lp_133 : ∀ (fu : Nat) (i : Int) (Im : g_I), 0 ≤ i ∧ i ≤ d → (m_leaf b d I).2 = m_sts b s d.toNat (m_sts b s 0 Z0) ∧ Im = m_sts b s i.toNat Z0 → l_ok b Im → d - i < (fu : Int) → G w x (g_post (some (gvI ((m_leaf b d I).1))) g_n ((m_leaf b d I).2) J R) 0 0 g_n Im J R 133 [some (gvr w 538), some (gvr w b), some (gvI d), some (gvI s), some (gvr w (b + 2 + (s).toNat)), some (gvI i)] [] := by
    intro fu
    induction fu with
    | zero => intro i Im h4 h5 hmIm hfu; exfalso; omega
    | succ fu ih =>
      intro i Im h4 h5 hmIm hfu
      have ih_133 := ih
      refine g_iload hc dX5_readLeaf_133 rfl ?_
      refine g_iload_n hc dX5_readLeaf_135 rfl ?_
      refine g_icmp_ge (tgt := 160) hc dX5_readLeaf_136 (by decide) (by first | exact hI _ _ | exact hxI2 _ _ | exact hIa _ _ | exact hIb _ _ | exact g_b32 | exact g_and32 | assumption | exact ⟨by omega, by omega⟩) (by first | exact hI _ _ | exact hxI2 _ _ | exact hIa _ _ | exact hIb _ _ | exact g_b32 | exact g_and32 | assumption | exact ⟨by omega, by omega⟩) (fun c1 => ?_) (fun c1 => ?_)
      · skip
        refine g_iload_n hc dX5_readLeaf_160 rfl ?_
        refine g_iret hc hm dX5_readLeaf_161 ?_
        have e9 : (m_leaf b d I).1 = I b 0 := by
          show m_lf1 I b 0 = _
          unfold m_lf1
          rw [m_items_k (by omega) (by omega), m_adv_k (by omega)]
        exact ⟨by rw [e9, ← hs0], rfl, by rw [h5.1, h5.2, show i = d by omega]; rfl, rfl, rfl⟩
      · skip
        refine g_iload hc dX5_readLeaf_139 rfl ?_
        refine g_bipush hc dX5_readLeaf_141 (by decide +kernel) ?_
        refine g_icmp_ge (tgt := 160) hc dX5_readLeaf_143 (by decide) (by first | exact hI _ _ | exact hxI2 _ _ | exact hIa _ _ | exact hIb _ _ | exact g_b32 | exact g_and32 | assumption | exact ⟨by omega, by omega⟩) (by first | exact hI _ _ | exact hxI2 _ _ | exact hIa _ _ | exact hIb _ _ | exact g_b32 | exact g_and32 | assumption | exact ⟨by omega, by omega⟩) (fun c2 => ?_) (fun c2 => ?_)
        · exfalso; omega
        · skip
          refine g_aldn hc dX5_readLeaf_146 rfl ?_
          refine g_aldn hc dX5_readLeaf_147 rfl ?_
          refine g_iload_n hc dX5_readLeaf_148 rfl ?_
          refine g_iload hc dX5_readLeaf_149 rfl ?_
          refine g_V3v hc (s_step w hR hb hmIm (by omega) (by omega)) my_X5_addStep mv_X5_addStep ca_538 rfl rfl lm_X5_122 rfl (by decide) (Nat.le_of_ble_eq_true rfl) hm dX5_readLeaf_151 ?_
          generalize hMI14 : m_step b s i Im = I14
          have hmI14 : l_ok b I14 := hMI14 ▸ m_step_ok hb hmIm (by omega)
          refine g_iinc_5 hc dX5_readLeaf_154 rfl ?_
          refine g_goto (tgt := 133) hc dX5_readLeaf_157 (by decide) ?_
          refine ih_133 _ _ ?_ ?_ ?_ ?_
          · omega
          · exact ⟨h5.1, by rw [m_sts_i h4.1, ← h5.2]; first | assumption | (symm; assumption)⟩
          · exact hmI14
          · omega
  refine lp_133 (d + 1).toNat _ _ ?_ ?_ ?_ (?_)
  · omega
  · exact ⟨by clear hs0; subst_vars; rfl, hZ0.symm⟩
  · exact hmI13
  · omega
set_option maxHeartbeats 4000000 in
set_option maxRecDepth 100000 in
/-- X5_readBranch -/
theorem s_branch (w : g_W) {I : g_I} {J : g_J} {R : g_R} {lb tx : Nat} (hR : g_rf w R lb tx) {b : Nat} (hb : g_life b) (hmI : l_ok b I) {k : Nat} {d : Int} (hd : d = 5 - (k : Int)) (hk : k < 6) (hN : C_nod w b k) : g_Met w g_n I J R yX5_readBranch cX5_readBranch 4 none (8 + 3 * k) 0 0 [(gvr w 538), (gvr w b), (gvI d)] (g_post none g_n (m_branch (m_node b k) b d I) J R) := by
  refine g_intro (own := RX5) [some (gvr w 538), some (gvr w b), some (gvI d), none] (by decide +kernel) rfl (by decide) (Nat.le_of_ble_eq_true rfl) rfl (fun i v hv => g_args 1 i v hv rfl) (fun x hc hm => ?_)
  have hb5 := hb
  unfold g_life at hb5
  have hpf := hmI.2.2.2.2.2.1 d
  have hpb := hmI.2.2.2.2.2.2.1 d
  refine g_aldn hc dX5_readBranch_0 rfl ?_
  refine g_getRk hc lk_X5_60 ca_538 (rc_538_4 hR) dX5_readBranch_1 ?_
  refine g_iload_n hc dX5_readBranch_4 rfl ?_
  refine g_iald hc ca_545 (by decide) (by omega) (by omega) dX5_readBranch_5 ?_
  refine g_iconst hc dX5_readBranch_6 ?_
  refine g_imul hc dX5_readBranch_7 ?_
  refine g_aldn hc dX5_readBranch_8 rfl ?_
  refine g_getRk hc lk_X5_63 ca_538 (rc_538_5 hR) dX5_readBranch_9 ?_
  refine g_iload_n hc dX5_readBranch_12 rfl ?_
  refine g_iald hc ca_546 (by decide) (by omega) (by omega) dX5_readBranch_13 ?_
  refine g_iadd hc dX5_readBranch_14 ?_
  obtain ⟨p, hnp⟩ : ∃ p, p = ((I 545 d) * 4) + (I 546 d) := ⟨_, rfl⟩
  rw [← hnp]
  refine g_istore_3 hc dX5_readBranch_15 rfl ?_
  have hp0 : 0 ≤ p ∧ p < 80 := by omega
  refine g_aldn hc dX5_readBranch_16 rfl ?_
  refine g_getRk hc lk_X5_57 ca_538 (rc_538_3 hR) dX5_readBranch_17 ?_
  refine g_aldn hc dX5_readBranch_20 rfl ?_
  refine g_getRk hc lk_X5_66 ca_538 (rc_538_0 hR) dX5_readBranch_21 ?_
  refine g_V1v hc (i_bran w hR hb hmI) my_X3_read mv_X3_read ca_543 rfl rfl lm_X5_108 rfl (by omega) (Nat.le_of_ble_eq_true rfl) hm dX5_readBranch_24 ?_
  generalize hMI3 : m_items 544 5 2 6 7 8 I = I3
  have hmI3 : l_ok b I3 := hMI3 ▸ m_items_ok hb hmI (by decide) (by decide) (by decide) (by decide) (by decide)
  refine g_aldn hc dX5_readBranch_27 rfl ?_
  refine g_getRk hc lk_X5_66 ca_538 (rc_538_0 hR) dX5_readBranch_28 ?_
  have hw3 : g32 (I3 1 3) := hmI3.1 _ _
  refine g_getI' hc lk_X5_162 ca_1 3 rfl dX5_readBranch_31 ?_
  refine g_iconst hc dX5_readBranch_34 ?_
  refine g_icmp_eq (tgt := 39) hc dX5_readBranch_35 (by decide) (by assumption) (by exact ⟨by decide, by decide⟩) (fun c1 => ?_) (fun c1 => ?_)
  · skip
    refine g_aldn hc dX5_readBranch_39 rfl ?_
    refine g_getRk hc lk_X5_57 ca_538 (rc_538_3 hR) dX5_readBranch_40 ?_
    refine g_getRk hc lk_X5_116 ca_543 (rc_543_4 hR) dX5_readBranch_43 ?_
    refine g_iconst hc dX5_readBranch_46 ?_
    refine g_aldn hc dX5_readBranch_47 rfl ?_
    refine g_getRk hc lk_X5_165 (la_0 hb) (rl_11 hR hb) dX5_readBranch_48 ?_
    refine g_iload_n hc dX5_readBranch_51 rfl ?_
    refine g_aaldk hc (la_46 hb) (by decide) rfl rfl (by decide) (by omega) (by omega) (rl_it hR hb (by omega) (by omega)) dX5_readBranch_52 ?_
    refine g_iconst hc dX5_readBranch_53 ?_
    refine g_aldn hc dX5_readBranch_54 rfl ?_
    refine g_getRk hc lk_X5_57 ca_538 (rc_538_3 hR) dX5_readBranch_55 ?_
    refine g_getRk hc lk_X5_116 ca_543 (rc_543_4 hR) dX5_readBranch_58 ?_
    refine g_alen hc ca_544 (by decide) dX5_readBranch_61 ?_
    refine g_copy hc ca_544 (la_it hb (by omega) (by omega)) (by decide) (by decide) rfl ac_X5_168 ac_nat ac_sta ac_ini (by omega) (by omega) (by omega) (by omega) (by omega) (by omega) (Nat.le_of_ble_eq_true rfl) dX5_readBranch_62 (fun I4 hI4 => ?_)
    have hmI4 : l_ok b I4 := by rw [hI4]; exact l_cpy hmI3 (by omega)
    refine g_aldn hc dX5_readBranch_65 rfl ?_
    refine g_getRk hc lk_X5_66 ca_538 (rc_538_0 hR) dX5_readBranch_66 ?_
    refine g_bipush hc dX5_readBranch_69 (by decide +kernel) ?_
    refine g_V1v hc (m_want w hR hmI4 (by exact ⟨by decide, by decide⟩) (by decide)) my_X8_want mv_X8_want ca_1 rfl rfl lm_X5_148 rfl (by omega) (Nat.le_of_ble_eq_true rfl) hm dX5_readBranch_71 ?_
    generalize hMI5 : m_wn 58 I4 = I5
    have hmI5 : l_ok b I5 := hMI5 ▸ m_wn_ok hb hmI4 (by decide)
    refine g_aldn hc dX5_readBranch_74 rfl ?_
    refine g_getRk hc lk_X5_174 (la_0 hb) (rl_12 hR hb) dX5_readBranch_75 ?_
    refine g_iload_n hc dX5_readBranch_78 rfl ?_
    refine g_aldn hc dX5_readBranch_79 rfl ?_
    refine g_aldn hc dX5_readBranch_80 rfl ?_
    refine g_iload_n hc dX5_readBranch_81 rfl ?_
    refine g_iconst hc dX5_readBranch_82 ?_
    refine g_iadd hc dX5_readBranch_83 ?_
    refine g_V2r hc (hN hR hmI5 (by omega)) my_X5_readNode mv_X5_readNode ca_538 rfl rfl lm_X5_84 rfl (by omega) (Nat.le_of_ble_eq_true rfl) hm dX5_readBranch_84 ?_
    obtain ⟨q1v, I6, hMq1⟩ : ∃ (z9 : Int) (m9 : g_I), m_node b k I5 = (z9, m9) := ⟨_, _, rfl⟩
    rw [hMq1]
    dsimp only
    have hmI6 : l_ok b I6 := by have z := m_node_ok hb k (by omega) _ hmI5; rw [hMq1] at z; exact z.1
    have hvq1 := m_node_ok hb k (by omega) _ hmI5
    rw [hMq1] at hvq1
    replace hvq1 := hvq1.2
    dsimp only at hvq1
    refine g_iast' hc (la_127 hb) (by decide) (by omega) (by omega)  dX5_readBranch_87 (fun I7 hI7 => ?_)
    have hmI7 : l_ok b I7 := by rw [hI7]; exact l_up hmI6 (by omega) (by exact ⟨by omega, by omega⟩)
    refine g_vret hc hm dX5_readBranch_88 ?_
    have hE : m_branch (m_node b k) b d I = I7 := by
      unfold m_branch
      rw [if_pos (show m_br1 I 1 3 = -1 by subst_vars; assumption), show m_node b k (m_br2 b (I 545 d * 4 + I 546 d) (m_br1 I)) = (q1v, I6) by rw [← hMq1]; subst_vars; rfl]
      subst_vars; rfl
    exact ⟨rfl, rfl, hE.symm, rfl, rfl⟩
  · skip
    refine g_vret hc hm dX5_readBranch_38 ?_
    exact ⟨rfl, rfl, by subst_vars; unfold m_branch; rw [if_neg (by assumption)]; rfl, rfl, rfl⟩
set_option maxHeartbeats 4000000 in
set_option maxRecDepth 100000 in
/-- X5_readFork -/
theorem s_fork (w : g_W) {I : g_I} {J : g_J} {R : g_R} {lb tx : Nat} (hR : g_rf w R lb tx) {b : Nat} (hb : g_life b) (hmI : l_ok b I) {k : Nat} {d : Int} (hd : d = 5 - (k : Int)) (hk : k < 6) (hN : C_nod w b k) (h1 : I b 1 < 20) (h3 : I 1 2 < I 1 1) : g_Met w g_n I J R yX5_readFork cX5_readFork 5 (some .int) (9 + 3 * k) 0 0 [(gvr w 538), (gvr w b), (gvI d)] (g_post (some (gvI ((m_fork (m_node b k) b d I).1))) g_n ((m_fork (m_node b k) b d I).2) J R) := by
  refine g_intro (own := RX5) [some (gvr w 538), some (gvr w b), some (gvI d), none, none] (by decide +kernel) rfl (by decide) (Nat.le_of_ble_eq_true rfl) rfl (fun i v hv => g_args 2 i v hv rfl) (fun x hc hm => ?_)
  have hb5 := hb
  unfold g_life at hb5
  have h9 := hmI.2.2.2.2.2.2.2.2
  refine g_aldn hc dX5_readFork_0 rfl ?_
  refine g_getRk hc lk_X5_66 ca_538 (rc_538_0 hR) dX5_readFork_1 ?_
  refine g_dup hc dX5_readFork_4 rfl ?_
  refine g_getI' hc lk_X5_101 ca_1 2 rfl dX5_readFork_5 ?_
  refine g_iconst hc dX5_readFork_8 ?_
  refine g_iadd hc dX5_readFork_9 ?_
  refine g_putI' hc lk_X5_101 ca_1 2 rfl dX5_readFork_10 (fun I3 hI3 => ?_)
  have hmI3 : l_ok b I3 := by rw [hI3]; exact m_adv_ok hb hmI h3
  have hMI3 : m_adv I = I3 := by rw [hI3]; first | rfl | (unfold m_fct; rw [if_pos (by assumption)]) | (unfold m_fct; rw [if_neg (by assumption)]) | (unfold m_f2; rw [if_pos (by assumption)]) | (unfold m_f2; rw [if_neg (by assumption)])
  clear hI3
  refine g_aldn hc dX5_readFork_13 rfl ?_
  refine g_getRk hc lk_X5_43 ca_538 (rc_538_2 hR) dX5_readFork_14 ?_
  refine g_aldn hc dX5_readFork_17 rfl ?_
  refine g_getRk hc lk_X5_66 ca_538 (rc_538_0 hR) dX5_readFork_18 ?_
  refine g_V1v hc (i_fork w hR hb hmI3) my_X3_read mv_X3_read ca_541 rfl rfl lm_X5_108 rfl (by omega) (Nat.le_of_ble_eq_true rfl) hm dX5_readFork_21 ?_
  generalize hMI4 : m_items 542 2 1 3 4 5 I3 = I4
  have hmI4 : l_ok b I4 := hMI4 ▸ m_items_ok hb hmI3 (by decide) (by decide) (by decide) (by decide) (by decide)
  refine g_aldn hc dX5_readFork_24 rfl ?_
  refine g_getI' hc lk_X5_76 (la_0 hb) 1 rfl dX5_readFork_25 ?_
  obtain ⟨f, hnf⟩ : ∃ f, f = I4 b 1 := ⟨_, rfl⟩
  rw [← hnf]
  refine g_istore_3 hc dX5_readFork_28 rfl ?_
  have hf0 : f = I b 1 := by subst_vars; rw [m_items_k (by omega) (by omega), m_adv_k (by omega)]
  refine g_aldn hc dX5_readFork_29 rfl ?_
  refine g_dup hc dX5_readFork_30 rfl ?_
  refine g_getI' hc lk_X5_76 (la_0 hb) 1 rfl dX5_readFork_31 ?_
  rw [show I4 b 1 = f from hnf.symm]
  refine g_iconst hc dX5_readFork_34 ?_
  refine g_iadd hc dX5_readFork_35 ?_
  refine g_putI' hc lk_X5_76 (la_0 hb) 1 rfl dX5_readFork_36 (fun I5 hI5 => ?_)
  have hmI5 : l_ok b I5 := by rw [hI5]; exact l_fk hmI4 hb (by omega)
  refine g_aldn hc dX5_readFork_39 rfl ?_
  refine g_getRk hc lk_X5_139 (la_0 hb) (rl_6 hR hb) dX5_readFork_40 ?_
  refine g_iload_n hc dX5_readFork_43 rfl ?_
  refine g_aldn hc dX5_readFork_44 rfl ?_
  refine g_getRk hc lk_X5_43 ca_538 (rc_538_2 hR) dX5_readFork_45 ?_
  refine g_getRk hc lk_X5_116 ca_541 (rc_541_4 hR) dX5_readFork_48 ?_
  refine g_iconst hc dX5_readFork_51 ?_
  refine g_iald hc ca_542 (by decide) (by omega) (by omega) dX5_readFork_52 ?_
  refine g_iast' hc (la_41 hb) (by decide) (by omega) (by omega)  dX5_readFork_53 (fun I6 hI6 => ?_)
  have hmI6 : l_ok b I6 := by rw [hI6]; exact l_up hmI5 (by omega) (hmI5.1 _ _)
  have hMI6 : m_f1 b 41 f 0 I5 = I6 := by rw [hI6]; first | rfl | (unfold m_fct; rw [if_pos (by assumption)]) | (unfold m_fct; rw [if_neg (by assumption)]) | (unfold m_f2; rw [if_pos (by assumption)]) | (unfold m_f2; rw [if_neg (by assumption)])
  clear hI6
  refine g_aldn hc dX5_readFork_54 rfl ?_
  refine g_getRk hc lk_X5_142 (la_0 hb) (rl_7 hR hb) dX5_readFork_55 ?_
  refine g_iload_n hc dX5_readFork_58 rfl ?_
  refine g_aldn hc dX5_readFork_59 rfl ?_
  refine g_getRk hc lk_X5_43 ca_538 (rc_538_2 hR) dX5_readFork_60 ?_
  refine g_getRk hc lk_X5_116 ca_541 (rc_541_4 hR) dX5_readFork_63 ?_
  refine g_iconst hc dX5_readFork_66 ?_
  refine g_iald hc ca_542 (by decide) (by omega) (by omega) dX5_readFork_67 ?_
  refine g_iast' hc (la_42 hb) (by decide) (by omega) (by omega)  dX5_readFork_68 (fun I7 hI7 => ?_)
  have hmI7 : l_ok b I7 := by rw [hI7]; exact l_up hmI6 (by omega) (hmI6.1 _ _)
  have hMI7 : m_f1 b 42 f 1 I6 = I7 := by rw [hI7]; first | rfl | (unfold m_fct; rw [if_pos (by assumption)]) | (unfold m_fct; rw [if_neg (by assumption)]) | (unfold m_f2; rw [if_pos (by assumption)]) | (unfold m_f2; rw [if_neg (by assumption)])
  clear hI7
  refine g_aldn hc dX5_readFork_69 rfl ?_
  refine g_getRk hc lk_X5_145 (la_0 hb) (rl_9 hR hb) dX5_readFork_70 ?_
  refine g_iload_n hc dX5_readFork_73 rfl ?_
  refine g_iload_n hc dX5_readFork_74 rfl ?_
  refine g_if_ne (tgt := 82) hc dX5_readFork_75 (by decide) (by first | exact hI _ _ | exact hxI2 _ _ | exact hIa _ _ | exact hIb _ _ | exact g_b32 | exact g_and32 | assumption | exact ⟨by omega, by omega⟩) (fun c1 => ?_) (fun c1 => ?_)
  · skip
    refine g_aldn hc dX5_readFork_82 rfl ?_
    refine g_getRk hc lk_X5_60 ca_538 (rc_538_4 hR) dX5_readFork_83 ?_
    refine g_iload_n hc dX5_readFork_86 rfl ?_
    refine g_iconst hc dX5_readFork_87 ?_
    refine g_isub hc dX5_readFork_88 ?_
    refine g_iald hc ca_545 (by decide) (by omega) (by omega) dX5_readFork_89 ?_
    refine g_iast' hc (la_44 hb) (by decide) (by omega) (by omega)  dX5_readFork_90 (fun I8 hI8 => ?_)
    have hmI8 : l_ok b I8 := by rw [hI8]; exact l_up hmI7 (by omega) (by first | exact hmI7.1 _ _ | exact ⟨by decide, by decide⟩)
    have hMI8 : m_f2 b d f I7 = I8 := by rw [hI8]; first | rfl | (unfold m_fct; rw [if_pos (by assumption)]) | (unfold m_fct; rw [if_neg (by assumption)]) | (unfold m_f2; rw [if_pos (by assumption)]) | (unfold m_f2; rw [if_neg (by assumption)])
    clear hI8
    refine g_aldn hc dX5_readFork_91 rfl ?_
    refine g_getRk hc lk_X5_132 (la_0 hb) (rl_10 hR hb) dX5_readFork_92 ?_
    refine g_iload_n hc dX5_readFork_95 rfl ?_
    refine g_iconst hc dX5_readFork_96 ?_
    refine g_iast' hc (la_45 hb) (by decide) (by omega) (by omega)  dX5_readFork_97 (fun I9 hI9 => ?_)
    have hmI9 : l_ok b I9 := by rw [hI9]; exact l_up hmI8 (by omega) (by first | exact hI _ _ | exact hxI2 _ _ | exact hIa _ _ | exact hIb _ _ | exact g_b32 | exact g_and32 | assumption | exact ⟨by omega, by omega⟩)
    refine g_aldn hc dX5_readFork_98 rfl ?_
    refine g_getRk hc lk_X5_66 ca_538 (rc_538_0 hR) dX5_readFork_99 ?_
    refine g_bipush hc dX5_readFork_102 (by decide +kernel) ?_
    refine g_V1v hc (m_want w hR hmI9 (by exact ⟨by decide, by decide⟩) (by decide)) my_X8_want mv_X8_want ca_1 rfl rfl lm_X5_148 rfl (by omega) (Nat.le_of_ble_eq_true rfl) hm dX5_readFork_104 ?_
    generalize hMI10 : m_wn 40 I9 = I10
    have hmI10 : l_ok b I10 := hMI10 ▸ m_wn_ok hb hmI9 (by decide)
    refine g_iconst hc dX5_readFork_107 ?_
    refine g_istore_4 hc dX5_readFork_108 rfl ?_
    have lp_110 : ∀ (fu : Nat) (i : Int) (Im : g_I), 0 ≤ i ∧ i ≤ 4 → (m_fork (m_node b k) b d I).2 = m_frl (m_node b k) b d f (4 - i).toNat i Im → l_ok b Im → 4 - i < (fu : Int) → G w x (g_post (some (gvI ((m_fork (m_node b k) b d I).1))) g_n ((m_fork (m_node b k) b d I).2) J R) 0 0 g_n Im J R 110 [some (gvr w 538), some (gvr w b), some (gvI d), some (gvI f), some (gvI i)] [] := by
      intro fu
      induction fu with
      | zero => intro i Im h4 h5 hmIm hfu; exfalso; omega
      | succ fu ih =>
        intro i Im h4 h5 hmIm hfu
        have ih_110 := ih
        refine g_iload hc dX5_readFork_110 rfl ?_
        refine g_iconst hc dX5_readFork_112 ?_
        refine g_icmp_ge (tgt := 208) hc dX5_readFork_113 (by decide) (by first | exact hI _ _ | exact hxI2 _ _ | exact hIa _ _ | exact hIb _ _ | exact g_b32 | exact g_and32 | assumption | exact ⟨by omega, by omega⟩) (by first | exact hI _ _ | exact hxI2 _ _ | exact hIa _ _ | exact hIb _ _ | exact g_b32 | exact g_and32 | assumption | exact ⟨by omega, by omega⟩) (fun c2 => ?_) (fun c2 => ?_)
        · skip
          refine g_bipush hc dX5_readFork_208 (by decide +kernel) ?_
          refine g_iload_n hc dX5_readFork_210 rfl ?_
          refine g_iadd hc dX5_readFork_211 ?_
          refine g_iret hc hm dX5_readFork_212 ?_
          have hV : 100 + f = (m_fork (m_node b k) b d I).1 := by
            rw [hf0]
            show 100 + I b 1 = 100 + m_fk1 I b 1
            unfold m_fk1
            rw [m_items_k (by omega) (by omega), m_adv_k (by omega)]
          have hE : (m_fork (m_node b k) b d I).2 = Im := by first | (exfalso; omega) | (rw [h5, show (4 - i).toNat = 0 by omega, m_frl]) | (rw [h5, show (4 - i).toNat = (4 - (i + 1)).toNat + 1 by omega, m_frl, hBR, if_pos ⟨by omega, by rw [hB1]; assumption⟩, hB1]; first | assumption | (symm; assumption)) | (rw [h5, show (4 - i).toNat = (4 - (i + 1)).toNat + 1 by omega, m_frl, hBR, if_neg (fun z => by first | omega | exact absurd z.2 (by rw [hB1]; assumption)), if_pos (by omega), hft]; first | assumption | (symm; assumption)) | (rw [h5, show (4 - i).toNat = (4 - (i + 1)).toNat + 1 by omega, m_frl, hBR, if_neg (fun z => by first | omega | exact absurd z.2 (by rw [hB1]; assumption)), if_neg (by omega), hft, if_neg (by assumption)]; subst_vars; rfl)
          exact ⟨by rw [hV], rfl, hE.symm, rfl, rfl⟩
        · skip
          refine g_aldn hc dX5_readFork_116 rfl ?_
          refine g_getRk hc lk_X5_151 (la_0 hb) (rl_8 hR hb) dX5_readFork_117 ?_
          refine g_iload_n hc dX5_readFork_120 rfl ?_
          refine g_iload hc dX5_readFork_121 rfl ?_
          refine g_iconst hc dX5_readFork_123 ?_
          refine g_iadd hc dX5_readFork_124 ?_
          refine g_iast' hc (la_43 hb) (by decide) (by omega) (by omega)  dX5_readFork_125 (fun I11 hI11 => ?_)
          have hmI11 : l_ok b I11 := by rw [hI11]; exact l_up hmIm (by omega) (by first | exact hI _ _ | exact hxI2 _ _ | exact hIa _ _ | exact hIb _ _ | exact g_b32 | exact g_and32 | assumption | exact ⟨by omega, by omega⟩)
          refine g_aldn hc dX5_readFork_126 rfl ?_
          refine g_getRk hc lk_X5_60 ca_538 (rc_538_4 hR) dX5_readFork_127 ?_
          refine g_iload_n hc dX5_readFork_130 rfl ?_
          refine g_iload_n hc dX5_readFork_131 rfl ?_
          refine g_iast' hc ca_545 (by decide) (by omega) (by omega)  dX5_readFork_132 (fun I12 hI12 => ?_)
          have hmI12 : l_ok b I12 := by rw [hI12]; exact l_pf hmI11 hb (by omega)
          refine g_aldn hc dX5_readFork_133 rfl ?_
          refine g_getRk hc lk_X5_63 ca_538 (rc_538_5 hR) dX5_readFork_134 ?_
          refine g_iload_n hc dX5_readFork_137 rfl ?_
          refine g_iload hc dX5_readFork_138 rfl ?_
          refine g_iast' hc ca_546 (by decide) (by omega) (by omega)  dX5_readFork_140 (fun I13 hI13 => ?_)
          have hmI13 : l_ok b I13 := by rw [hI13]; exact l_pb hmI12 hb (by omega)
          refine g_aldn hc dX5_readFork_141 rfl ?_
          refine g_aldn hc dX5_readFork_142 rfl ?_
          refine g_iload_n hc dX5_readFork_143 rfl ?_
          refine g_V2v hc (s_branch w hR hb hmI13 hd hk hN) my_X5_readBranch mv_X5_readBranch ca_538 rfl rfl lm_X5_154 rfl (by omega) (Nat.le_of_ble_eq_true rfl) hm dX5_readFork_144 ?_
          generalize hMI14 : m_branch (m_node b k) b d I13 = I14
          have hmI14 : l_ok b I14 := hMI14 ▸ m_branch_ok hb (m_node_ok hb k (by omega)) hmI13
          obtain ⟨B1, hB1⟩ : ∃ B1, B1 = I14 := ⟨_, rfl⟩
          have hBR : m_branch (m_node b k) b d (m_path b d f i Im) = B1 := by subst_vars; rfl
          refine g_iload hc dX5_readFork_147 rfl ?_
          refine g_if_le (tgt := 167) hc dX5_readFork_149 (by decide) (by first | exact hI _ _ | exact hxI2 _ _ | exact hIa _ _ | exact hIb _ _ | exact g_b32 | exact g_and32 | assumption | exact ⟨by omega, by omega⟩) (fun c3 => ?_) (fun c3 => ?_)
          · skip
            have hft : m_ft i B1 = I14 := by first | (rw [m_ft, if_neg (by omega)]; assumption) | (rw [m_ft, if_pos (by omega), hB1]; assumption)
            refine g_iload hc dX5_readFork_167 rfl ?_
            refine g_iconst hc dX5_readFork_169 ?_
            refine g_icmp_eq (tgt := 185) hc dX5_readFork_170 (by decide) (by first | exact hI _ _ | exact hxI2 _ _ | exact hIa _ _ | exact hIb _ _ | exact g_b32 | exact g_and32 | assumption | exact ⟨by omega, by omega⟩) (by first | exact hI _ _ | exact hxI2 _ _ | exact hIa _ _ | exact hIb _ _ | exact g_b32 | exact g_and32 | assumption | exact ⟨by omega, by omega⟩) (fun c4 => ?_) (fun c4 => ?_)
            · skip
              refine g_aldn hc dX5_readFork_185 rfl ?_
              refine g_getRk hc lk_X5_66 ca_538 (rc_538_0 hR) dX5_readFork_186 ?_
              refine g_aldn hc dX5_readFork_189 rfl ?_
              refine g_getRk hc lk_X5_66 ca_538 (rc_538_0 hR) dX5_readFork_190 ?_
              refine g_getI' hc lk_X5_101 ca_1 2 rfl dX5_readFork_193 ?_
              refine g_V1v hc (m_failAt w hR hmI14 (by first | (rw [← hMI14]; first | exact m_sk_fx (b := b) (by assumption) | exact m_tk_fx (b := b) (by assumption) (by assumption)) | (exfalso; omega))) my_X8_failAt mv_X8_failAt ca_1 rfl rfl lm_X5_104 rfl (by omega) (Nat.le_of_ble_eq_true rfl) hm dX5_readFork_196 ?_
              generalize hMI15 : m_fl I14 = I15
              have hmI15 : l_ok b I15 := hMI15 ▸ m_fl_ok hb hmI14
              refine g_goto (tgt := 208) hc dX5_readFork_199 (by decide) ?_
              refine g_bipush hc dX5_readFork_208 (by decide +kernel) ?_
              refine g_iload_n hc dX5_readFork_210 rfl ?_
              refine g_iadd hc dX5_readFork_211 ?_
              refine g_iret hc hm dX5_readFork_212 ?_
              have hV : 100 + f = (m_fork (m_node b k) b d I).1 := by
                rw [hf0]
                show 100 + I b 1 = 100 + m_fk1 I b 1
                unfold m_fk1
                rw [m_items_k (by omega) (by omega), m_adv_k (by omega)]
              have hE : (m_fork (m_node b k) b d I).2 = I15 := by first | (exfalso; omega) | (rw [h5, show (4 - i).toNat = 0 by omega, m_frl]) | (rw [h5, show (4 - i).toNat = (4 - (i + 1)).toNat + 1 by omega, m_frl, hBR, if_pos ⟨by omega, by rw [hB1]; assumption⟩, hB1]; first | assumption | (symm; assumption)) | (rw [h5, show (4 - i).toNat = (4 - (i + 1)).toNat + 1 by omega, m_frl, hBR, if_neg (fun z => by first | omega | exact absurd z.2 (by rw [hB1]; assumption)), if_pos (by omega), hft]; first | assumption | (symm; assumption)) | (rw [h5, show (4 - i).toNat = (4 - (i + 1)).toNat + 1 by omega, m_frl, hBR, if_neg (fun z => by first | omega | exact absurd z.2 (by rw [hB1]; assumption)), if_neg (by omega), hft, if_neg (by assumption)]; subst_vars; rfl)
              exact ⟨by rw [hV], rfl, hE.symm, rfl, rfl⟩
            · skip
              refine g_aldn hc dX5_readFork_173 rfl ?_
              refine g_getRk hc lk_X5_66 ca_538 (rc_538_0 hR) dX5_readFork_174 ?_
              refine g_bipush hc dX5_readFork_177 (by decide +kernel) ?_
              refine g_V1r hc (m_takes w hR hmI14 (by exact ⟨by decide, by decide⟩)) my_X8_takes mv_X8_takes ca_1 rfl rfl lm_X5_158 rfl (by omega) (Nat.le_of_ble_eq_true rfl) hm dX5_readFork_179 ?_
              generalize hMI16 : m_tk 59 I14 = I16
              have hmI16 : l_ok b I16 := hMI16 ▸ m_tk_ok hb hmI14 (by decide)
              refine g_ifb_ne (tgt := 202) hc dX5_readFork_182 (by decide)  (fun c5 => ?_) (fun c5 => ?_)
              · skip
                refine g_iinc_4 hc dX5_readFork_202 rfl ?_
                refine g_goto (tgt := 110) hc dX5_readFork_205 (by decide) ?_
                refine ih_110 _ _ ?_ ?_ ?_ ?_
                · omega
                · rw [h5, show (4 - i).toNat = (4 - (i + 1)).toNat + 1 by omega, m_frl, hBR, if_neg (fun z => by first | omega | exact absurd z.2 (by rw [hB1]; assumption)), if_neg (by omega), hft, if_pos (by assumption)]; congr 1
                · exact hmI16
                · omega
              · skip
                refine g_aldn hc dX5_readFork_185 rfl ?_
                refine g_getRk hc lk_X5_66 ca_538 (rc_538_0 hR) dX5_readFork_186 ?_
                refine g_aldn hc dX5_readFork_189 rfl ?_
                refine g_getRk hc lk_X5_66 ca_538 (rc_538_0 hR) dX5_readFork_190 ?_
                refine g_getI' hc lk_X5_101 ca_1 2 rfl dX5_readFork_193 ?_
                refine g_V1v hc (m_failAt w hR hmI16 (by first | (rw [← hMI16]; first | exact m_sk_fx (b := b) (by assumption) | exact m_tk_fx (b := b) (by assumption) (by assumption)) | (exfalso; omega))) my_X8_failAt mv_X8_failAt ca_1 rfl rfl lm_X5_104 rfl (by omega) (Nat.le_of_ble_eq_true rfl) hm dX5_readFork_196 ?_
                generalize hMI17 : m_fl I16 = I17
                have hmI17 : l_ok b I17 := hMI17 ▸ m_fl_ok hb hmI16
                refine g_goto (tgt := 208) hc dX5_readFork_199 (by decide) ?_
                refine g_bipush hc dX5_readFork_208 (by decide +kernel) ?_
                refine g_iload_n hc dX5_readFork_210 rfl ?_
                refine g_iadd hc dX5_readFork_211 ?_
                refine g_iret hc hm dX5_readFork_212 ?_
                have hV : 100 + f = (m_fork (m_node b k) b d I).1 := by
                  rw [hf0]
                  show 100 + I b 1 = 100 + m_fk1 I b 1
                  unfold m_fk1
                  rw [m_items_k (by omega) (by omega), m_adv_k (by omega)]
                have hE : (m_fork (m_node b k) b d I).2 = I17 := by first | (exfalso; omega) | (rw [h5, show (4 - i).toNat = 0 by omega, m_frl]) | (rw [h5, show (4 - i).toNat = (4 - (i + 1)).toNat + 1 by omega, m_frl, hBR, if_pos ⟨by omega, by rw [hB1]; assumption⟩, hB1]; first | assumption | (symm; assumption)) | (rw [h5, show (4 - i).toNat = (4 - (i + 1)).toNat + 1 by omega, m_frl, hBR, if_neg (fun z => by first | omega | exact absurd z.2 (by rw [hB1]; assumption)), if_pos (by omega), hft]; first | assumption | (symm; assumption)) | (rw [h5, show (4 - i).toNat = (4 - (i + 1)).toNat + 1 by omega, m_frl, hBR, if_neg (fun z => by first | omega | exact absurd z.2 (by rw [hB1]; assumption)), if_neg (by omega), hft, if_neg (by assumption)]; subst_vars; rfl)
                exact ⟨by rw [hV], rfl, hE.symm, rfl, rfl⟩
          · skip
            refine g_aldn hc dX5_readFork_152 rfl ?_
            refine g_getRk hc lk_X5_66 ca_538 (rc_538_0 hR) dX5_readFork_153 ?_
            refine g_bipush hc dX5_readFork_156 (by decide +kernel) ?_
            refine g_V1r hc (m_takes w hR hmI14 (by exact ⟨by decide, by decide⟩)) my_X8_takes mv_X8_takes ca_1 rfl rfl lm_X5_158 rfl (by omega) (Nat.le_of_ble_eq_true rfl) hm dX5_readFork_158 ?_
            generalize hMI18 : m_tk 41 I14 = I18
            have hmI18 : l_ok b I18 := hMI18 ▸ m_tk_ok hb hmI14 (by decide)
            refine g_ifb_eq (tgt := 167) hc dX5_readFork_161 (by decide)  (fun c6 => ?_) (fun c6 => ?_)
            · skip
              have hft : m_ft i B1 = I18 := by first | (rw [m_ft, if_neg (by omega)]; assumption) | (rw [m_ft, if_pos (by omega), hB1]; assumption)
              refine g_iload hc dX5_readFork_167 rfl ?_
              refine g_iconst hc dX5_readFork_169 ?_
              refine g_icmp_eq (tgt := 185) hc dX5_readFork_170 (by decide) (by first | exact hI _ _ | exact hxI2 _ _ | exact hIa _ _ | exact hIb _ _ | exact g_b32 | exact g_and32 | assumption | exact ⟨by omega, by omega⟩) (by first | exact hI _ _ | exact hxI2 _ _ | exact hIa _ _ | exact hIb _ _ | exact g_b32 | exact g_and32 | assumption | exact ⟨by omega, by omega⟩) (fun c7 => ?_) (fun c7 => ?_)
              · skip
                refine g_aldn hc dX5_readFork_185 rfl ?_
                refine g_getRk hc lk_X5_66 ca_538 (rc_538_0 hR) dX5_readFork_186 ?_
                refine g_aldn hc dX5_readFork_189 rfl ?_
                refine g_getRk hc lk_X5_66 ca_538 (rc_538_0 hR) dX5_readFork_190 ?_
                refine g_getI' hc lk_X5_101 ca_1 2 rfl dX5_readFork_193 ?_
                refine g_V1v hc (m_failAt w hR hmI18 (by first | (rw [← hMI18]; first | exact m_sk_fx (b := b) (by assumption) | exact m_tk_fx (b := b) (by assumption) (by assumption)) | (exfalso; omega))) my_X8_failAt mv_X8_failAt ca_1 rfl rfl lm_X5_104 rfl (by omega) (Nat.le_of_ble_eq_true rfl) hm dX5_readFork_196 ?_
                generalize hMI19 : m_fl I18 = I19
                have hmI19 : l_ok b I19 := hMI19 ▸ m_fl_ok hb hmI18
                refine g_goto (tgt := 208) hc dX5_readFork_199 (by decide) ?_
                refine g_bipush hc dX5_readFork_208 (by decide +kernel) ?_
                refine g_iload_n hc dX5_readFork_210 rfl ?_
                refine g_iadd hc dX5_readFork_211 ?_
                refine g_iret hc hm dX5_readFork_212 ?_
                have hV : 100 + f = (m_fork (m_node b k) b d I).1 := by
                  rw [hf0]
                  show 100 + I b 1 = 100 + m_fk1 I b 1
                  unfold m_fk1
                  rw [m_items_k (by omega) (by omega), m_adv_k (by omega)]
                have hE : (m_fork (m_node b k) b d I).2 = I19 := by first | (exfalso; omega) | (rw [h5, show (4 - i).toNat = 0 by omega, m_frl]) | (rw [h5, show (4 - i).toNat = (4 - (i + 1)).toNat + 1 by omega, m_frl, hBR, if_pos ⟨by omega, by rw [hB1]; assumption⟩, hB1]; first | assumption | (symm; assumption)) | (rw [h5, show (4 - i).toNat = (4 - (i + 1)).toNat + 1 by omega, m_frl, hBR, if_neg (fun z => by first | omega | exact absurd z.2 (by rw [hB1]; assumption)), if_pos (by omega), hft]; first | assumption | (symm; assumption)) | (rw [h5, show (4 - i).toNat = (4 - (i + 1)).toNat + 1 by omega, m_frl, hBR, if_neg (fun z => by first | omega | exact absurd z.2 (by rw [hB1]; assumption)), if_neg (by omega), hft, if_neg (by assumption)]; subst_vars; rfl)
                exact ⟨by rw [hV], rfl, hE.symm, rfl, rfl⟩
              · skip
                refine g_aldn hc dX5_readFork_173 rfl ?_
                refine g_getRk hc lk_X5_66 ca_538 (rc_538_0 hR) dX5_readFork_174 ?_
                refine g_bipush hc dX5_readFork_177 (by decide +kernel) ?_
                refine g_V1r hc (m_takes w hR hmI18 (by exact ⟨by decide, by decide⟩)) my_X8_takes mv_X8_takes ca_1 rfl rfl lm_X5_158 rfl (by omega) (Nat.le_of_ble_eq_true rfl) hm dX5_readFork_179 ?_
                generalize hMI20 : m_tk 59 I18 = I20
                have hmI20 : l_ok b I20 := hMI20 ▸ m_tk_ok hb hmI18 (by decide)
                refine g_ifb_ne (tgt := 202) hc dX5_readFork_182 (by decide)  (fun c8 => ?_) (fun c8 => ?_)
                · skip
                  refine g_iinc_4 hc dX5_readFork_202 rfl ?_
                  refine g_goto (tgt := 110) hc dX5_readFork_205 (by decide) ?_
                  refine ih_110 _ _ ?_ ?_ ?_ ?_
                  · omega
                  · rw [h5, show (4 - i).toNat = (4 - (i + 1)).toNat + 1 by omega, m_frl, hBR, if_neg (fun z => by first | omega | exact absurd z.2 (by rw [hB1]; assumption)), if_neg (by omega), hft, if_pos (by assumption)]; congr 1
                  · exact hmI20
                  · omega
                · skip
                  refine g_aldn hc dX5_readFork_185 rfl ?_
                  refine g_getRk hc lk_X5_66 ca_538 (rc_538_0 hR) dX5_readFork_186 ?_
                  refine g_aldn hc dX5_readFork_189 rfl ?_
                  refine g_getRk hc lk_X5_66 ca_538 (rc_538_0 hR) dX5_readFork_190 ?_
                  refine g_getI' hc lk_X5_101 ca_1 2 rfl dX5_readFork_193 ?_
                  refine g_V1v hc (m_failAt w hR hmI20 (by first | (rw [← hMI20]; first | exact m_sk_fx (b := b) (by assumption) | exact m_tk_fx (b := b) (by assumption) (by assumption)) | (exfalso; omega))) my_X8_failAt mv_X8_failAt ca_1 rfl rfl lm_X5_104 rfl (by omega) (Nat.le_of_ble_eq_true rfl) hm dX5_readFork_196 ?_
                  generalize hMI21 : m_fl I20 = I21
                  have hmI21 : l_ok b I21 := hMI21 ▸ m_fl_ok hb hmI20
                  refine g_goto (tgt := 208) hc dX5_readFork_199 (by decide) ?_
                  refine g_bipush hc dX5_readFork_208 (by decide +kernel) ?_
                  refine g_iload_n hc dX5_readFork_210 rfl ?_
                  refine g_iadd hc dX5_readFork_211 ?_
                  refine g_iret hc hm dX5_readFork_212 ?_
                  have hV : 100 + f = (m_fork (m_node b k) b d I).1 := by
                    rw [hf0]
                    show 100 + I b 1 = 100 + m_fk1 I b 1
                    unfold m_fk1
                    rw [m_items_k (by omega) (by omega), m_adv_k (by omega)]
                  have hE : (m_fork (m_node b k) b d I).2 = I21 := by first | (exfalso; omega) | (rw [h5, show (4 - i).toNat = 0 by omega, m_frl]) | (rw [h5, show (4 - i).toNat = (4 - (i + 1)).toNat + 1 by omega, m_frl, hBR, if_pos ⟨by omega, by rw [hB1]; assumption⟩, hB1]; first | assumption | (symm; assumption)) | (rw [h5, show (4 - i).toNat = (4 - (i + 1)).toNat + 1 by omega, m_frl, hBR, if_neg (fun z => by first | omega | exact absurd z.2 (by rw [hB1]; assumption)), if_pos (by omega), hft]; first | assumption | (symm; assumption)) | (rw [h5, show (4 - i).toNat = (4 - (i + 1)).toNat + 1 by omega, m_frl, hBR, if_neg (fun z => by first | omega | exact absurd z.2 (by rw [hB1]; assumption)), if_neg (by omega), hft, if_neg (by assumption)]; subst_vars; rfl)
                  exact ⟨by rw [hV], rfl, hE.symm, rfl, rfl⟩
            · skip
              refine g_goto (tgt := 208) hc dX5_readFork_164 (by decide) ?_
              refine g_bipush hc dX5_readFork_208 (by decide +kernel) ?_
              refine g_iload_n hc dX5_readFork_210 rfl ?_
              refine g_iadd hc dX5_readFork_211 ?_
              refine g_iret hc hm dX5_readFork_212 ?_
              have hV : 100 + f = (m_fork (m_node b k) b d I).1 := by
                rw [hf0]
                show 100 + I b 1 = 100 + m_fk1 I b 1
                unfold m_fk1
                rw [m_items_k (by omega) (by omega), m_adv_k (by omega)]
              have hE : (m_fork (m_node b k) b d I).2 = I18 := by first | (exfalso; omega) | (rw [h5, show (4 - i).toNat = 0 by omega, m_frl]) | (rw [h5, show (4 - i).toNat = (4 - (i + 1)).toNat + 1 by omega, m_frl, hBR, if_pos ⟨by omega, by rw [hB1]; assumption⟩, hB1]; first | assumption | (symm; assumption)) | (rw [h5, show (4 - i).toNat = (4 - (i + 1)).toNat + 1 by omega, m_frl, hBR, if_neg (fun z => by first | omega | exact absurd z.2 (by rw [hB1]; assumption)), if_pos (by omega), hft]; first | assumption | (symm; assumption)) | (rw [h5, show (4 - i).toNat = (4 - (i + 1)).toNat + 1 by omega, m_frl, hBR, if_neg (fun z => by first | omega | exact absurd z.2 (by rw [hB1]; assumption)), if_neg (by omega), hft, if_neg (by assumption)]; subst_vars; rfl)
              exact ⟨by rw [hV], rfl, hE.symm, rfl, rfl⟩
    refine lp_110 5 _ _ ?_ ?_ ?_ (?_)
    · omega
    · clear hf0; subst_vars; rfl
    · exact hmI10
    · omega
  · skip
    refine g_iconst hc dX5_readFork_78 ?_
    refine g_goto (tgt := 90) hc dX5_readFork_79 (by decide) ?_
    refine g_iast' hc (la_44 hb) (by decide) (by omega) (by omega)  dX5_readFork_90 (fun I22 hI22 => ?_)
    have hmI22 : l_ok b I22 := by rw [hI22]; exact l_up hmI7 (by omega) (by first | exact hmI7.1 _ _ | exact ⟨by decide, by decide⟩)
    have hMI22 : m_f2 b d f I7 = I22 := by rw [hI22]; first | rfl | (unfold m_fct; rw [if_pos (by assumption)]) | (unfold m_fct; rw [if_neg (by assumption)]) | (unfold m_f2; rw [if_pos (by assumption)]) | (unfold m_f2; rw [if_neg (by assumption)])
    clear hI22
    refine g_aldn hc dX5_readFork_91 rfl ?_
    refine g_getRk hc lk_X5_132 (la_0 hb) (rl_10 hR hb) dX5_readFork_92 ?_
    refine g_iload_n hc dX5_readFork_95 rfl ?_
    refine g_iconst hc dX5_readFork_96 ?_
    refine g_iast' hc (la_45 hb) (by decide) (by omega) (by omega)  dX5_readFork_97 (fun I23 hI23 => ?_)
    have hmI23 : l_ok b I23 := by rw [hI23]; exact l_up hmI22 (by omega) (by first | exact hI _ _ | exact hxI2 _ _ | exact hIa _ _ | exact hIb _ _ | exact g_b32 | exact g_and32 | assumption | exact ⟨by omega, by omega⟩)
    refine g_aldn hc dX5_readFork_98 rfl ?_
    refine g_getRk hc lk_X5_66 ca_538 (rc_538_0 hR) dX5_readFork_99 ?_
    refine g_bipush hc dX5_readFork_102 (by decide +kernel) ?_
    refine g_V1v hc (m_want w hR hmI23 (by exact ⟨by decide, by decide⟩) (by decide)) my_X8_want mv_X8_want ca_1 rfl rfl lm_X5_148 rfl (by omega) (Nat.le_of_ble_eq_true rfl) hm dX5_readFork_104 ?_
    generalize hMI24 : m_wn 40 I23 = I24
    have hmI24 : l_ok b I24 := hMI24 ▸ m_wn_ok hb hmI23 (by decide)
    refine g_iconst hc dX5_readFork_107 ?_
    refine g_istore_4 hc dX5_readFork_108 rfl ?_
    have lp_110 : ∀ (fu : Nat) (i : Int) (Im : g_I), 0 ≤ i ∧ i ≤ 4 → (m_fork (m_node b k) b d I).2 = m_frl (m_node b k) b d f (4 - i).toNat i Im → l_ok b Im → 4 - i < (fu : Int) → G w x (g_post (some (gvI ((m_fork (m_node b k) b d I).1))) g_n ((m_fork (m_node b k) b d I).2) J R) 0 0 g_n Im J R 110 [some (gvr w 538), some (gvr w b), some (gvI d), some (gvI f), some (gvI i)] [] := by
      intro fu
      induction fu with
      | zero => intro i Im h4 h5 hmIm hfu; exfalso; omega
      | succ fu ih =>
        intro i Im h4 h5 hmIm hfu
        have ih_110 := ih
        refine g_iload hc dX5_readFork_110 rfl ?_
        refine g_iconst hc dX5_readFork_112 ?_
        refine g_icmp_ge (tgt := 208) hc dX5_readFork_113 (by decide) (by first | exact hI _ _ | exact hxI2 _ _ | exact hIa _ _ | exact hIb _ _ | exact g_b32 | exact g_and32 | assumption | exact ⟨by omega, by omega⟩) (by first | exact hI _ _ | exact hxI2 _ _ | exact hIa _ _ | exact hIb _ _ | exact g_b32 | exact g_and32 | assumption | exact ⟨by omega, by omega⟩) (fun c9 => ?_) (fun c9 => ?_)
        · skip
          refine g_bipush hc dX5_readFork_208 (by decide +kernel) ?_
          refine g_iload_n hc dX5_readFork_210 rfl ?_
          refine g_iadd hc dX5_readFork_211 ?_
          refine g_iret hc hm dX5_readFork_212 ?_
          have hV : 100 + f = (m_fork (m_node b k) b d I).1 := by
            rw [hf0]
            show 100 + I b 1 = 100 + m_fk1 I b 1
            unfold m_fk1
            rw [m_items_k (by omega) (by omega), m_adv_k (by omega)]
          have hE : (m_fork (m_node b k) b d I).2 = Im := by first | (exfalso; omega) | (rw [h5, show (4 - i).toNat = 0 by omega, m_frl]) | (rw [h5, show (4 - i).toNat = (4 - (i + 1)).toNat + 1 by omega, m_frl, hBR, if_pos ⟨by omega, by rw [hB1]; assumption⟩, hB1]; first | assumption | (symm; assumption)) | (rw [h5, show (4 - i).toNat = (4 - (i + 1)).toNat + 1 by omega, m_frl, hBR, if_neg (fun z => by first | omega | exact absurd z.2 (by rw [hB1]; assumption)), if_pos (by omega), hft]; first | assumption | (symm; assumption)) | (rw [h5, show (4 - i).toNat = (4 - (i + 1)).toNat + 1 by omega, m_frl, hBR, if_neg (fun z => by first | omega | exact absurd z.2 (by rw [hB1]; assumption)), if_neg (by omega), hft, if_neg (by assumption)]; subst_vars; rfl)
          exact ⟨by rw [hV], rfl, hE.symm, rfl, rfl⟩
        · skip
          refine g_aldn hc dX5_readFork_116 rfl ?_
          refine g_getRk hc lk_X5_151 (la_0 hb) (rl_8 hR hb) dX5_readFork_117 ?_
          refine g_iload_n hc dX5_readFork_120 rfl ?_
          refine g_iload hc dX5_readFork_121 rfl ?_
          refine g_iconst hc dX5_readFork_123 ?_
          refine g_iadd hc dX5_readFork_124 ?_
          refine g_iast' hc (la_43 hb) (by decide) (by omega) (by omega)  dX5_readFork_125 (fun I25 hI25 => ?_)
          have hmI25 : l_ok b I25 := by rw [hI25]; exact l_up hmIm (by omega) (by first | exact hI _ _ | exact hxI2 _ _ | exact hIa _ _ | exact hIb _ _ | exact g_b32 | exact g_and32 | assumption | exact ⟨by omega, by omega⟩)
          refine g_aldn hc dX5_readFork_126 rfl ?_
          refine g_getRk hc lk_X5_60 ca_538 (rc_538_4 hR) dX5_readFork_127 ?_
          refine g_iload_n hc dX5_readFork_130 rfl ?_
          refine g_iload_n hc dX5_readFork_131 rfl ?_
          refine g_iast' hc ca_545 (by decide) (by omega) (by omega)  dX5_readFork_132 (fun I26 hI26 => ?_)
          have hmI26 : l_ok b I26 := by rw [hI26]; exact l_pf hmI25 hb (by omega)
          refine g_aldn hc dX5_readFork_133 rfl ?_
          refine g_getRk hc lk_X5_63 ca_538 (rc_538_5 hR) dX5_readFork_134 ?_
          refine g_iload_n hc dX5_readFork_137 rfl ?_
          refine g_iload hc dX5_readFork_138 rfl ?_
          refine g_iast' hc ca_546 (by decide) (by omega) (by omega)  dX5_readFork_140 (fun I27 hI27 => ?_)
          have hmI27 : l_ok b I27 := by rw [hI27]; exact l_pb hmI26 hb (by omega)
          refine g_aldn hc dX5_readFork_141 rfl ?_
          refine g_aldn hc dX5_readFork_142 rfl ?_
          refine g_iload_n hc dX5_readFork_143 rfl ?_
          refine g_V2v hc (s_branch w hR hb hmI27 hd hk hN) my_X5_readBranch mv_X5_readBranch ca_538 rfl rfl lm_X5_154 rfl (by omega) (Nat.le_of_ble_eq_true rfl) hm dX5_readFork_144 ?_
          generalize hMI28 : m_branch (m_node b k) b d I27 = I28
          have hmI28 : l_ok b I28 := hMI28 ▸ m_branch_ok hb (m_node_ok hb k (by omega)) hmI27
          obtain ⟨B1, hB1⟩ : ∃ B1, B1 = I28 := ⟨_, rfl⟩
          have hBR : m_branch (m_node b k) b d (m_path b d f i Im) = B1 := by subst_vars; rfl
          refine g_iload hc dX5_readFork_147 rfl ?_
          refine g_if_le (tgt := 167) hc dX5_readFork_149 (by decide) (by first | exact hI _ _ | exact hxI2 _ _ | exact hIa _ _ | exact hIb _ _ | exact g_b32 | exact g_and32 | assumption | exact ⟨by omega, by omega⟩) (fun c10 => ?_) (fun c10 => ?_)
          · skip
            have hft : m_ft i B1 = I28 := by first | (rw [m_ft, if_neg (by omega)]; assumption) | (rw [m_ft, if_pos (by omega), hB1]; assumption)
            refine g_iload hc dX5_readFork_167 rfl ?_
            refine g_iconst hc dX5_readFork_169 ?_
            refine g_icmp_eq (tgt := 185) hc dX5_readFork_170 (by decide) (by first | exact hI _ _ | exact hxI2 _ _ | exact hIa _ _ | exact hIb _ _ | exact g_b32 | exact g_and32 | assumption | exact ⟨by omega, by omega⟩) (by first | exact hI _ _ | exact hxI2 _ _ | exact hIa _ _ | exact hIb _ _ | exact g_b32 | exact g_and32 | assumption | exact ⟨by omega, by omega⟩) (fun c11 => ?_) (fun c11 => ?_)
            · skip
              refine g_aldn hc dX5_readFork_185 rfl ?_
              refine g_getRk hc lk_X5_66 ca_538 (rc_538_0 hR) dX5_readFork_186 ?_
              refine g_aldn hc dX5_readFork_189 rfl ?_
              refine g_getRk hc lk_X5_66 ca_538 (rc_538_0 hR) dX5_readFork_190 ?_
              refine g_getI' hc lk_X5_101 ca_1 2 rfl dX5_readFork_193 ?_
              refine g_V1v hc (m_failAt w hR hmI28 (by first | (rw [← hMI28]; first | exact m_sk_fx (b := b) (by assumption) | exact m_tk_fx (b := b) (by assumption) (by assumption)) | (exfalso; omega))) my_X8_failAt mv_X8_failAt ca_1 rfl rfl lm_X5_104 rfl (by omega) (Nat.le_of_ble_eq_true rfl) hm dX5_readFork_196 ?_
              generalize hMI29 : m_fl I28 = I29
              have hmI29 : l_ok b I29 := hMI29 ▸ m_fl_ok hb hmI28
              refine g_goto (tgt := 208) hc dX5_readFork_199 (by decide) ?_
              refine g_bipush hc dX5_readFork_208 (by decide +kernel) ?_
              refine g_iload_n hc dX5_readFork_210 rfl ?_
              refine g_iadd hc dX5_readFork_211 ?_
              refine g_iret hc hm dX5_readFork_212 ?_
              have hV : 100 + f = (m_fork (m_node b k) b d I).1 := by
                rw [hf0]
                show 100 + I b 1 = 100 + m_fk1 I b 1
                unfold m_fk1
                rw [m_items_k (by omega) (by omega), m_adv_k (by omega)]
              have hE : (m_fork (m_node b k) b d I).2 = I29 := by first | (exfalso; omega) | (rw [h5, show (4 - i).toNat = 0 by omega, m_frl]) | (rw [h5, show (4 - i).toNat = (4 - (i + 1)).toNat + 1 by omega, m_frl, hBR, if_pos ⟨by omega, by rw [hB1]; assumption⟩, hB1]; first | assumption | (symm; assumption)) | (rw [h5, show (4 - i).toNat = (4 - (i + 1)).toNat + 1 by omega, m_frl, hBR, if_neg (fun z => by first | omega | exact absurd z.2 (by rw [hB1]; assumption)), if_pos (by omega), hft]; first | assumption | (symm; assumption)) | (rw [h5, show (4 - i).toNat = (4 - (i + 1)).toNat + 1 by omega, m_frl, hBR, if_neg (fun z => by first | omega | exact absurd z.2 (by rw [hB1]; assumption)), if_neg (by omega), hft, if_neg (by assumption)]; subst_vars; rfl)
              exact ⟨by rw [hV], rfl, hE.symm, rfl, rfl⟩
            · skip
              refine g_aldn hc dX5_readFork_173 rfl ?_
              refine g_getRk hc lk_X5_66 ca_538 (rc_538_0 hR) dX5_readFork_174 ?_
              refine g_bipush hc dX5_readFork_177 (by decide +kernel) ?_
              refine g_V1r hc (m_takes w hR hmI28 (by exact ⟨by decide, by decide⟩)) my_X8_takes mv_X8_takes ca_1 rfl rfl lm_X5_158 rfl (by omega) (Nat.le_of_ble_eq_true rfl) hm dX5_readFork_179 ?_
              generalize hMI30 : m_tk 59 I28 = I30
              have hmI30 : l_ok b I30 := hMI30 ▸ m_tk_ok hb hmI28 (by decide)
              refine g_ifb_ne (tgt := 202) hc dX5_readFork_182 (by decide)  (fun c12 => ?_) (fun c12 => ?_)
              · skip
                refine g_iinc_4 hc dX5_readFork_202 rfl ?_
                refine g_goto (tgt := 110) hc dX5_readFork_205 (by decide) ?_
                refine ih_110 _ _ ?_ ?_ ?_ ?_
                · omega
                · rw [h5, show (4 - i).toNat = (4 - (i + 1)).toNat + 1 by omega, m_frl, hBR, if_neg (fun z => by first | omega | exact absurd z.2 (by rw [hB1]; assumption)), if_neg (by omega), hft, if_pos (by assumption)]; congr 1
                · exact hmI30
                · omega
              · skip
                refine g_aldn hc dX5_readFork_185 rfl ?_
                refine g_getRk hc lk_X5_66 ca_538 (rc_538_0 hR) dX5_readFork_186 ?_
                refine g_aldn hc dX5_readFork_189 rfl ?_
                refine g_getRk hc lk_X5_66 ca_538 (rc_538_0 hR) dX5_readFork_190 ?_
                refine g_getI' hc lk_X5_101 ca_1 2 rfl dX5_readFork_193 ?_
                refine g_V1v hc (m_failAt w hR hmI30 (by first | (rw [← hMI30]; first | exact m_sk_fx (b := b) (by assumption) | exact m_tk_fx (b := b) (by assumption) (by assumption)) | (exfalso; omega))) my_X8_failAt mv_X8_failAt ca_1 rfl rfl lm_X5_104 rfl (by omega) (Nat.le_of_ble_eq_true rfl) hm dX5_readFork_196 ?_
                generalize hMI31 : m_fl I30 = I31
                have hmI31 : l_ok b I31 := hMI31 ▸ m_fl_ok hb hmI30
                refine g_goto (tgt := 208) hc dX5_readFork_199 (by decide) ?_
                refine g_bipush hc dX5_readFork_208 (by decide +kernel) ?_
                refine g_iload_n hc dX5_readFork_210 rfl ?_
                refine g_iadd hc dX5_readFork_211 ?_
                refine g_iret hc hm dX5_readFork_212 ?_
                have hV : 100 + f = (m_fork (m_node b k) b d I).1 := by
                  rw [hf0]
                  show 100 + I b 1 = 100 + m_fk1 I b 1
                  unfold m_fk1
                  rw [m_items_k (by omega) (by omega), m_adv_k (by omega)]
                have hE : (m_fork (m_node b k) b d I).2 = I31 := by first | (exfalso; omega) | (rw [h5, show (4 - i).toNat = 0 by omega, m_frl]) | (rw [h5, show (4 - i).toNat = (4 - (i + 1)).toNat + 1 by omega, m_frl, hBR, if_pos ⟨by omega, by rw [hB1]; assumption⟩, hB1]; first | assumption | (symm; assumption)) | (rw [h5, show (4 - i).toNat = (4 - (i + 1)).toNat + 1 by omega, m_frl, hBR, if_neg (fun z => by first | omega | exact absurd z.2 (by rw [hB1]; assumption)), if_pos (by omega), hft]; first | assumption | (symm; assumption)) | (rw [h5, show (4 - i).toNat = (4 - (i + 1)).toNat + 1 by omega, m_frl, hBR, if_neg (fun z => by first | omega | exact absurd z.2 (by rw [hB1]; assumption)), if_neg (by omega), hft, if_neg (by assumption)]; subst_vars; rfl)
                exact ⟨by rw [hV], rfl, hE.symm, rfl, rfl⟩
          · skip
            refine g_aldn hc dX5_readFork_152 rfl ?_
            refine g_getRk hc lk_X5_66 ca_538 (rc_538_0 hR) dX5_readFork_153 ?_
            refine g_bipush hc dX5_readFork_156 (by decide +kernel) ?_
            refine g_V1r hc (m_takes w hR hmI28 (by exact ⟨by decide, by decide⟩)) my_X8_takes mv_X8_takes ca_1 rfl rfl lm_X5_158 rfl (by omega) (Nat.le_of_ble_eq_true rfl) hm dX5_readFork_158 ?_
            generalize hMI32 : m_tk 41 I28 = I32
            have hmI32 : l_ok b I32 := hMI32 ▸ m_tk_ok hb hmI28 (by decide)
            refine g_ifb_eq (tgt := 167) hc dX5_readFork_161 (by decide)  (fun c13 => ?_) (fun c13 => ?_)
            · skip
              have hft : m_ft i B1 = I32 := by first | (rw [m_ft, if_neg (by omega)]; assumption) | (rw [m_ft, if_pos (by omega), hB1]; assumption)
              refine g_iload hc dX5_readFork_167 rfl ?_
              refine g_iconst hc dX5_readFork_169 ?_
              refine g_icmp_eq (tgt := 185) hc dX5_readFork_170 (by decide) (by first | exact hI _ _ | exact hxI2 _ _ | exact hIa _ _ | exact hIb _ _ | exact g_b32 | exact g_and32 | assumption | exact ⟨by omega, by omega⟩) (by first | exact hI _ _ | exact hxI2 _ _ | exact hIa _ _ | exact hIb _ _ | exact g_b32 | exact g_and32 | assumption | exact ⟨by omega, by omega⟩) (fun c14 => ?_) (fun c14 => ?_)
              · skip
                refine g_aldn hc dX5_readFork_185 rfl ?_
                refine g_getRk hc lk_X5_66 ca_538 (rc_538_0 hR) dX5_readFork_186 ?_
                refine g_aldn hc dX5_readFork_189 rfl ?_
                refine g_getRk hc lk_X5_66 ca_538 (rc_538_0 hR) dX5_readFork_190 ?_
                refine g_getI' hc lk_X5_101 ca_1 2 rfl dX5_readFork_193 ?_
                refine g_V1v hc (m_failAt w hR hmI32 (by first | (rw [← hMI32]; first | exact m_sk_fx (b := b) (by assumption) | exact m_tk_fx (b := b) (by assumption) (by assumption)) | (exfalso; omega))) my_X8_failAt mv_X8_failAt ca_1 rfl rfl lm_X5_104 rfl (by omega) (Nat.le_of_ble_eq_true rfl) hm dX5_readFork_196 ?_
                generalize hMI33 : m_fl I32 = I33
                have hmI33 : l_ok b I33 := hMI33 ▸ m_fl_ok hb hmI32
                refine g_goto (tgt := 208) hc dX5_readFork_199 (by decide) ?_
                refine g_bipush hc dX5_readFork_208 (by decide +kernel) ?_
                refine g_iload_n hc dX5_readFork_210 rfl ?_
                refine g_iadd hc dX5_readFork_211 ?_
                refine g_iret hc hm dX5_readFork_212 ?_
                have hV : 100 + f = (m_fork (m_node b k) b d I).1 := by
                  rw [hf0]
                  show 100 + I b 1 = 100 + m_fk1 I b 1
                  unfold m_fk1
                  rw [m_items_k (by omega) (by omega), m_adv_k (by omega)]
                have hE : (m_fork (m_node b k) b d I).2 = I33 := by first | (exfalso; omega) | (rw [h5, show (4 - i).toNat = 0 by omega, m_frl]) | (rw [h5, show (4 - i).toNat = (4 - (i + 1)).toNat + 1 by omega, m_frl, hBR, if_pos ⟨by omega, by rw [hB1]; assumption⟩, hB1]; first | assumption | (symm; assumption)) | (rw [h5, show (4 - i).toNat = (4 - (i + 1)).toNat + 1 by omega, m_frl, hBR, if_neg (fun z => by first | omega | exact absurd z.2 (by rw [hB1]; assumption)), if_pos (by omega), hft]; first | assumption | (symm; assumption)) | (rw [h5, show (4 - i).toNat = (4 - (i + 1)).toNat + 1 by omega, m_frl, hBR, if_neg (fun z => by first | omega | exact absurd z.2 (by rw [hB1]; assumption)), if_neg (by omega), hft, if_neg (by assumption)]; subst_vars; rfl)
                exact ⟨by rw [hV], rfl, hE.symm, rfl, rfl⟩
              · skip
                refine g_aldn hc dX5_readFork_173 rfl ?_
                refine g_getRk hc lk_X5_66 ca_538 (rc_538_0 hR) dX5_readFork_174 ?_
                refine g_bipush hc dX5_readFork_177 (by decide +kernel) ?_
                refine g_V1r hc (m_takes w hR hmI32 (by exact ⟨by decide, by decide⟩)) my_X8_takes mv_X8_takes ca_1 rfl rfl lm_X5_158 rfl (by omega) (Nat.le_of_ble_eq_true rfl) hm dX5_readFork_179 ?_
                generalize hMI34 : m_tk 59 I32 = I34
                have hmI34 : l_ok b I34 := hMI34 ▸ m_tk_ok hb hmI32 (by decide)
                refine g_ifb_ne (tgt := 202) hc dX5_readFork_182 (by decide)  (fun c15 => ?_) (fun c15 => ?_)
                · skip
                  refine g_iinc_4 hc dX5_readFork_202 rfl ?_
                  refine g_goto (tgt := 110) hc dX5_readFork_205 (by decide) ?_
                  refine ih_110 _ _ ?_ ?_ ?_ ?_
                  · omega
                  · rw [h5, show (4 - i).toNat = (4 - (i + 1)).toNat + 1 by omega, m_frl, hBR, if_neg (fun z => by first | omega | exact absurd z.2 (by rw [hB1]; assumption)), if_neg (by omega), hft, if_pos (by assumption)]; congr 1
                  · exact hmI34
                  · omega
                · skip
                  refine g_aldn hc dX5_readFork_185 rfl ?_
                  refine g_getRk hc lk_X5_66 ca_538 (rc_538_0 hR) dX5_readFork_186 ?_
                  refine g_aldn hc dX5_readFork_189 rfl ?_
                  refine g_getRk hc lk_X5_66 ca_538 (rc_538_0 hR) dX5_readFork_190 ?_
                  refine g_getI' hc lk_X5_101 ca_1 2 rfl dX5_readFork_193 ?_
                  refine g_V1v hc (m_failAt w hR hmI34 (by first | (rw [← hMI34]; first | exact m_sk_fx (b := b) (by assumption) | exact m_tk_fx (b := b) (by assumption) (by assumption)) | (exfalso; omega))) my_X8_failAt mv_X8_failAt ca_1 rfl rfl lm_X5_104 rfl (by omega) (Nat.le_of_ble_eq_true rfl) hm dX5_readFork_196 ?_
                  generalize hMI35 : m_fl I34 = I35
                  have hmI35 : l_ok b I35 := hMI35 ▸ m_fl_ok hb hmI34
                  refine g_goto (tgt := 208) hc dX5_readFork_199 (by decide) ?_
                  refine g_bipush hc dX5_readFork_208 (by decide +kernel) ?_
                  refine g_iload_n hc dX5_readFork_210 rfl ?_
                  refine g_iadd hc dX5_readFork_211 ?_
                  refine g_iret hc hm dX5_readFork_212 ?_
                  have hV : 100 + f = (m_fork (m_node b k) b d I).1 := by
                    rw [hf0]
                    show 100 + I b 1 = 100 + m_fk1 I b 1
                    unfold m_fk1
                    rw [m_items_k (by omega) (by omega), m_adv_k (by omega)]
                  have hE : (m_fork (m_node b k) b d I).2 = I35 := by first | (exfalso; omega) | (rw [h5, show (4 - i).toNat = 0 by omega, m_frl]) | (rw [h5, show (4 - i).toNat = (4 - (i + 1)).toNat + 1 by omega, m_frl, hBR, if_pos ⟨by omega, by rw [hB1]; assumption⟩, hB1]; first | assumption | (symm; assumption)) | (rw [h5, show (4 - i).toNat = (4 - (i + 1)).toNat + 1 by omega, m_frl, hBR, if_neg (fun z => by first | omega | exact absurd z.2 (by rw [hB1]; assumption)), if_pos (by omega), hft]; first | assumption | (symm; assumption)) | (rw [h5, show (4 - i).toNat = (4 - (i + 1)).toNat + 1 by omega, m_frl, hBR, if_neg (fun z => by first | omega | exact absurd z.2 (by rw [hB1]; assumption)), if_neg (by omega), hft, if_neg (by assumption)]; subst_vars; rfl)
                  exact ⟨by rw [hV], rfl, hE.symm, rfl, rfl⟩
            · skip
              refine g_goto (tgt := 208) hc dX5_readFork_164 (by decide) ?_
              refine g_bipush hc dX5_readFork_208 (by decide +kernel) ?_
              refine g_iload_n hc dX5_readFork_210 rfl ?_
              refine g_iadd hc dX5_readFork_211 ?_
              refine g_iret hc hm dX5_readFork_212 ?_
              have hV : 100 + f = (m_fork (m_node b k) b d I).1 := by
                rw [hf0]
                show 100 + I b 1 = 100 + m_fk1 I b 1
                unfold m_fk1
                rw [m_items_k (by omega) (by omega), m_adv_k (by omega)]
              have hE : (m_fork (m_node b k) b d I).2 = I32 := by first | (exfalso; omega) | (rw [h5, show (4 - i).toNat = 0 by omega, m_frl]) | (rw [h5, show (4 - i).toNat = (4 - (i + 1)).toNat + 1 by omega, m_frl, hBR, if_pos ⟨by omega, by rw [hB1]; assumption⟩, hB1]; first | assumption | (symm; assumption)) | (rw [h5, show (4 - i).toNat = (4 - (i + 1)).toNat + 1 by omega, m_frl, hBR, if_neg (fun z => by first | omega | exact absurd z.2 (by rw [hB1]; assumption)), if_pos (by omega), hft]; first | assumption | (symm; assumption)) | (rw [h5, show (4 - i).toNat = (4 - (i + 1)).toNat + 1 by omega, m_frl, hBR, if_neg (fun z => by first | omega | exact absurd z.2 (by rw [hB1]; assumption)), if_neg (by omega), hft, if_neg (by assumption)]; subst_vars; rfl)
              exact ⟨by rw [hV], rfl, hE.symm, rfl, rfl⟩
    refine lp_110 5 _ _ ?_ ?_ ?_ (?_)
    · omega
    · clear hf0; subst_vars; rfl
    · exact hmI24
    · omega
set_option maxHeartbeats 4000000 in
set_option maxRecDepth 100000 in
/-- X5_readNode -/
theorem s_nod0 (w : g_W) {I : g_I} {J : g_J} {R : g_R} {lb tx : Nat} (hR : g_rf w R lb tx) {b : Nat} (hb : g_life b) (hmI : l_ok b I) {d : Int} (hd : d = 6) : g_Met w g_n I J R yX5_readNode cX5_readNode 4 (some .int) (7 + 3 * 0) 0 0 [(gvr w 538), (gvr w b), (gvI d)] (g_post (some (gvI ((m_node b 0 I).1))) g_n ((m_node b 0 I).2) J R) := by
  refine g_intro (own := RX5) [some (gvr w 538), some (gvr w b), some (gvI d), none] (by decide +kernel) rfl (by decide) (Nat.le_of_ble_eq_true rfl) rfl (fun i v hv => g_args 1 i v hv rfl) (fun x hc hm => ?_)
  have hb5 := hb
  unfold g_life at hb5
  refine g_aldn hc dX5_readNode_0 rfl ?_
  refine g_getRk hc lk_X5_66 ca_538 (rc_538_0 hR) dX5_readNode_1 ?_
  refine g_V0r hc (m_sign w hR hmI) my_X8_sign mv_X8_sign ca_1 rfl rfl lm_X5_92 rfl (by omega) (Nat.le_of_ble_eq_true rfl) hm dX5_readNode_4 ?_
  generalize hMI3 : m_sk I = I3
  have hmI3 : l_ok b I3 := hMI3 ▸ m_sk_ok hb hmI
  refine g_istore_3 hc dX5_readNode_7 rfl ?_
  have hsb := m_sg_b hmI
  refine g_iload_n hc dX5_readNode_8 rfl ?_
  refine g_bipush hc dX5_readNode_9 (by decide +kernel) ?_
  refine g_icmp_ne (tgt := 30) hc dX5_readNode_11 (by decide) (by exact ⟨by omega, by omega⟩) (by exact ⟨by decide, by decide⟩) (fun c1 => ?_) (fun c1 => ?_)
  · skip
    refine g_iload_n hc dX5_readNode_30 rfl ?_
    refine g_bipush hc dX5_readNode_31 (by decide +kernel) ?_
    refine g_icmp_ne (tgt := 58) hc dX5_readNode_33 (by decide) (by exact ⟨by omega, by omega⟩) (by exact ⟨by decide, by decide⟩) (fun c2 => ?_) (fun c2 => ?_)
    · skip
      refine g_aldn hc dX5_readNode_58 rfl ?_
      refine g_getRk hc lk_X5_66 ca_538 (rc_538_0 hR) dX5_readNode_59 ?_
      refine g_aldn hc dX5_readNode_62 rfl ?_
      refine g_getRk hc lk_X5_66 ca_538 (rc_538_0 hR) dX5_readNode_63 ?_
      refine g_getI' hc lk_X5_101 ca_1 2 rfl dX5_readNode_66 ?_
      refine g_V1v hc (m_failAt w hR hmI3 (by first | (rw [← hMI3]; first | exact m_sk_fx (b := b) (by assumption) | exact m_tk_fx (b := b) (by assumption) (by assumption)) | (exfalso; omega))) my_X8_failAt mv_X8_failAt ca_1 rfl rfl lm_X5_104 rfl (by omega) (Nat.le_of_ble_eq_true rfl) hm dX5_readNode_69 ?_
      generalize hMI4 : m_fl I3 = I4
      have hmI4 : l_ok b I4 := hMI4 ▸ m_fl_ok hb hmI3
      refine g_iconst hc dX5_readNode_72 ?_
      refine g_iret hc hm dX5_readNode_73 ?_
      have hU : m_node b 0 I = m_nod b d (none) I := by rw [m_node, hd]
      have hsk : m_sk I = I3 := hMI3
      have hfl : m_fl I3 = I4 := by assumption
      rw [m_nod, hsk, if_neg (by omega)] at hU
      by_cases z9 : m_sg I = 102 ∧ I3 b 1 < 20
      · first | (exfalso; omega) | (rw [if_pos z9] at hU; (try dsimp only at hU); rw [hfl] at hU; rw [hU]; exact ⟨rfl, rfl, rfl, rfl, rfl⟩)
      · rw [if_neg z9, hfl] at hU; rw [hU]; exact ⟨rfl, rfl, rfl, rfl, rfl⟩
    · skip
      have hlt : I3 1 2 < I3 1 1 := by rw [← hMI3]; exact m_sg_in hmI (by omega)
      have h9 := hmI3.2.2.2.2.2.2.2.2
      refine g_iload_n hc dX5_readNode_36 rfl ?_
      refine g_bipush hc dX5_readNode_37 (by decide +kernel) ?_
      refine g_icmp_ge (tgt := 58) hc dX5_readNode_39 (by decide) (by first | exact hI _ _ | exact hxI2 _ _ | exact hIa _ _ | exact hIb _ _ | exact g_b32 | exact g_and32 | assumption | exact ⟨by omega, by omega⟩) (by first | exact hI _ _ | exact hxI2 _ _ | exact hIa _ _ | exact hIb _ _ | exact g_b32 | exact g_and32 | assumption | exact ⟨by omega, by omega⟩) (fun c3 => ?_) (fun c3 => ?_)
      · skip
        refine g_aldn hc dX5_readNode_58 rfl ?_
        refine g_getRk hc lk_X5_66 ca_538 (rc_538_0 hR) dX5_readNode_59 ?_
        refine g_aldn hc dX5_readNode_62 rfl ?_
        refine g_getRk hc lk_X5_66 ca_538 (rc_538_0 hR) dX5_readNode_63 ?_
        refine g_getI' hc lk_X5_101 ca_1 2 rfl dX5_readNode_66 ?_
        refine g_V1v hc (m_failAt w hR hmI3 (by first | (rw [← hMI3]; first | exact m_sk_fx (b := b) (by assumption) | exact m_tk_fx (b := b) (by assumption) (by assumption)) | (exfalso; omega))) my_X8_failAt mv_X8_failAt ca_1 rfl rfl lm_X5_104 rfl (by omega) (Nat.le_of_ble_eq_true rfl) hm dX5_readNode_69 ?_
        generalize hMI5 : m_fl I3 = I5
        have hmI5 : l_ok b I5 := hMI5 ▸ m_fl_ok hb hmI3
        refine g_iconst hc dX5_readNode_72 ?_
        refine g_iret hc hm dX5_readNode_73 ?_
        have hU : m_node b 0 I = m_nod b d (none) I := by rw [m_node, hd]
        have hsk : m_sk I = I3 := hMI3
        have hfl : m_fl I3 = I5 := by assumption
        rw [m_nod, hsk, if_neg (by omega)] at hU
        by_cases z9 : m_sg I = 102 ∧ I3 b 1 < 20
        · first | (exfalso; omega) | (rw [if_pos z9] at hU; (try dsimp only at hU); rw [hfl] at hU; rw [hU]; exact ⟨rfl, rfl, rfl, rfl, rfl⟩)
        · rw [if_neg z9, hfl] at hU; rw [hU]; exact ⟨rfl, rfl, rfl, rfl, rfl⟩
      · exfalso; omega
  · skip
    have hlt : I3 1 2 < I3 1 1 := by rw [← hMI3]; exact m_sg_in hmI (by omega)
    have h8 := hmI3.2.2.2.2.2.2.2.1
    refine g_aldn hc dX5_readNode_14 rfl ?_
    refine g_getI' hc lk_X5_70 (la_0 hb) 0 rfl dX5_readNode_15 ?_
    refine g_bipush hc dX5_readNode_18 (by decide +kernel) ?_
    refine g_icmp_ge (tgt := 30) hc dX5_readNode_20 (by decide) (by first | exact hI _ _ | exact hxI2 _ _ | exact hIa _ _ | exact hIb _ _ | exact g_b32 | exact g_and32 | assumption | exact ⟨by omega, by omega⟩) (by first | exact hI _ _ | exact hxI2 _ _ | exact hIa _ _ | exact hIb _ _ | exact g_b32 | exact g_and32 | assumption | exact ⟨by omega, by omega⟩) (fun c4 => ?_) (fun c4 => ?_)
    · skip
      refine g_iload_n hc dX5_readNode_30 rfl ?_
      refine g_bipush hc dX5_readNode_31 (by decide +kernel) ?_
      refine g_icmp_ne (tgt := 58) hc dX5_readNode_33 (by decide) (by exact ⟨by omega, by omega⟩) (by exact ⟨by decide, by decide⟩) (fun c5 => ?_) (fun c5 => ?_)
      · skip
        refine g_aldn hc dX5_readNode_58 rfl ?_
        refine g_getRk hc lk_X5_66 ca_538 (rc_538_0 hR) dX5_readNode_59 ?_
        refine g_aldn hc dX5_readNode_62 rfl ?_
        refine g_getRk hc lk_X5_66 ca_538 (rc_538_0 hR) dX5_readNode_63 ?_
        refine g_getI' hc lk_X5_101 ca_1 2 rfl dX5_readNode_66 ?_
        refine g_V1v hc (m_failAt w hR hmI3 (by first | (rw [← hMI3]; first | exact m_sk_fx (b := b) (by assumption) | exact m_tk_fx (b := b) (by assumption) (by assumption)) | (exfalso; omega))) my_X8_failAt mv_X8_failAt ca_1 rfl rfl lm_X5_104 rfl (by omega) (Nat.le_of_ble_eq_true rfl) hm dX5_readNode_69 ?_
        generalize hMI6 : m_fl I3 = I6
        have hmI6 : l_ok b I6 := hMI6 ▸ m_fl_ok hb hmI3
        refine g_iconst hc dX5_readNode_72 ?_
        refine g_iret hc hm dX5_readNode_73 ?_
        have hU : m_node b 0 I = m_nod b d (none) I := by rw [m_node, hd]
        have hsk : m_sk I = I3 := hMI3
        have hfl : m_fl I3 = I6 := by assumption
        rw [m_nod, hsk, if_neg (by omega)] at hU
        by_cases z9 : m_sg I = 102 ∧ I3 b 1 < 20
        · first | (exfalso; omega) | (rw [if_pos z9] at hU; (try dsimp only at hU); rw [hfl] at hU; rw [hU]; exact ⟨rfl, rfl, rfl, rfl, rfl⟩)
        · rw [if_neg z9, hfl] at hU; rw [hU]; exact ⟨rfl, rfl, rfl, rfl, rfl⟩
      · skip
        have hlt : I3 1 2 < I3 1 1 := by rw [← hMI3]; exact m_sg_in hmI (by omega)
        have h9 := hmI3.2.2.2.2.2.2.2.2
        refine g_iload_n hc dX5_readNode_36 rfl ?_
        refine g_bipush hc dX5_readNode_37 (by decide +kernel) ?_
        refine g_icmp_ge (tgt := 58) hc dX5_readNode_39 (by decide) (by first | exact hI _ _ | exact hxI2 _ _ | exact hIa _ _ | exact hIb _ _ | exact g_b32 | exact g_and32 | assumption | exact ⟨by omega, by omega⟩) (by first | exact hI _ _ | exact hxI2 _ _ | exact hIa _ _ | exact hIb _ _ | exact g_b32 | exact g_and32 | assumption | exact ⟨by omega, by omega⟩) (fun c6 => ?_) (fun c6 => ?_)
        · skip
          refine g_aldn hc dX5_readNode_58 rfl ?_
          refine g_getRk hc lk_X5_66 ca_538 (rc_538_0 hR) dX5_readNode_59 ?_
          refine g_aldn hc dX5_readNode_62 rfl ?_
          refine g_getRk hc lk_X5_66 ca_538 (rc_538_0 hR) dX5_readNode_63 ?_
          refine g_getI' hc lk_X5_101 ca_1 2 rfl dX5_readNode_66 ?_
          refine g_V1v hc (m_failAt w hR hmI3 (by first | (rw [← hMI3]; first | exact m_sk_fx (b := b) (by assumption) | exact m_tk_fx (b := b) (by assumption) (by assumption)) | (exfalso; omega))) my_X8_failAt mv_X8_failAt ca_1 rfl rfl lm_X5_104 rfl (by omega) (Nat.le_of_ble_eq_true rfl) hm dX5_readNode_69 ?_
          generalize hMI7 : m_fl I3 = I7
          have hmI7 : l_ok b I7 := hMI7 ▸ m_fl_ok hb hmI3
          refine g_iconst hc dX5_readNode_72 ?_
          refine g_iret hc hm dX5_readNode_73 ?_
          have hU : m_node b 0 I = m_nod b d (none) I := by rw [m_node, hd]
          have hsk : m_sk I = I3 := hMI3
          have hfl : m_fl I3 = I7 := by assumption
          rw [m_nod, hsk, if_neg (by omega)] at hU
          by_cases z9 : m_sg I = 102 ∧ I3 b 1 < 20
          · first | (exfalso; omega) | (rw [if_pos z9] at hU; (try dsimp only at hU); rw [hfl] at hU; rw [hU]; exact ⟨rfl, rfl, rfl, rfl, rfl⟩)
          · rw [if_neg z9, hfl] at hU; rw [hU]; exact ⟨rfl, rfl, rfl, rfl, rfl⟩
        · exfalso; omega
    · skip
      refine g_aldn hc dX5_readNode_23 rfl ?_
      refine g_aldn hc dX5_readNode_24 rfl ?_
      refine g_iload_n hc dX5_readNode_25 rfl ?_
      refine g_V2r hc (s_leaf w hR hb hmI3 (by omega) (by omega) hlt) my_X5_readLeaf mv_X5_readLeaf ca_538 rfl rfl lm_X5_95 rfl (by omega) (Nat.le_of_ble_eq_true rfl) hm dX5_readNode_26 ?_
      obtain ⟨q1v, I8, hMq1⟩ : ∃ (z9 : Int) (m9 : g_I), m_leaf b d I3 = (z9, m9) := ⟨_, _, rfl⟩
      rw [hMq1]
      dsimp only
      have hmI8 : l_ok b I8 := by have z := m_leaf_ok hb hmI3 (by omega) hlt (show 0 ≤ d ∧ d ≤ 6 by omega); rw [hMq1] at z; exact z.1
      have hvq1 := m_leaf_ok hb hmI3 (by omega) hlt (show 0 ≤ d ∧ d ≤ 6 by omega)
      rw [hMq1] at hvq1
      replace hvq1 := hvq1.2
      dsimp only at hvq1
      refine g_iret hc hm dX5_readNode_29 ?_
      have hU : m_node b 0 I = m_nod b d (none) I := by rw [m_node, hd]
      have hsk : m_sk I = I3 := hMI3
      rw [m_nod, hsk, if_pos ⟨by omega, by omega⟩] at hU
      first | rw [hMq1] at hU | rw [hMq2] at hU | rw [hMq3] at hU
      rw [hU]; exact ⟨rfl, rfl, rfl, rfl, rfl⟩
set_option maxHeartbeats 4000000 in
set_option maxRecDepth 100000 in
/-- X5_readNode -/
theorem s_nodS (w : g_W) {I : g_I} {J : g_J} {R : g_R} {lb tx : Nat} (hR : g_rf w R lb tx) {b : Nat} (hb : g_life b) (hmI : l_ok b I) {k : Nat} {d : Int} (hd : d = 6 - ((k + 1 : Nat) : Int)) (hk : k < 6) (hN : C_nod w b k) : g_Met w g_n I J R yX5_readNode cX5_readNode 4 (some .int) (7 + 3 * (k + 1)) 0 0 [(gvr w 538), (gvr w b), (gvI d)] (g_post (some (gvI ((m_node b (k + 1) I).1))) g_n ((m_node b (k + 1) I).2) J R) := by
  refine g_intro (own := RX5) [some (gvr w 538), some (gvr w b), some (gvI d), none] (by decide +kernel) rfl (by decide) (Nat.le_of_ble_eq_true rfl) rfl (fun i v hv => g_args 1 i v hv rfl) (fun x hc hm => ?_)
  have hb5 := hb
  unfold g_life at hb5
  refine g_aldn hc dX5_readNode_0 rfl ?_
  refine g_getRk hc lk_X5_66 ca_538 (rc_538_0 hR) dX5_readNode_1 ?_
  refine g_V0r hc (m_sign w hR hmI) my_X8_sign mv_X8_sign ca_1 rfl rfl lm_X5_92 rfl (by omega) (Nat.le_of_ble_eq_true rfl) hm dX5_readNode_4 ?_
  generalize hMI3 : m_sk I = I3
  have hmI3 : l_ok b I3 := hMI3 ▸ m_sk_ok hb hmI
  refine g_istore_3 hc dX5_readNode_7 rfl ?_
  have hsb := m_sg_b hmI
  refine g_iload_n hc dX5_readNode_8 rfl ?_
  refine g_bipush hc dX5_readNode_9 (by decide +kernel) ?_
  refine g_icmp_ne (tgt := 30) hc dX5_readNode_11 (by decide) (by exact ⟨by omega, by omega⟩) (by exact ⟨by decide, by decide⟩) (fun c1 => ?_) (fun c1 => ?_)
  · skip
    refine g_iload_n hc dX5_readNode_30 rfl ?_
    refine g_bipush hc dX5_readNode_31 (by decide +kernel) ?_
    refine g_icmp_ne (tgt := 58) hc dX5_readNode_33 (by decide) (by exact ⟨by omega, by omega⟩) (by exact ⟨by decide, by decide⟩) (fun c2 => ?_) (fun c2 => ?_)
    · skip
      refine g_aldn hc dX5_readNode_58 rfl ?_
      refine g_getRk hc lk_X5_66 ca_538 (rc_538_0 hR) dX5_readNode_59 ?_
      refine g_aldn hc dX5_readNode_62 rfl ?_
      refine g_getRk hc lk_X5_66 ca_538 (rc_538_0 hR) dX5_readNode_63 ?_
      refine g_getI' hc lk_X5_101 ca_1 2 rfl dX5_readNode_66 ?_
      refine g_V1v hc (m_failAt w hR hmI3 (by first | (rw [← hMI3]; first | exact m_sk_fx (b := b) (by assumption) | exact m_tk_fx (b := b) (by assumption) (by assumption)) | (exfalso; omega))) my_X8_failAt mv_X8_failAt ca_1 rfl rfl lm_X5_104 rfl (by omega) (Nat.le_of_ble_eq_true rfl) hm dX5_readNode_69 ?_
      generalize hMI4 : m_fl I3 = I4
      have hmI4 : l_ok b I4 := hMI4 ▸ m_fl_ok hb hmI3
      refine g_iconst hc dX5_readNode_72 ?_
      refine g_iret hc hm dX5_readNode_73 ?_
      have hU : m_node b (k + 1) I = m_nod b d (some (m_node b k)) I := by rw [m_node, hd]
      have hsk : m_sk I = I3 := hMI3
      have hfl : m_fl I3 = I4 := by assumption
      rw [m_nod, hsk, if_neg (by omega)] at hU
      by_cases z9 : m_sg I = 102 ∧ I3 b 1 < 20
      · first | (exfalso; omega) | (rw [if_pos z9] at hU; (try dsimp only at hU); rw [hfl] at hU; rw [hU]; exact ⟨rfl, rfl, rfl, rfl, rfl⟩)
      · rw [if_neg z9, hfl] at hU; rw [hU]; exact ⟨rfl, rfl, rfl, rfl, rfl⟩
    · skip
      have hlt : I3 1 2 < I3 1 1 := by rw [← hMI3]; exact m_sg_in hmI (by omega)
      have h9 := hmI3.2.2.2.2.2.2.2.2
      refine g_iload_n hc dX5_readNode_36 rfl ?_
      refine g_bipush hc dX5_readNode_37 (by decide +kernel) ?_
      refine g_icmp_ge (tgt := 58) hc dX5_readNode_39 (by decide) (by first | exact hI _ _ | exact hxI2 _ _ | exact hIa _ _ | exact hIb _ _ | exact g_b32 | exact g_and32 | assumption | exact ⟨by omega, by omega⟩) (by first | exact hI _ _ | exact hxI2 _ _ | exact hIa _ _ | exact hIb _ _ | exact g_b32 | exact g_and32 | assumption | exact ⟨by omega, by omega⟩) (fun c3 => ?_) (fun c3 => ?_)
      · exfalso; omega
      · skip
        refine g_aldn hc dX5_readNode_42 rfl ?_
        refine g_getI' hc lk_X5_76 (la_0 hb) 1 rfl dX5_readNode_43 ?_
        refine g_bipush hc dX5_readNode_46 (by decide +kernel) ?_
        refine g_icmp_ge (tgt := 58) hc dX5_readNode_48 (by decide) (by first | exact hI _ _ | exact hxI2 _ _ | exact hIa _ _ | exact hIb _ _ | exact g_b32 | exact g_and32 | assumption | exact ⟨by omega, by omega⟩) (by first | exact hI _ _ | exact hxI2 _ _ | exact hIa _ _ | exact hIb _ _ | exact g_b32 | exact g_and32 | assumption | exact ⟨by omega, by omega⟩) (fun c4 => ?_) (fun c4 => ?_)
        · skip
          refine g_aldn hc dX5_readNode_58 rfl ?_
          refine g_getRk hc lk_X5_66 ca_538 (rc_538_0 hR) dX5_readNode_59 ?_
          refine g_aldn hc dX5_readNode_62 rfl ?_
          refine g_getRk hc lk_X5_66 ca_538 (rc_538_0 hR) dX5_readNode_63 ?_
          refine g_getI' hc lk_X5_101 ca_1 2 rfl dX5_readNode_66 ?_
          refine g_V1v hc (m_failAt w hR hmI3 (by first | (rw [← hMI3]; first | exact m_sk_fx (b := b) (by assumption) | exact m_tk_fx (b := b) (by assumption) (by assumption)) | (exfalso; omega))) my_X8_failAt mv_X8_failAt ca_1 rfl rfl lm_X5_104 rfl (by omega) (Nat.le_of_ble_eq_true rfl) hm dX5_readNode_69 ?_
          generalize hMI5 : m_fl I3 = I5
          have hmI5 : l_ok b I5 := hMI5 ▸ m_fl_ok hb hmI3
          refine g_iconst hc dX5_readNode_72 ?_
          refine g_iret hc hm dX5_readNode_73 ?_
          have hU : m_node b (k + 1) I = m_nod b d (some (m_node b k)) I := by rw [m_node, hd]
          have hsk : m_sk I = I3 := hMI3
          have hfl : m_fl I3 = I5 := by assumption
          rw [m_nod, hsk, if_neg (by omega)] at hU
          by_cases z9 : m_sg I = 102 ∧ I3 b 1 < 20
          · first | (exfalso; omega) | (rw [if_pos z9] at hU; (try dsimp only at hU); rw [hfl] at hU; rw [hU]; exact ⟨rfl, rfl, rfl, rfl, rfl⟩)
          · rw [if_neg z9, hfl] at hU; rw [hU]; exact ⟨rfl, rfl, rfl, rfl, rfl⟩
        · skip
          refine g_aldn hc dX5_readNode_51 rfl ?_
          refine g_aldn hc dX5_readNode_52 rfl ?_
          refine g_iload_n hc dX5_readNode_53 rfl ?_
          refine g_V2r hc (s_fork w hR hb hmI3 (k := k) (by omega) hk hN (by omega) hlt) my_X5_readFork mv_X5_readFork ca_538 rfl rfl lm_X5_98 rfl (by omega) (Nat.le_of_ble_eq_true rfl) hm dX5_readNode_54 ?_
          obtain ⟨q1v, I6, hMq1⟩ : ∃ (z9 : Int) (m9 : g_I), m_fork (m_node b k) b d I3 = (z9, m9) := ⟨_, _, rfl⟩
          rw [hMq1]
          dsimp only
          have hmI6 : l_ok b I6 := by have z := m_fork_ok (d := d) hb (m_node_ok hb k (by omega)) hmI3 (by omega) hlt; rw [hMq1] at z; exact z.1
          have hvq1 := m_fork_ok (d := d) hb (m_node_ok hb k (by omega)) hmI3 (by omega) hlt
          rw [hMq1] at hvq1
          replace hvq1 := hvq1.2
          dsimp only at hvq1
          refine g_iret hc hm dX5_readNode_57 ?_
          have hU : m_node b (k + 1) I = m_nod b d (some (m_node b k)) I := by rw [m_node, hd]
          have hsk : m_sk I = I3 := hMI3
          rw [m_nod, hsk, if_neg (by omega), if_pos ⟨by omega, by omega⟩] at hU
          (try dsimp only at hU)
          first | rw [hMq1] at hU | rw [hMq2] at hU | rw [hMq3] at hU
          rw [hU]; exact ⟨rfl, rfl, rfl, rfl, rfl⟩
  · skip
    have hlt : I3 1 2 < I3 1 1 := by rw [← hMI3]; exact m_sg_in hmI (by omega)
    have h8 := hmI3.2.2.2.2.2.2.2.1
    refine g_aldn hc dX5_readNode_14 rfl ?_
    refine g_getI' hc lk_X5_70 (la_0 hb) 0 rfl dX5_readNode_15 ?_
    refine g_bipush hc dX5_readNode_18 (by decide +kernel) ?_
    refine g_icmp_ge (tgt := 30) hc dX5_readNode_20 (by decide) (by first | exact hI _ _ | exact hxI2 _ _ | exact hIa _ _ | exact hIb _ _ | exact g_b32 | exact g_and32 | assumption | exact ⟨by omega, by omega⟩) (by first | exact hI _ _ | exact hxI2 _ _ | exact hIa _ _ | exact hIb _ _ | exact g_b32 | exact g_and32 | assumption | exact ⟨by omega, by omega⟩) (fun c5 => ?_) (fun c5 => ?_)
    · skip
      refine g_iload_n hc dX5_readNode_30 rfl ?_
      refine g_bipush hc dX5_readNode_31 (by decide +kernel) ?_
      refine g_icmp_ne (tgt := 58) hc dX5_readNode_33 (by decide) (by exact ⟨by omega, by omega⟩) (by exact ⟨by decide, by decide⟩) (fun c6 => ?_) (fun c6 => ?_)
      · skip
        refine g_aldn hc dX5_readNode_58 rfl ?_
        refine g_getRk hc lk_X5_66 ca_538 (rc_538_0 hR) dX5_readNode_59 ?_
        refine g_aldn hc dX5_readNode_62 rfl ?_
        refine g_getRk hc lk_X5_66 ca_538 (rc_538_0 hR) dX5_readNode_63 ?_
        refine g_getI' hc lk_X5_101 ca_1 2 rfl dX5_readNode_66 ?_
        refine g_V1v hc (m_failAt w hR hmI3 (by first | (rw [← hMI3]; first | exact m_sk_fx (b := b) (by assumption) | exact m_tk_fx (b := b) (by assumption) (by assumption)) | (exfalso; omega))) my_X8_failAt mv_X8_failAt ca_1 rfl rfl lm_X5_104 rfl (by omega) (Nat.le_of_ble_eq_true rfl) hm dX5_readNode_69 ?_
        generalize hMI7 : m_fl I3 = I7
        have hmI7 : l_ok b I7 := hMI7 ▸ m_fl_ok hb hmI3
        refine g_iconst hc dX5_readNode_72 ?_
        refine g_iret hc hm dX5_readNode_73 ?_
        have hU : m_node b (k + 1) I = m_nod b d (some (m_node b k)) I := by rw [m_node, hd]
        have hsk : m_sk I = I3 := hMI3
        have hfl : m_fl I3 = I7 := by assumption
        rw [m_nod, hsk, if_neg (by omega)] at hU
        by_cases z9 : m_sg I = 102 ∧ I3 b 1 < 20
        · first | (exfalso; omega) | (rw [if_pos z9] at hU; (try dsimp only at hU); rw [hfl] at hU; rw [hU]; exact ⟨rfl, rfl, rfl, rfl, rfl⟩)
        · rw [if_neg z9, hfl] at hU; rw [hU]; exact ⟨rfl, rfl, rfl, rfl, rfl⟩
      · skip
        have hlt : I3 1 2 < I3 1 1 := by rw [← hMI3]; exact m_sg_in hmI (by omega)
        have h9 := hmI3.2.2.2.2.2.2.2.2
        refine g_iload_n hc dX5_readNode_36 rfl ?_
        refine g_bipush hc dX5_readNode_37 (by decide +kernel) ?_
        refine g_icmp_ge (tgt := 58) hc dX5_readNode_39 (by decide) (by first | exact hI _ _ | exact hxI2 _ _ | exact hIa _ _ | exact hIb _ _ | exact g_b32 | exact g_and32 | assumption | exact ⟨by omega, by omega⟩) (by first | exact hI _ _ | exact hxI2 _ _ | exact hIa _ _ | exact hIb _ _ | exact g_b32 | exact g_and32 | assumption | exact ⟨by omega, by omega⟩) (fun c7 => ?_) (fun c7 => ?_)
        · exfalso; omega
        · skip
          refine g_aldn hc dX5_readNode_42 rfl ?_
          refine g_getI' hc lk_X5_76 (la_0 hb) 1 rfl dX5_readNode_43 ?_
          refine g_bipush hc dX5_readNode_46 (by decide +kernel) ?_
          refine g_icmp_ge (tgt := 58) hc dX5_readNode_48 (by decide) (by first | exact hI _ _ | exact hxI2 _ _ | exact hIa _ _ | exact hIb _ _ | exact g_b32 | exact g_and32 | assumption | exact ⟨by omega, by omega⟩) (by first | exact hI _ _ | exact hxI2 _ _ | exact hIa _ _ | exact hIb _ _ | exact g_b32 | exact g_and32 | assumption | exact ⟨by omega, by omega⟩) (fun c8 => ?_) (fun c8 => ?_)
          · skip
            refine g_aldn hc dX5_readNode_58 rfl ?_
            refine g_getRk hc lk_X5_66 ca_538 (rc_538_0 hR) dX5_readNode_59 ?_
            refine g_aldn hc dX5_readNode_62 rfl ?_
            refine g_getRk hc lk_X5_66 ca_538 (rc_538_0 hR) dX5_readNode_63 ?_
            refine g_getI' hc lk_X5_101 ca_1 2 rfl dX5_readNode_66 ?_
            refine g_V1v hc (m_failAt w hR hmI3 (by first | (rw [← hMI3]; first | exact m_sk_fx (b := b) (by assumption) | exact m_tk_fx (b := b) (by assumption) (by assumption)) | (exfalso; omega))) my_X8_failAt mv_X8_failAt ca_1 rfl rfl lm_X5_104 rfl (by omega) (Nat.le_of_ble_eq_true rfl) hm dX5_readNode_69 ?_
            generalize hMI8 : m_fl I3 = I8
            have hmI8 : l_ok b I8 := hMI8 ▸ m_fl_ok hb hmI3
            refine g_iconst hc dX5_readNode_72 ?_
            refine g_iret hc hm dX5_readNode_73 ?_
            have hU : m_node b (k + 1) I = m_nod b d (some (m_node b k)) I := by rw [m_node, hd]
            have hsk : m_sk I = I3 := hMI3
            have hfl : m_fl I3 = I8 := by assumption
            rw [m_nod, hsk, if_neg (by omega)] at hU
            by_cases z9 : m_sg I = 102 ∧ I3 b 1 < 20
            · first | (exfalso; omega) | (rw [if_pos z9] at hU; (try dsimp only at hU); rw [hfl] at hU; rw [hU]; exact ⟨rfl, rfl, rfl, rfl, rfl⟩)
            · rw [if_neg z9, hfl] at hU; rw [hU]; exact ⟨rfl, rfl, rfl, rfl, rfl⟩
          · skip
            refine g_aldn hc dX5_readNode_51 rfl ?_
            refine g_aldn hc dX5_readNode_52 rfl ?_
            refine g_iload_n hc dX5_readNode_53 rfl ?_
            refine g_V2r hc (s_fork w hR hb hmI3 (k := k) (by omega) hk hN (by omega) hlt) my_X5_readFork mv_X5_readFork ca_538 rfl rfl lm_X5_98 rfl (by omega) (Nat.le_of_ble_eq_true rfl) hm dX5_readNode_54 ?_
            obtain ⟨q2v, I9, hMq2⟩ : ∃ (z9 : Int) (m9 : g_I), m_fork (m_node b k) b d I3 = (z9, m9) := ⟨_, _, rfl⟩
            rw [hMq2]
            dsimp only
            have hmI9 : l_ok b I9 := by have z := m_fork_ok (d := d) hb (m_node_ok hb k (by omega)) hmI3 (by omega) hlt; rw [hMq2] at z; exact z.1
            have hvq2 := m_fork_ok (d := d) hb (m_node_ok hb k (by omega)) hmI3 (by omega) hlt
            rw [hMq2] at hvq2
            replace hvq2 := hvq2.2
            dsimp only at hvq2
            refine g_iret hc hm dX5_readNode_57 ?_
            have hU : m_node b (k + 1) I = m_nod b d (some (m_node b k)) I := by rw [m_node, hd]
            have hsk : m_sk I = I3 := hMI3
            rw [m_nod, hsk, if_neg (by omega), if_pos ⟨by omega, by omega⟩] at hU
            (try dsimp only at hU)
            first | rw [hMq1] at hU | rw [hMq2] at hU | rw [hMq3] at hU
            rw [hU]; exact ⟨rfl, rfl, rfl, rfl, rfl⟩
    · skip
      refine g_aldn hc dX5_readNode_23 rfl ?_
      refine g_aldn hc dX5_readNode_24 rfl ?_
      refine g_iload_n hc dX5_readNode_25 rfl ?_
      refine g_V2r hc (s_leaf w hR hb hmI3 (by omega) (by omega) hlt) my_X5_readLeaf mv_X5_readLeaf ca_538 rfl rfl lm_X5_95 rfl (by omega) (Nat.le_of_ble_eq_true rfl) hm dX5_readNode_26 ?_
      obtain ⟨q3v, I10, hMq3⟩ : ∃ (z9 : Int) (m9 : g_I), m_leaf b d I3 = (z9, m9) := ⟨_, _, rfl⟩
      rw [hMq3]
      dsimp only
      have hmI10 : l_ok b I10 := by have z := m_leaf_ok hb hmI3 (by omega) hlt (show 0 ≤ d ∧ d ≤ 6 by omega); rw [hMq3] at z; exact z.1
      have hvq3 := m_leaf_ok hb hmI3 (by omega) hlt (show 0 ≤ d ∧ d ≤ 6 by omega)
      rw [hMq3] at hvq3
      replace hvq3 := hvq3.2
      dsimp only at hvq3
      refine g_iret hc hm dX5_readNode_29 ?_
      have hU : m_node b (k + 1) I = m_nod b d (some (m_node b k)) I := by rw [m_node, hd]
      have hsk : m_sk I = I3 := hMI3
      rw [m_nod, hsk, if_pos ⟨by omega, by omega⟩] at hU
      first | rw [hMq1] at hU | rw [hMq2] at hU | rw [hMq3] at hU
      rw [hU]; exact ⟨rfl, rfl, rfl, rfl, rfl⟩
