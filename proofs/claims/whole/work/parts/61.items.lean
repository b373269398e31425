set_option maxHeartbeats 4000000 in
set_option maxRecDepth 100000 in
/-- X3_read -/
theorem i_leaf (w : g_W) {I : g_I} {J : g_J} {R : g_R} {lb tx : Nat} (hR : g_rf w R lb tx) {b : Nat} (hb : g_life b) (hmI : l_ok b I)  : g_Met w g_n I J R yX3_read cX3_read 6 none 4 0 0 [(gvr w 539), (gvr w 1)] (g_post none g_n (m_items 540 5 0 0 1 2 I) J R) := by
  refine g_intro (own := RX3) [some (gvr w 539), some (gvr w 1), none, none, none, none] (by decide +kernel) rfl (by decide) (Nat.le_of_ble_eq_true rfl) rfl (fun i v hv => g_args 4 i v hv rfl) (fun x hc hm => ?_)
  have hb5 := hb
  unfold g_life at hb5
  refine g_aldn hc dX3_read_0 rfl ?_
  refine g_getR hc lk_X3_22 ca_539 (rc_539_3 hR) dX3_read_1 ?_
  refine g_iconst hc dX3_read_4 ?_
  refine g_aldn hc dX3_read_5 rfl ?_
  refine g_getRk hc lk_X3_25 ca_539 (rc_539_4 hR) dX3_read_6 ?_
  refine g_iconst hc dX3_read_9 ?_
  refine g_aldn hc dX3_read_10 rfl ?_
  refine g_getRk hc lk_X3_25 ca_539 (rc_539_4 hR) dX3_read_11 ?_
  refine g_alen hc ca_540 (by decide) dX3_read_14 ?_
  refine g_copyS (i := 2) hc rfl ca_540 (by decide) rfl ac_X3_28 ac_nat ac_sta ac_ini rfl (by decide) (by decide) (Nat.le_of_ble_eq_true rfl) dX3_read_15 (fun I3 hI3 => ?_)
  have hMI3 : m_us 540 2 I = I3 := hI3.symm
  clear hI3
  have hmI3 : l_ok b I3 := hMI3 ▸ m_us_ok hb hmI (by decide) (by decide)
  refine g_iconst hc dX3_read_18 ?_
  refine g_istore_2 hc dX3_read_19 rfl ?_
  refine g_iconst hc dX3_read_20 ?_
  refine g_istore_3 hc dX3_read_21 rfl ?_
  have lp_22 : ∀ (fu : Nat) (e i : Int) (Im : g_I), 0 ≤ i ∧ i ≤ 5 + 1 → m_items 540 5 0 0 1 2 I = m_itn 540 5 0 0 1 (5 + 1 - i).toNat e Im → l_ok b Im → 5 + 1 - i < (fu : Int) → G w x (g_post none g_n (m_items 540 5 0 0 1 2 I) J R) 0 0 g_n Im J R 22 [some (gvr w 539), some (gvr w 1), some (gvI e), some (gvI i), none, none] [] := by
    intro fu
    induction fu with
    | zero => intro e i Im h3 h4 hmIm hfu; exfalso; omega
    | succ fu ih =>
      intro e i Im h3 h4 hmIm hfu
      have ih_22 := ih
      refine g_iload_n hc dX3_read_22 rfl ?_
      refine g_aldn hc dX3_read_23 rfl ?_
      refine g_getRk hc lk_X3_25 ca_539 (rc_539_4 hR) dX3_read_24 ?_
      refine g_alen hc ca_540 (by decide) dX3_read_27 ?_
      refine g_icmp_gt (tgt := 142) hc dX3_read_28 (by decide) (by first | exact hI _ _ | exact hxI2 _ _ | exact hIa _ _ | exact hIb _ _ | exact g_b32 | exact g_and32 | assumption | exact ⟨by omega, by omega⟩) (by first | exact hI _ _ | exact hxI2 _ _ | exact hIa _ _ | exact hIb _ _ | exact g_b32 | exact g_and32 | assumption | exact ⟨by omega, by omega⟩) (fun c1 => ?_) (fun c1 => ?_)
      · skip
        refine g_vret hc hm dX3_read_142 ?_
        exact ⟨rfl, rfl, by rw [h4, show (5 + 1 - i).toNat = 0 by omega, m_itn], rfl, rfl⟩
      · skip
        refine g_aldn hc dX3_read_31 rfl ?_
        refine g_V0r hc (m_sign w hR hmIm) my_X8_sign mv_X8_sign ca_1 rfl rfl lm_X3_34 rfl (by decide) (Nat.le_of_ble_eq_true rfl) hm dX3_read_32 ?_
        generalize hMI4 : m_sk Im = I4
        have hmI4 : l_ok b I4 := hMI4 ▸ m_sk_ok hb hmIm
        refine g_istore_4 hc dX3_read_35 rfl ?_
        have hsb := m_sg_b hmIm
        have hit := m_it_in (X := 0) (c := m_sg Im) (by decide)
        refine g_iload hc dX3_read_37 rfl ?_
        refine g_if_ge (tgt := 46) hc dX3_read_39 (by decide) (by exact ⟨by omega, by omega⟩) (fun c2 => ?_) (fun c2 => ?_)
        · skip
          refine g_aldn hc dX3_read_46 rfl ?_
          refine g_getR hc lk_X3_9 ca_539 (rc_539_0 hR) dX3_read_47 ?_
          refine g_iload hc dX3_read_50 rfl ?_
          refine g_i2c hc dX3_read_52 ?_
          rw [show g_i2c' (m_sg Im) = m_sg Im from g_i2c_id (by omega)]
          refine g_T1r (i := 0) (by decide) hc (c_J0_indexOf_0f7a4 w (by decide) (by first | exact hI _ _ | exact hxI2 _ _ | exact hIa _ _ | exact hIb _ _ | exact g_b32 | exact g_and32 | assumption | exact ⟨by omega, by omega⟩) (by omega) (by first | assumption | decide)) my_J0_indexOf_0f7a4 mv_J0_indexOf_0f7a4 rfl lm_X3_40 rfl (by decide) (Nat.le_of_ble_eq_true rfl) hm dX3_read_53 ?_
          rw [show g_inx 0 (m_sg Im) = m_it 0 (m_sg Im) from by first | (rw [m_it, if_pos (by omega)]) | (rw [m_it, if_neg (by omega)])]
          refine g_istore_5 hc dX3_read_56 rfl ?_
          refine g_iload hc dX3_read_58 rfl ?_
          refine g_if_lt (tgt := 73) hc dX3_read_60 (by decide) (by first | exact hI _ _ | exact hxI2 _ _ | exact hIa _ _ | exact hIb _ _ | exact g_b32 | exact g_and32 | assumption | exact ⟨by omega, by omega⟩) (fun c3 => ?_) (fun c3 => ?_)
          · skip
            refine g_vret hc hm dX3_read_73 ?_
            exact ⟨rfl, rfl, by rw [h4, show (5 + 1 - i).toNat = (5 - i).toNat + 1 by omega, m_itn, if_pos (by omega)]; subst_vars; rfl, rfl, rfl⟩
          · skip
            refine g_iload hc dX3_read_63 rfl ?_
            refine g_aldn hc dX3_read_65 rfl ?_
            refine g_getRk hc lk_X3_25 ca_539 (rc_539_4 hR) dX3_read_66 ?_
            refine g_alen hc ca_540 (by decide) dX3_read_69 ?_
            refine g_icmp_lt (tgt := 74) hc dX3_read_70 (by decide) (by first | exact hI _ _ | exact hxI2 _ _ | exact hIa _ _ | exact hIb _ _ | exact g_b32 | exact g_and32 | assumption | exact ⟨by omega, by omega⟩) (by first | exact hI _ _ | exact hxI2 _ _ | exact hIa _ _ | exact hIb _ _ | exact g_b32 | exact g_and32 | assumption | exact ⟨by omega, by omega⟩) (fun c4 => ?_) (fun c4 => ?_)
            · skip
              refine g_iload_n hc dX3_read_74 rfl ?_
              refine g_iload hc dX3_read_75 rfl ?_
              refine g_ishr hc dX3_read_77 ?_
              refine g_iconst hc dX3_read_78 ?_
              refine g_iand hc dX3_read_79 ?_
              refine g_iconst hc dX3_read_80 ?_
              refine g_icmp_ne (tgt := 93) hc dX3_read_81 (by decide) (by first | exact hI _ _ | exact hxI2 _ _ | exact hIa _ _ | exact hIb _ _ | exact g_b32 | exact g_and32 | assumption | exact ⟨by omega, by omega⟩) (by first | exact hI _ _ | exact hxI2 _ _ | exact hIa _ _ | exact hIb _ _ | exact g_b32 | exact g_and32 | assumption | exact ⟨by omega, by omega⟩) (fun c5 => ?_) (fun c5 => ?_)
              · skip
                have hsg : m_sg Im ≠ -1 := fun z => by
                  have : m_it 0 (m_sg Im) = -1 := by rw [z]; rfl
                  omega
                refine g_iload_n hc dX3_read_93 rfl ?_
                refine g_iconst hc dX3_read_94 ?_
                refine g_iload hc dX3_read_95 rfl ?_
                refine g_ishl hc dX3_read_97 ?_
                refine g_ior hc dX3_read_98 ?_
                refine g_istore_2 hc dX3_read_99 rfl ?_
                refine g_aldn hc dX3_read_100 rfl ?_
                refine g_dup hc dX3_read_101 rfl ?_
                refine g_getI' hc lk_X3_46 ca_1 2 rfl dX3_read_102 ?_
                refine g_iconst hc dX3_read_105 ?_
                refine g_iadd hc dX3_read_106 ?_
                refine g_putI' hc lk_X3_46 ca_1 2 rfl dX3_read_107 (fun I5 hI5 => ?_)
                have hmI5 : l_ok b I5 := by rw [hI5]; exact m_adv_ok hb hmI4 (by subst_vars; exact m_sg_in hmIm hsg)
                have hMI5 : m_adv I4 = I5 := by rw [hI5]; first | rfl | (unfold m_fct; rw [if_pos (by assumption)]) | (unfold m_fct; rw [if_neg (by assumption)]) | (unfold m_f2; rw [if_pos (by assumption)]) | (unfold m_f2; rw [if_neg (by assumption)])
                clear hI5
                refine g_aldn hc dX3_read_110 rfl ?_
                refine g_getRk hc lk_X3_25 ca_539 (rc_539_4 hR) dX3_read_111 ?_
                refine g_iload hc dX3_read_114 rfl ?_
                refine g_aldn hc dX3_read_116 rfl ?_
                refine g_iconst hc dX3_read_117 ?_
                have hlo := g_st_b (i := 0) (j := m_it 0 (m_sg Im)) (by decide) (by omega)
                have hhi := g_st_b (i := 1) (j := m_it 0 (m_sg Im)) (by decide) (by omega)
                have hlo0 := hlo.2.2 (by decide)
                refine g_aldn hc dX3_read_118 rfl ?_
                refine g_getR hc lk_X3_15 ca_539 (rc_539_1 hR) dX3_read_119 ?_
                refine g_iload hc dX3_read_122 rfl ?_
                refine g_tlds (i := 0) hc rfl (by omega) (by omega) (by decide) dX3_read_124 ?_
                refine g_aldn hc dX3_read_125 rfl ?_
                refine g_getR hc lk_X3_19 ca_539 (rc_539_2 hR) dX3_read_126 ?_
                refine g_iload hc dX3_read_129 rfl ?_
                refine g_tlds (i := 1) hc rfl (by omega) (by omega) (by decide) dX3_read_131 ?_
                refine g_V3r hc (m_number w hR hmI5 (by first | exact hI _ _ | exact hxI2 _ _ | exact hIa _ _ | exact hIb _ _ | exact g_b32 | exact g_and32 | assumption | exact ⟨by omega, by omega⟩) (by first | exact hI _ _ | exact hxI2 _ _ | exact hIa _ _ | exact hIb _ _ | exact g_b32 | exact g_and32 | assumption | exact ⟨by omega, by omega⟩)) my_X8_number mv_X8_number ca_1 rfl rfl lm_X3_54 rfl (by decide) (Nat.le_of_ble_eq_true rfl) hm dX3_read_132 ?_
                have hnvI6 := (m_nm_ok (lo := (g_st 0 (m_it 0 (m_sg Im)))) (hi := (g_st 1 (m_it 0 (m_sg Im)))) hb hmI5 ⟨by omega, by omega⟩).2
                generalize hMI6 : m_nm (g_st 0 (m_it 0 (m_sg Im))) (g_st 1 (m_it 0 (m_sg Im))) I5 = I6
                have hmI6 : l_ok b I6 := hMI6 ▸ (m_nm_ok hb hmI5 ⟨by omega, by omega⟩).1
                refine g_iast' hc ca_540 (by decide) (by omega) (by omega)  dX3_read_135 (fun I7 hI7 => ?_)
                have hmI7 : l_ok b I7 := by rw [hI7]; exact l_up hmI6 (by omega) (by first | exact hI _ _ | exact hxI2 _ _ | exact hIa _ _ | exact hIb _ _ | exact g_b32 | exact g_and32 | assumption | exact ⟨by omega, by omega⟩)
                refine g_iinc_3 hc dX3_read_136 rfl ?_
                refine g_goto (tgt := 22) hc dX3_read_139 (by decide) ?_
                refine G_sub (L' := [some (gvr w 539), some (gvr w 1), some (gvI (g_or e (g_shl 1 (m_it 0 (m_sg Im))))), some (gvI (i + 1)), none, none]) (show g_le _ _ from ⟨rfl, ⟨rfl, ⟨rfl, ⟨rfl, trivial⟩⟩⟩⟩) ?_
                refine ih_22 _ _ _ ?_ ?_ ?_ ?_
                · omega
                · rw [h4, show (5 + 1 - i).toNat = (5 - i).toNat + 1 by omega, m_itn, if_neg (by omega), if_neg (by assumption), show (5 + 1 - (i + 1)).toNat = (5 - i).toNat by omega]; subst_vars; rfl
                · exact hmI7
                · omega
              · skip
                refine g_aldn hc dX3_read_84 rfl ?_
                refine g_aldn hc dX3_read_85 rfl ?_
                refine g_getI' hc lk_X3_46 ca_1 2 rfl dX3_read_86 ?_
                refine g_V1v hc (m_failAt w hR hmI4 (by first | (rw [← hMI4]; first | exact m_sk_fx (b := b) (by assumption) | exact m_tk_fx (b := b) (by assumption) (by assumption)) | (exfalso; omega))) my_X8_failAt mv_X8_failAt ca_1 rfl rfl lm_X3_50 rfl (by decide) (Nat.le_of_ble_eq_true rfl) hm dX3_read_89 ?_
                generalize hMI8 : m_fl I4 = I8
                have hmI8 : l_ok b I8 := hMI8 ▸ m_fl_ok hb hmI4
                refine g_vret hc hm dX3_read_92 ?_
                exact ⟨rfl, rfl, by rw [h4, show (5 + 1 - i).toNat = (5 - i).toNat + 1 by omega, m_itn, if_neg (by omega), if_pos (by assumption)]; subst_vars; rfl, rfl, rfl⟩
            · skip
              refine g_vret hc hm dX3_read_73 ?_
              exact ⟨rfl, rfl, by rw [h4, show (5 + 1 - i).toNat = (5 - i).toNat + 1 by omega, m_itn, if_pos (by omega)]; subst_vars; rfl, rfl, rfl⟩
        · skip
          refine g_iconst hc dX3_read_42 ?_
          refine g_goto (tgt := 56) hc dX3_read_43 (by decide) ?_
          rw [show (-1) = m_it 0 (m_sg Im) from by first | (rw [m_it, if_pos (by omega)]) | (rw [m_it, if_neg (by omega)])]
          refine g_istore_5 hc dX3_read_56 rfl ?_
          refine g_iload hc dX3_read_58 rfl ?_
          refine g_if_lt (tgt := 73) hc dX3_read_60 (by decide) (by first | exact hI _ _ | exact hxI2 _ _ | exact hIa _ _ | exact hIb _ _ | exact g_b32 | exact g_and32 | assumption | exact ⟨by omega, by omega⟩) (fun c6 => ?_) (fun c6 => ?_)
          · skip
            refine g_vret hc hm dX3_read_73 ?_
            exact ⟨rfl, rfl, by rw [h4, show (5 + 1 - i).toNat = (5 - i).toNat + 1 by omega, m_itn, if_pos (by omega)]; subst_vars; rfl, rfl, rfl⟩
          · skip
            refine g_iload hc dX3_read_63 rfl ?_
            refine g_aldn hc dX3_read_65 rfl ?_
            refine g_getRk hc lk_X3_25 ca_539 (rc_539_4 hR) dX3_read_66 ?_
            refine g_alen hc ca_540 (by decide) dX3_read_69 ?_
            refine g_icmp_lt (tgt := 74) hc dX3_read_70 (by decide) (by first | exact hI _ _ | exact hxI2 _ _ | exact hIa _ _ | exact hIb _ _ | exact g_b32 | exact g_and32 | assumption | exact ⟨by omega, by omega⟩) (by first | exact hI _ _ | exact hxI2 _ _ | exact hIa _ _ | exact hIb _ _ | exact g_b32 | exact g_and32 | assumption | exact ⟨by omega, by omega⟩) (fun c7 => ?_) (fun c7 => ?_)
            · skip
              refine g_iload_n hc dX3_read_74 rfl ?_
              refine g_iload hc dX3_read_75 rfl ?_
              refine g_ishr hc dX3_read_77 ?_
              refine g_iconst hc dX3_read_78 ?_
              refine g_iand hc dX3_read_79 ?_
              refine g_iconst hc dX3_read_80 ?_
              refine g_icmp_ne (tgt := 93) hc dX3_read_81 (by decide) (by first | exact hI _ _ | exact hxI2 _ _ | exact hIa _ _ | exact hIb _ _ | exact g_b32 | exact g_and32 | assumption | exact ⟨by omega, by omega⟩) (by first | exact hI _ _ | exact hxI2 _ _ | exact hIa _ _ | exact hIb _ _ | exact g_b32 | exact g_and32 | assumption | exact ⟨by omega, by omega⟩) (fun c8 => ?_) (fun c8 => ?_)
              · skip
                have hsg : m_sg Im ≠ -1 := fun z => by
                  have : m_it 0 (m_sg Im) = -1 := by rw [z]; rfl
                  omega
                refine g_iload_n hc dX3_read_93 rfl ?_
                refine g_iconst hc dX3_read_94 ?_
                refine g_iload hc dX3_read_95 rfl ?_
                refine g_ishl hc dX3_read_97 ?_
                refine g_ior hc dX3_read_98 ?_
                refine g_istore_2 hc dX3_read_99 rfl ?_
                refine g_aldn hc dX3_read_100 rfl ?_
                refine g_dup hc dX3_read_101 rfl ?_
                refine g_getI' hc lk_X3_46 ca_1 2 rfl dX3_read_102 ?_
                refine g_iconst hc dX3_read_105 ?_
                refine g_iadd hc dX3_read_106 ?_
                refine g_putI' hc lk_X3_46 ca_1 2 rfl dX3_read_107 (fun I9 hI9 => ?_)
                have hmI9 : l_ok b I9 := by rw [hI9]; exact m_adv_ok hb hmI4 (by subst_vars; exact m_sg_in hmIm hsg)
                have hMI9 : m_adv I4 = I9 := by rw [hI9]; first | rfl | (unfold m_fct; rw [if_pos (by assumption)]) | (unfold m_fct; rw [if_neg (by assumption)]) | (unfold m_f2; rw [if_pos (by assumption)]) | (unfold m_f2; rw [if_neg (by assumption)])
                clear hI9
                refine g_aldn hc dX3_read_110 rfl ?_
                refine g_getRk hc lk_X3_25 ca_539 (rc_539_4 hR) dX3_read_111 ?_
                refine g_iload hc dX3_read_114 rfl ?_
                refine g_aldn hc dX3_read_116 rfl ?_
                refine g_iconst hc dX3_read_117 ?_
                have hlo := g_st_b (i := 0) (j := m_it 0 (m_sg Im)) (by decide) (by omega)
                have hhi := g_st_b (i := 1) (j := m_it 0 (m_sg Im)) (by decide) (by omega)
                have hlo0 := hlo.2.2 (by decide)
                refine g_aldn hc dX3_read_118 rfl ?_
                refine g_getR hc lk_X3_15 ca_539 (rc_539_1 hR) dX3_read_119 ?_
                refine g_iload hc dX3_read_122 rfl ?_
                refine g_tlds (i := 0) hc rfl (by omega) (by omega) (by decide) dX3_read_124 ?_
                refine g_aldn hc dX3_read_125 rfl ?_
                refine g_getR hc lk_X3_19 ca_539 (rc_539_2 hR) dX3_read_126 ?_
                refine g_iload hc dX3_read_129 rfl ?_
                refine g_tlds (i := 1) hc rfl (by omega) (by omega) (by decide) dX3_read_131 ?_
                refine g_V3r hc (m_number w hR hmI9 (by first | exact hI _ _ | exact hxI2 _ _ | exact hIa _ _ | exact hIb _ _ | exact g_b32 | exact g_and32 | assumption | exact ⟨by omega, by omega⟩) (by first | exact hI _ _ | exact hxI2 _ _ | exact hIa _ _ | exact hIb _ _ | exact g_b32 | exact g_and32 | assumption | exact ⟨by omega, by omega⟩)) my_X8_number mv_X8_number ca_1 rfl rfl lm_X3_54 rfl (by decide) (Nat.le_of_ble_eq_true rfl) hm dX3_read_132 ?_
                have hnvI10 := (m_nm_ok (lo := (g_st 0 (m_it 0 (m_sg Im)))) (hi := (g_st 1 (m_it 0 (m_sg Im)))) hb hmI9 ⟨by omega, by omega⟩).2
                generalize hMI10 : m_nm (g_st 0 (m_it 0 (m_sg Im))) (g_st 1 (m_it 0 (m_sg Im))) I9 = I10
                have hmI10 : l_ok b I10 := hMI10 ▸ (m_nm_ok hb hmI9 ⟨by omega, by omega⟩).1
                refine g_iast' hc ca_540 (by decide) (by omega) (by omega)  dX3_read_135 (fun I11 hI11 => ?_)
                have hmI11 : l_ok b I11 := by rw [hI11]; exact l_up hmI10 (by omega) (by first | exact hI _ _ | exact hxI2 _ _ | exact hIa _ _ | exact hIb _ _ | exact g_b32 | exact g_and32 | assumption | exact ⟨by omega, by omega⟩)
                refine g_iinc_3 hc dX3_read_136 rfl ?_
                refine g_goto (tgt := 22) hc dX3_read_139 (by decide) ?_
                refine G_sub (L' := [some (gvr w 539), some (gvr w 1), some (gvI (g_or e (g_shl 1 (m_it 0 (m_sg Im))))), some (gvI (i + 1)), none, none]) (show g_le _ _ from ⟨rfl, ⟨rfl, ⟨rfl, ⟨rfl, trivial⟩⟩⟩⟩) ?_
                refine ih_22 _ _ _ ?_ ?_ ?_ ?_
                · omega
                · rw [h4, show (5 + 1 - i).toNat = (5 - i).toNat + 1 by omega, m_itn, if_neg (by omega), if_neg (by assumption), show (5 + 1 - (i + 1)).toNat = (5 - i).toNat by omega]; subst_vars; rfl
                · exact hmI11
                · omega
              · skip
                refine g_aldn hc dX3_read_84 rfl ?_
                refine g_aldn hc dX3_read_85 rfl ?_
                refine g_getI' hc lk_X3_46 ca_1 2 rfl dX3_read_86 ?_
                refine g_V1v hc (m_failAt w hR hmI4 (by first | (rw [← hMI4]; first | exact m_sk_fx (b := b) (by assumption) | exact m_tk_fx (b := b) (by assumption) (by assumption)) | (exfalso; omega))) my_X8_failAt mv_X8_failAt ca_1 rfl rfl lm_X3_50 rfl (by decide) (Nat.le_of_ble_eq_true rfl) hm dX3_read_89 ?_
                generalize hMI12 : m_fl I4 = I12
                have hmI12 : l_ok b I12 := hMI12 ▸ m_fl_ok hb hmI4
                refine g_vret hc hm dX3_read_92 ?_
                exact ⟨rfl, rfl, by rw [h4, show (5 + 1 - i).toNat = (5 - i).toNat + 1 by omega, m_itn, if_neg (by omega), if_pos (by assumption)]; subst_vars; rfl, rfl, rfl⟩
            · skip
              refine g_vret hc hm dX3_read_73 ?_
              exact ⟨rfl, rfl, by rw [h4, show (5 + 1 - i).toNat = (5 - i).toNat + 1 by omega, m_itn, if_pos (by omega)]; subst_vars; rfl, rfl, rfl⟩
  refine lp_22 8 _ _ _ ?_ ?_ ?_ (?_)
  · omega
  · subst_vars; rfl
  · exact hmI3
  · omega
set_option maxHeartbeats 4000000 in
set_option maxRecDepth 100000 in
/-- X3_read -/
theorem i_fork (w : g_W) {I : g_I} {J : g_J} {R : g_R} {lb tx : Nat} (hR : g_rf w R lb tx) {b : Nat} (hb : g_life b) (hmI : l_ok b I)  : g_Met w g_n I J R yX3_read cX3_read 6 none 4 0 0 [(gvr w 541), (gvr w 1)] (g_post none g_n (m_items 542 2 1 3 4 5 I) J R) := by
  refine g_intro (own := RX3) [some (gvr w 541), some (gvr w 1), none, none, none, none] (by decide +kernel) rfl (by decide) (Nat.le_of_ble_eq_true rfl) rfl (fun i v hv => g_args 4 i v hv rfl) (fun x hc hm => ?_)
  have hb5 := hb
  unfold g_life at hb5
  refine g_aldn hc dX3_read_0 rfl ?_
  refine g_getR hc lk_X3_22 ca_541 (rc_541_3 hR) dX3_read_1 ?_
  refine g_iconst hc dX3_read_4 ?_
  refine g_aldn hc dX3_read_5 rfl ?_
  refine g_getRk hc lk_X3_25 ca_541 (rc_541_4 hR) dX3_read_6 ?_
  refine g_iconst hc dX3_read_9 ?_
  refine g_aldn hc dX3_read_10 rfl ?_
  refine g_getRk hc lk_X3_25 ca_541 (rc_541_4 hR) dX3_read_11 ?_
  refine g_alen hc ca_542 (by decide) dX3_read_14 ?_
  refine g_copyS (i := 5) hc rfl ca_542 (by decide) rfl ac_X3_28 ac_nat ac_sta ac_ini rfl (by decide) (by decide) (Nat.le_of_ble_eq_true rfl) dX3_read_15 (fun I3 hI3 => ?_)
  have hMI3 : m_us 542 5 I = I3 := hI3.symm
  clear hI3
  have hmI3 : l_ok b I3 := hMI3 ▸ m_us_ok hb hmI (by decide) (by decide)
  refine g_iconst hc dX3_read_18 ?_
  refine g_istore_2 hc dX3_read_19 rfl ?_
  refine g_iconst hc dX3_read_20 ?_
  refine g_istore_3 hc dX3_read_21 rfl ?_
  have lp_22 : ∀ (fu : Nat) (e i : Int) (Im : g_I), 0 ≤ i ∧ i ≤ 2 + 1 → m_items 542 2 1 3 4 5 I = m_itn 542 2 1 3 4 (2 + 1 - i).toNat e Im → l_ok b Im → 2 + 1 - i < (fu : Int) → G w x (g_post none g_n (m_items 542 2 1 3 4 5 I) J R) 0 0 g_n Im J R 22 [some (gvr w 541), some (gvr w 1), some (gvI e), some (gvI i), none, none] [] := by
    intro fu
    induction fu with
    | zero => intro e i Im h3 h4 hmIm hfu; exfalso; omega
    | succ fu ih =>
      intro e i Im h3 h4 hmIm hfu
      have ih_22 := ih
      refine g_iload_n hc dX3_read_22 rfl ?_
      refine g_aldn hc dX3_read_23 rfl ?_
      refine g_getRk hc lk_X3_25 ca_541 (rc_541_4 hR) dX3_read_24 ?_
      refine g_alen hc ca_542 (by decide) dX3_read_27 ?_
      refine g_icmp_gt (tgt := 142) hc dX3_read_28 (by decide) (by first | exact hI _ _ | exact hxI2 _ _ | exact hIa _ _ | exact hIb _ _ | exact g_b32 | exact g_and32 | assumption | exact ⟨by omega, by omega⟩) (by first | exact hI _ _ | exact hxI2 _ _ | exact hIa _ _ | exact hIb _ _ | exact g_b32 | exact g_and32 | assumption | exact ⟨by omega, by omega⟩) (fun c1 => ?_) (fun c1 => ?_)
      · skip
        refine g_vret hc hm dX3_read_142 ?_
        exact ⟨rfl, rfl, by rw [h4, show (2 + 1 - i).toNat = 0 by omega, m_itn], rfl, rfl⟩
      · skip
        refine g_aldn hc dX3_read_31 rfl ?_
        refine g_V0r hc (m_sign w hR hmIm) my_X8_sign mv_X8_sign ca_1 rfl rfl lm_X3_34 rfl (by decide) (Nat.le_of_ble_eq_true rfl) hm dX3_read_32 ?_
        generalize hMI4 : m_sk Im = I4
        have hmI4 : l_ok b I4 := hMI4 ▸ m_sk_ok hb hmIm
        refine g_istore_4 hc dX3_read_35 rfl ?_
        have hsb := m_sg_b hmIm
        have hit := m_it_in (X := 1) (c := m_sg Im) (by decide)
        refine g_iload hc dX3_read_37 rfl ?_
        refine g_if_ge (tgt := 46) hc dX3_read_39 (by decide) (by exact ⟨by omega, by omega⟩) (fun c2 => ?_) (fun c2 => ?_)
        · skip
          refine g_aldn hc dX3_read_46 rfl ?_
          refine g_getR hc lk_X3_9 ca_541 (rc_541_0 hR) dX3_read_47 ?_
          refine g_iload hc dX3_read_50 rfl ?_
          refine g_i2c hc dX3_read_52 ?_
          rw [show g_i2c' (m_sg Im) = m_sg Im from g_i2c_id (by omega)]
          refine g_T1r (i := 1) (by decide) hc (c_J0_indexOf_0f7a4 w (by decide) (by first | exact hI _ _ | exact hxI2 _ _ | exact hIa _ _ | exact hIb _ _ | exact g_b32 | exact g_and32 | assumption | exact ⟨by omega, by omega⟩) (by omega) (by first | assumption | decide)) my_J0_indexOf_0f7a4 mv_J0_indexOf_0f7a4 rfl lm_X3_40 rfl (by decide) (Nat.le_of_ble_eq_true rfl) hm dX3_read_53 ?_
          rw [show g_inx 1 (m_sg Im) = m_it 1 (m_sg Im) from by first | (rw [m_it, if_pos (by omega)]) | (rw [m_it, if_neg (by omega)])]
          refine g_istore_5 hc dX3_read_56 rfl ?_
          refine g_iload hc dX3_read_58 rfl ?_
          refine g_if_lt (tgt := 73) hc dX3_read_60 (by decide) (by first | exact hI _ _ | exact hxI2 _ _ | exact hIa _ _ | exact hIb _ _ | exact g_b32 | exact g_and32 | assumption | exact ⟨by omega, by omega⟩) (fun c3 => ?_) (fun c3 => ?_)
          · skip
            refine g_vret hc hm dX3_read_73 ?_
            exact ⟨rfl, rfl, by rw [h4, show (2 + 1 - i).toNat = (2 - i).toNat + 1 by omega, m_itn, if_pos (by omega)]; subst_vars; rfl, rfl, rfl⟩
          · skip
            refine g_iload hc dX3_read_63 rfl ?_
            refine g_aldn hc dX3_read_65 rfl ?_
            refine g_getRk hc lk_X3_25 ca_541 (rc_541_4 hR) dX3_read_66 ?_
            refine g_alen hc ca_542 (by decide) dX3_read_69 ?_
            refine g_icmp_lt (tgt := 74) hc dX3_read_70 (by decide) (by first | exact hI _ _ | exact hxI2 _ _ | exact hIa _ _ | exact hIb _ _ | exact g_b32 | exact g_and32 | assumption | exact ⟨by omega, by omega⟩) (by first | exact hI _ _ | exact hxI2 _ _ | exact hIa _ _ | exact hIb _ _ | exact g_b32 | exact g_and32 | assumption | exact ⟨by omega, by omega⟩) (fun c4 => ?_) (fun c4 => ?_)
            · skip
              refine g_iload_n hc dX3_read_74 rfl ?_
              refine g_iload hc dX3_read_75 rfl ?_
              refine g_ishr hc dX3_read_77 ?_
              refine g_iconst hc dX3_read_78 ?_
              refine g_iand hc dX3_read_79 ?_
              refine g_iconst hc dX3_read_80 ?_
              refine g_icmp_ne (tgt := 93) hc dX3_read_81 (by decide) (by first | exact hI _ _ | exact hxI2 _ _ | exact hIa _ _ | exact hIb _ _ | exact g_b32 | exact g_and32 | assumption | exact ⟨by omega, by omega⟩) (by first | exact hI _ _ | exact hxI2 _ _ | exact hIa _ _ | exact hIb _ _ | exact g_b32 | exact g_and32 | assumption | exact ⟨by omega, by omega⟩) (fun c5 => ?_) (fun c5 => ?_)
              · skip
                have hsg : m_sg Im ≠ -1 := fun z => by
                  have : m_it 1 (m_sg Im) = -1 := by rw [z]; rfl
                  omega
                refine g_iload_n hc dX3_read_93 rfl ?_
                refine g_iconst hc dX3_read_94 ?_
                refine g_iload hc dX3_read_95 rfl ?_
                refine g_ishl hc dX3_read_97 ?_
                refine g_ior hc dX3_read_98 ?_
                refine g_istore_2 hc dX3_read_99 rfl ?_
                refine g_aldn hc dX3_read_100 rfl ?_
                refine g_dup hc dX3_read_101 rfl ?_
                refine g_getI' hc lk_X3_46 ca_1 2 rfl dX3_read_102 ?_
                refine g_iconst hc dX3_read_105 ?_
                refine g_iadd hc dX3_read_106 ?_
                refine g_putI' hc lk_X3_46 ca_1 2 rfl dX3_read_107 (fun I5 hI5 => ?_)
                have hmI5 : l_ok b I5 := by rw [hI5]; exact m_adv_ok hb hmI4 (by subst_vars; exact m_sg_in hmIm hsg)
                have hMI5 : m_adv I4 = I5 := by rw [hI5]; first | rfl | (unfold m_fct; rw [if_pos (by assumption)]) | (unfold m_fct; rw [if_neg (by assumption)]) | (unfold m_f2; rw [if_pos (by assumption)]) | (unfold m_f2; rw [if_neg (by assumption)])
                clear hI5
                refine g_aldn hc dX3_read_110 rfl ?_
                refine g_getRk hc lk_X3_25 ca_541 (rc_541_4 hR) dX3_read_111 ?_
                refine g_iload hc dX3_read_114 rfl ?_
                refine g_aldn hc dX3_read_116 rfl ?_
                refine g_iconst hc dX3_read_117 ?_
                have hlo := g_st_b (i := 3) (j := m_it 1 (m_sg Im)) (by decide) (by omega)
                have hhi := g_st_b (i := 4) (j := m_it 1 (m_sg Im)) (by decide) (by omega)
                have hlo0 := hlo.2.2 (by decide)
                refine g_aldn hc dX3_read_118 rfl ?_
                refine g_getR hc lk_X3_15 ca_541 (rc_541_1 hR) dX3_read_119 ?_
                refine g_iload hc dX3_read_122 rfl ?_
                refine g_tlds (i := 3) hc rfl (by omega) (by omega) (by decide) dX3_read_124 ?_
                refine g_aldn hc dX3_read_125 rfl ?_
                refine g_getR hc lk_X3_19 ca_541 (rc_541_2 hR) dX3_read_126 ?_
                refine g_iload hc dX3_read_129 rfl ?_
                refine g_tlds (i := 4) hc rfl (by omega) (by omega) (by decide) dX3_read_131 ?_
                refine g_V3r hc (m_number w hR hmI5 (by first | exact hI _ _ | exact hxI2 _ _ | exact hIa _ _ | exact hIb _ _ | exact g_b32 | exact g_and32 | assumption | exact ⟨by omega, by omega⟩) (by first | exact hI _ _ | exact hxI2 _ _ | exact hIa _ _ | exact hIb _ _ | exact g_b32 | exact g_and32 | assumption | exact ⟨by omega, by omega⟩)) my_X8_number mv_X8_number ca_1 rfl rfl lm_X3_54 rfl (by decide) (Nat.le_of_ble_eq_true rfl) hm dX3_read_132 ?_
                have hnvI6 := (m_nm_ok (lo := (g_st 3 (m_it 1 (m_sg Im)))) (hi := (g_st 4 (m_it 1 (m_sg Im)))) hb hmI5 ⟨by omega, by omega⟩).2
                generalize hMI6 : m_nm (g_st 3 (m_it 1 (m_sg Im))) (g_st 4 (m_it 1 (m_sg Im))) I5 = I6
                have hmI6 : l_ok b I6 := hMI6 ▸ (m_nm_ok hb hmI5 ⟨by omega, by omega⟩).1
                refine g_iast' hc ca_542 (by decide) (by omega) (by omega)  dX3_read_135 (fun I7 hI7 => ?_)
                have hmI7 : l_ok b I7 := by rw [hI7]; exact l_up hmI6 (by omega) (by first | exact hI _ _ | exact hxI2 _ _ | exact hIa _ _ | exact hIb _ _ | exact g_b32 | exact g_and32 | assumption | exact ⟨by omega, by omega⟩)
                refine g_iinc_3 hc dX3_read_136 rfl ?_
                refine g_goto (tgt := 22) hc dX3_read_139 (by decide) ?_
                refine G_sub (L' := [some (gvr w 541), some (gvr w 1), some (gvI (g_or e (g_shl 1 (m_it 1 (m_sg Im))))), some (gvI (i + 1)), none, none]) (show g_le _ _ from ⟨rfl, ⟨rfl, ⟨rfl, ⟨rfl, trivial⟩⟩⟩⟩) ?_
                refine ih_22 _ _ _ ?_ ?_ ?_ ?_
                · omega
                · rw [h4, show (2 + 1 - i).toNat = (2 - i).toNat + 1 by omega, m_itn, if_neg (by omega), if_neg (by assumption), show (2 + 1 - (i + 1)).toNat = (2 - i).toNat by omega]; subst_vars; rfl
                · exact hmI7
                · omega
              · skip
                refine g_aldn hc dX3_read_84 rfl ?_
                refine g_aldn hc dX3_read_85 rfl ?_
                refine g_getI' hc lk_X3_46 ca_1 2 rfl dX3_read_86 ?_
                refine g_V1v hc (m_failAt w hR hmI4 (by first | (rw [← hMI4]; first | exact m_sk_fx (b := b) (by assumption) | exact m_tk_fx (b := b) (by assumption) (by assumption)) | (exfalso; omega))) my_X8_failAt mv_X8_failAt ca_1 rfl rfl lm_X3_50 rfl (by decide) (Nat.le_of_ble_eq_true rfl) hm dX3_read_89 ?_
                generalize hMI8 : m_fl I4 = I8
                have hmI8 : l_ok b I8 := hMI8 ▸ m_fl_ok hb hmI4
                refine g_vret hc hm dX3_read_92 ?_
                exact ⟨rfl, rfl, by rw [h4, show (2 + 1 - i).toNat = (2 - i).toNat + 1 by omega, m_itn, if_neg (by omega), if_pos (by assumption)]; subst_vars; rfl, rfl, rfl⟩
            · skip
              refine g_vret hc hm dX3_read_73 ?_
              exact ⟨rfl, rfl, by rw [h4, show (2 + 1 - i).toNat = (2 - i).toNat + 1 by omega, m_itn, if_pos (by omega)]; subst_vars; rfl, rfl, rfl⟩
        · skip
          refine g_iconst hc dX3_read_42 ?_
          refine g_goto (tgt := 56) hc dX3_read_43 (by decide) ?_
          rw [show (-1) = m_it 1 (m_sg Im) from by first | (rw [m_it, if_pos (by omega)]) | (rw [m_it, if_neg (by omega)])]
          refine g_istore_5 hc dX3_read_56 rfl ?_
          refine g_iload hc dX3_read_58 rfl ?_
          refine g_if_lt (tgt := 73) hc dX3_read_60 (by decide) (by first | exact hI _ _ | exact hxI2 _ _ | exact hIa _ _ | exact hIb _ _ | exact g_b32 | exact g_and32 | assumption | exact ⟨by omega, by omega⟩) (fun c6 => ?_) (fun c6 => ?_)
          · skip
            refine g_vret hc hm dX3_read_73 ?_
            exact ⟨rfl, rfl, by rw [h4, show (2 + 1 - i).toNat = (2 - i).toNat + 1 by omega, m_itn, if_pos (by omega)]; subst_vars; rfl, rfl, rfl⟩
          · skip
            refine g_iload hc dX3_read_63 rfl ?_
            refine g_aldn hc dX3_read_65 rfl ?_
            refine g_getRk hc lk_X3_25 ca_541 (rc_541_4 hR) dX3_read_66 ?_
            refine g_alen hc ca_542 (by decide) dX3_read_69 ?_
            refine g_icmp_lt (tgt := 74) hc dX3_read_70 (by decide) (by first | exact hI _ _ | exact hxI2 _ _ | exact hIa _ _ | exact hIb _ _ | exact g_b32 | exact g_and32 | assumption | exact ⟨by omega, by omega⟩) (by first | exact hI _ _ | exact hxI2 _ _ | exact hIa _ _ | exact hIb _ _ | exact g_b32 | exact g_and32 | assumption | exact ⟨by omega, by omega⟩) (fun c7 => ?_) (fun c7 => ?_)
            · skip
              refine g_iload_n hc dX3_read_74 rfl ?_
              refine g_iload hc dX3_read_75 rfl ?_
              refine g_ishr hc dX3_read_77 ?_
              refine g_iconst hc dX3_read_78 ?_
              refine g_iand hc dX3_read_79 ?_
              refine g_iconst hc dX3_read_80 ?_
              refine g_icmp_ne (tgt := 93) hc dX3_read_81 (by decide) (by first | exact hI _ _ | exact hxI2 _ _ | exact hIa _ _ | exact hIb _ _ | exact g_b32 | exact g_and32 | assumption | exact ⟨by omega, by omega⟩) (by first | exact hI _ _ | exact hxI2 _ _ | exact hIa _ _ | exact hIb _ _ | exact g_b32 | exact g_and32 | assumption | exact ⟨by omega, by omega⟩) (fun c8 => ?_) (fun c8 => ?_)
              · skip
                have hsg : m_sg Im ≠ -1 := fun z => by
                  have : m_it 1 (m_sg Im) = -1 := by rw [z]; rfl
                  omega
                refine g_iload_n hc dX3_read_93 rfl ?_
                refine g_iconst hc dX3_read_94 ?_
                refine g_iload hc dX3_read_95 rfl ?_
                refine g_ishl hc dX3_read_97 ?_
                refine g_ior hc dX3_read_98 ?_
                refine g_istore_2 hc dX3_read_99 rfl ?_
                refine g_aldn hc dX3_read_100 rfl ?_
                refine g_dup hc dX3_read_101 rfl ?_
                refine g_getI' hc lk_X3_46 ca_1 2 rfl dX3_read_102 ?_
                refine g_iconst hc dX3_read_105 ?_
                refine g_iadd hc dX3_read_106 ?_
                refine g_putI' hc lk_X3_46 ca_1 2 rfl dX3_read_107 (fun I9 hI9 => ?_)
                have hmI9 : l_ok b I9 := by rw [hI9]; exact m_adv_ok hb hmI4 (by subst_vars; exact m_sg_in hmIm hsg)
                have hMI9 : m_adv I4 = I9 := by rw [hI9]; first | rfl | (unfold m_fct; rw [if_pos (by assumption)]) | (unfold m_fct; rw [if_neg (by assumption)]) | (unfold m_f2; rw [if_pos (by assumption)]) | (unfold m_f2; rw [if_neg (by assumption)])
                clear hI9
                refine g_aldn hc dX3_read_110 rfl ?_
                refine g_getRk hc lk_X3_25 ca_541 (rc_541_4 hR) dX3_read_111 ?_
                refine g_iload hc dX3_read_114 rfl ?_
                refine g_aldn hc dX3_read_116 rfl ?_
                refine g_iconst hc dX3_read_117 ?_
                have hlo := g_st_b (i := 3) (j := m_it 1 (m_sg Im)) (by decide) (by omega)
                have hhi := g_st_b (i := 4) (j := m_it 1 (m_sg Im)) (by decide) (by omega)
                have hlo0 := hlo.2.2 (by decide)
                refine g_aldn hc dX3_read_118 rfl ?_
                refine g_getR hc lk_X3_15 ca_541 (rc_541_1 hR) dX3_read_119 ?_
                refine g_iload hc dX3_read_122 rfl ?_
                refine g_tlds (i := 3) hc rfl (by omega) (by omega) (by decide) dX3_read_124 ?_
                refine g_aldn hc dX3_read_125 rfl ?_
                refine g_getR hc lk_X3_19 ca_541 (rc_541_2 hR) dX3_read_126 ?_
                refine g_iload hc dX3_read_129 rfl ?_
                refine g_tlds (i := 4) hc rfl (by omega) (by omega) (by decide) dX3_read_131 ?_
                refine g_V3r hc (m_number w hR hmI9 (by first | exact hI _ _ | exact hxI2 _ _ | exact hIa _ _ | exact hIb _ _ | exact g_b32 | exact g_and32 | assumption | exact ⟨by omega, by omega⟩) (by first | exact hI _ _ | exact hxI2 _ _ | exact hIa _ _ | exact hIb _ _ | exact g_b32 | exact g_and32 | assumption | exact ⟨by omega, by omega⟩)) my_X8_number mv_X8_number ca_1 rfl rfl lm_X3_54 rfl (by decide) (Nat.le_of_ble_eq_true rfl) hm dX3_read_132 ?_
                have hnvI10 := (m_nm_ok (lo := (g_st 3 (m_it 1 (m_sg Im)))) (hi := (g_st 4 (m_it 1 (m_sg Im)))) hb hmI9 ⟨by omega, by omega⟩).2
                generalize hMI10 : m_nm (g_st 3 (m_it 1 (m_sg Im))) (g_st 4 (m_it 1 (m_sg Im))) I9 = I10
                have hmI10 : l_ok b I10 := hMI10 ▸ (m_nm_ok hb hmI9 ⟨by omega, by omega⟩).1
                refine g_iast' hc ca_542 (by decide) (by omega) (by omega)  dX3_read_135 (fun I11 hI11 => ?_)
                have hmI11 : l_ok b I11 := by rw [hI11]; exact l_up hmI10 (by omega) (by first | exact hI _ _ | exact hxI2 _ _ | exact hIa _ _ | exact hIb _ _ | exact g_b32 | exact g_and32 | assumption | exact ⟨by omega, by omega⟩)
                refine g_iinc_3 hc dX3_read_136 rfl ?_
                refine g_goto (tgt := 22) hc dX3_read_139 (by decide) ?_
                refine G_sub (L' := [some (gvr w 541), some (gvr w 1), some (gvI (g_or e (g_shl 1 (m_it 1 (m_sg Im))))), some (gvI (i + 1)), none, none]) (show g_le _ _ from ⟨rfl, ⟨rfl, ⟨rfl, ⟨rfl, trivial⟩⟩⟩⟩) ?_
                refine ih_22 _ _ _ ?_ ?_ ?_ ?_
                · omega
                · rw [h4, show (2 + 1 - i).toNat = (2 - i).toNat + 1 by omega, m_itn, if_neg (by omega), if_neg (by assumption), show (2 + 1 - (i + 1)).toNat = (2 - i).toNat by omega]; subst_vars; rfl
                · exact hmI11
                · omega
              · skip
                refine g_aldn hc dX3_read_84 rfl ?_
                refine g_aldn hc dX3_read_85 rfl ?_
                refine g_getI' hc lk_X3_46 ca_1 2 rfl dX3_read_86 ?_
                refine g_V1v hc (m_failAt w hR hmI4 (by first | (rw [← hMI4]; first | exact m_sk_fx (b := b) (by assumption) | exact m_tk_fx (b := b) (by assumption) (by assumption)) | (exfalso; omega))) my_X8_failAt mv_X8_failAt ca_1 rfl rfl lm_X3_50 rfl (by decide) (Nat.le_of_ble_eq_true rfl) hm dX3_read_89 ?_
                generalize hMI12 : m_fl I4 = I12
                have hmI12 : l_ok b I12 := hMI12 ▸ m_fl_ok hb hmI4
                refine g_vret hc hm dX3_read_92 ?_
                exact ⟨rfl, rfl, by rw [h4, show (2 + 1 - i).toNat = (2 - i).toNat + 1 by omega, m_itn, if_neg (by omega), if_pos (by assumption)]; subst_vars; rfl, rfl, rfl⟩
            · skip
              refine g_vret hc hm dX3_read_73 ?_
              exact ⟨rfl, rfl, by rw [h4, show (2 + 1 - i).toNat = (2 - i).toNat + 1 by omega, m_itn, if_pos (by omega)]; subst_vars; rfl, rfl, rfl⟩
  refine lp_22 8 _ _ _ ?_ ?_ ?_ (?_)
  · omega
  · subst_vars; rfl
  · exact hmI3
  · omega
set_option maxHeartbeats 4000000 in
set_option maxRecDepth 100000 in
/-- X3_read -/
theorem i_bran (w : g_W) {I : g_I} {J : g_J} {R : g_R} {lb tx : Nat} (hR : g_rf w R lb tx) {b : Nat} (hb : g_life b) (hmI : l_ok b I)  : g_Met w g_n I J R yX3_read cX3_read 6 none 4 0 0 [(gvr w 543), (gvr w 1)] (g_post none g_n (m_items 544 5 2 6 7 8 I) J R) := by
  refine g_intro (own := RX3) [some (gvr w 543), some (gvr w 1), none, none, none, none] (by decide +kernel) rfl (by decide) (Nat.le_of_ble_eq_true rfl) rfl (fun i v hv => g_args 4 i v hv rfl) (fun x hc hm => ?_)
  have hb5 := hb
  unfold g_life at hb5
  refine g_aldn hc dX3_read_0 rfl ?_
  refine g_getR hc lk_X3_22 ca_543 (rc_543_3 hR) dX3_read_1 ?_
  refine g_iconst hc dX3_read_4 ?_
  refine g_aldn hc dX3_read_5 rfl ?_
  refine g_getRk hc lk_X3_25 ca_543 (rc_543_4 hR) dX3_read_6 ?_
  refine g_iconst hc dX3_read_9 ?_
  refine g_aldn hc dX3_read_10 rfl ?_
  refine g_getRk hc lk_X3_25 ca_543 (rc_543_4 hR) dX3_read_11 ?_
  refine g_alen hc ca_544 (by decide) dX3_read_14 ?_
  refine g_copyS (i := 8) hc rfl ca_544 (by decide) rfl ac_X3_28 ac_nat ac_sta ac_ini rfl (by decide) (by decide) (Nat.le_of_ble_eq_true rfl) dX3_read_15 (fun I3 hI3 => ?_)
  have hMI3 : m_us 544 8 I = I3 := hI3.symm
  clear hI3
  have hmI3 : l_ok b I3 := hMI3 ▸ m_us_ok hb hmI (by decide) (by decide)
  refine g_iconst hc dX3_read_18 ?_
  refine g_istore_2 hc dX3_read_19 rfl ?_
  refine g_iconst hc dX3_read_20 ?_
  refine g_istore_3 hc dX3_read_21 rfl ?_
  have lp_22 : ∀ (fu : Nat) (e i : Int) (Im : g_I), 0 ≤ i ∧ i ≤ 5 + 1 → m_items 544 5 2 6 7 8 I = m_itn 544 5 2 6 7 (5 + 1 - i).toNat e Im → l_ok b Im → 5 + 1 - i < (fu : Int) → G w x (g_post none g_n (m_items 544 5 2 6 7 8 I) J R) 0 0 g_n Im J R 22 [some (gvr w 543), some (gvr w 1), some (gvI e), some (gvI i), none, none] [] := by
    intro fu
    induction fu with
    | zero => intro e i Im h3 h4 hmIm hfu; exfalso; omega
    | succ fu ih =>
      intro e i Im h3 h4 hmIm hfu
      have ih_22 := ih
      refine g_iload_n hc dX3_read_22 rfl ?_
      refine g_aldn hc dX3_read_23 rfl ?_
      refine g_getRk hc lk_X3_25 ca_543 (rc_543_4 hR) dX3_read_24 ?_
      refine g_alen hc ca_544 (by decide) dX3_read_27 ?_
      refine g_icmp_gt (tgt := 142) hc dX3_read_28 (by decide) (by first | exact hI _ _ | exact hxI2 _ _ | exact hIa _ _ | exact hIb _ _ | exact g_b32 | exact g_and32 | assumption | exact ⟨by omega, by omega⟩) (by first | exact hI _ _ | exact hxI2 _ _ | exact hIa _ _ | exact hIb _ _ | exact g_b32 | exact g_and32 | assumption | exact ⟨by omega, by omega⟩) (fun c1 => ?_) (fun c1 => ?_)
      · skip
        refine g_vret hc hm dX3_read_142 ?_
        exact ⟨rfl, rfl, by rw [h4, show (5 + 1 - i).toNat = 0 by omega, m_itn], rfl, rfl⟩
      · skip
        refine g_aldn hc dX3_read_31 rfl ?_
        refine g_V0r hc (m_sign w hR hmIm) my_X8_sign mv_X8_sign ca_1 rfl rfl lm_X3_34 rfl (by decide) (Nat.le_of_ble_eq_true rfl) hm dX3_read_32 ?_
        generalize hMI4 : m_sk Im = I4
        have hmI4 : l_ok b I4 := hMI4 ▸ m_sk_ok hb hmIm
        refine g_istore_4 hc dX3_read_35 rfl ?_
        have hsb := m_sg_b hmIm
        have hit := m_it_in (X := 2) (c := m_sg Im) (by decide)
        refine g_iload hc dX3_read_37 rfl ?_
        refine g_if_ge (tgt := 46) hc dX3_read_39 (by decide) (by exact ⟨by omega, by omega⟩) (fun c2 => ?_) (fun c2 => ?_)
        · skip
          refine g_aldn hc dX3_read_46 rfl ?_
          refine g_getR hc lk_X3_9 ca_543 (rc_543_0 hR) dX3_read_47 ?_
          refine g_iload hc dX3_read_50 rfl ?_
          refine g_i2c hc dX3_read_52 ?_
          rw [show g_i2c' (m_sg Im) = m_sg Im from g_i2c_id (by omega)]
          refine g_T1r (i := 2) (by decide) hc (c_J0_indexOf_0f7a4 w (by decide) (by first | exact hI _ _ | exact hxI2 _ _ | exact hIa _ _ | exact hIb _ _ | exact g_b32 | exact g_and32 | assumption | exact ⟨by omega, by omega⟩) (by omega) (by first | assumption | decide)) my_J0_indexOf_0f7a4 mv_J0_indexOf_0f7a4 rfl lm_X3_40 rfl (by decide) (Nat.le_of_ble_eq_true rfl) hm dX3_read_53 ?_
          rw [show g_inx 2 (m_sg Im) = m_it 2 (m_sg Im) from by first | (rw [m_it, if_pos (by omega)]) | (rw [m_it, if_neg (by omega)])]
          refine g_istore_5 hc dX3_read_56 rfl ?_
          refine g_iload hc dX3_read_58 rfl ?_
          refine g_if_lt (tgt := 73) hc dX3_read_60 (by decide) (by first | exact hI _ _ | exact hxI2 _ _ | exact hIa _ _ | exact hIb _ _ | exact g_b32 | exact g_and32 | assumption | exact ⟨by omega, by omega⟩) (fun c3 => ?_) (fun c3 => ?_)
          · skip
            refine g_vret hc hm dX3_read_73 ?_
            exact ⟨rfl, rfl, by rw [h4, show (5 + 1 - i).toNat = (5 - i).toNat + 1 by omega, m_itn, if_pos (by omega)]; subst_vars; rfl, rfl, rfl⟩
          · skip
            refine g_iload hc dX3_read_63 rfl ?_
            refine g_aldn hc dX3_read_65 rfl ?_
            refine g_getRk hc lk_X3_25 ca_543 (rc_543_4 hR) dX3_read_66 ?_
            refine g_alen hc ca_544 (by decide) dX3_read_69 ?_
            refine g_icmp_lt (tgt := 74) hc dX3_read_70 (by decide) (by first | exact hI _ _ | exact hxI2 _ _ | exact hIa _ _ | exact hIb _ _ | exact g_b32 | exact g_and32 | assumption | exact ⟨by omega, by omega⟩) (by first | exact hI _ _ | exact hxI2 _ _ | exact hIa _ _ | exact hIb _ _ | exact g_b32 | exact g_and32 | assumption | exact ⟨by omega, by omega⟩) (fun c4 => ?_) (fun c4 => ?_)
            · skip
              refine g_iload_n hc dX3_read_74 rfl ?_
              refine g_iload hc dX3_read_75 rfl ?_
              refine g_ishr hc dX3_read_77 ?_
              refine g_iconst hc dX3_read_78 ?_
              refine g_iand hc dX3_read_79 ?_
              refine g_iconst hc dX3_read_80 ?_
              refine g_icmp_ne (tgt := 93) hc dX3_read_81 (by decide) (by first | exact hI _ _ | exact hxI2 _ _ | exact hIa _ _ | exact hIb _ _ | exact g_b32 | exact g_and32 | assumption | exact ⟨by omega, by omega⟩) (by first | exact hI _ _ | exact hxI2 _ _ | exact hIa _ _ | exact hIb _ _ | exact g_b32 | exact g_and32 | assumption | exact ⟨by omega, by omega⟩) (fun c5 => ?_) (fun c5 => ?_)
              · skip
                have hsg : m_sg Im ≠ -1 := fun z => by
                  have : m_it 2 (m_sg Im) = -1 := by rw [z]; rfl
                  omega
                refine g_iload_n hc dX3_read_93 rfl ?_
                refine g_iconst hc dX3_read_94 ?_
                refine g_iload hc dX3_read_95 rfl ?_
                refine g_ishl hc dX3_read_97 ?_
                refine g_ior hc dX3_read_98 ?_
                refine g_istore_2 hc dX3_read_99 rfl ?_
                refine g_aldn hc dX3_read_100 rfl ?_
                refine g_dup hc dX3_read_101 rfl ?_
                refine g_getI' hc lk_X3_46 ca_1 2 rfl dX3_read_102 ?_
                refine g_iconst hc dX3_read_105 ?_
                refine g_iadd hc dX3_read_106 ?_
                refine g_putI' hc lk_X3_46 ca_1 2 rfl dX3_read_107 (fun I5 hI5 => ?_)
                have hmI5 : l_ok b I5 := by rw [hI5]; exact m_adv_ok hb hmI4 (by subst_vars; exact m_sg_in hmIm hsg)
                have hMI5 : m_adv I4 = I5 := by rw [hI5]; first | rfl | (unfold m_fct; rw [if_pos (by assumption)]) | (unfold m_fct; rw [if_neg (by assumption)]) | (unfold m_f2; rw [if_pos (by assumption)]) | (unfold m_f2; rw [if_neg (by assumption)])
                clear hI5
                refine g_aldn hc dX3_read_110 rfl ?_
                refine g_getRk hc lk_X3_25 ca_543 (rc_543_4 hR) dX3_read_111 ?_
                refine g_iload hc dX3_read_114 rfl ?_
                refine g_aldn hc dX3_read_116 rfl ?_
                refine g_iconst hc dX3_read_117 ?_
                have hlo := g_st_b (i := 6) (j := m_it 2 (m_sg Im)) (by decide) (by omega)
                have hhi := g_st_b (i := 7) (j := m_it 2 (m_sg Im)) (by decide) (by omega)
                have hlo0 := hlo.2.2 (by decide)
                refine g_aldn hc dX3_read_118 rfl ?_
                refine g_getR hc lk_X3_15 ca_543 (rc_543_1 hR) dX3_read_119 ?_
                refine g_iload hc dX3_read_122 rfl ?_
                refine g_tlds (i := 6) hc rfl (by omega) (by omega) (by decide) dX3_read_124 ?_
                refine g_aldn hc dX3_read_125 rfl ?_
                refine g_getR hc lk_X3_19 ca_543 (rc_543_2 hR) dX3_read_126 ?_
                refine g_iload hc dX3_read_129 rfl ?_
                refine g_tlds (i := 7) hc rfl (by omega) (by omega) (by decide) dX3_read_131 ?_
                refine g_V3r hc (m_number w hR hmI5 (by first | exact hI _ _ | exact hxI2 _ _ | exact hIa _ _ | exact hIb _ _ | exact g_b32 | exact g_and32 | assumption | exact ⟨by omega, by omega⟩) (by first | exact hI _ _ | exact hxI2 _ _ | exact hIa _ _ | exact hIb _ _ | exact g_b32 | exact g_and32 | assumption | exact ⟨by omega, by omega⟩)) my_X8_number mv_X8_number ca_1 rfl rfl lm_X3_54 rfl (by decide) (Nat.le_of_ble_eq_true rfl) hm dX3_read_132 ?_
                have hnvI6 := (m_nm_ok (lo := (g_st 6 (m_it 2 (m_sg Im)))) (hi := (g_st 7 (m_it 2 (m_sg Im)))) hb hmI5 ⟨by omega, by omega⟩).2
                generalize hMI6 : m_nm (g_st 6 (m_it 2 (m_sg Im))) (g_st 7 (m_it 2 (m_sg Im))) I5 = I6
                have hmI6 : l_ok b I6 := hMI6 ▸ (m_nm_ok hb hmI5 ⟨by omega, by omega⟩).1
                refine g_iast' hc ca_544 (by decide) (by omega) (by omega)  dX3_read_135 (fun I7 hI7 => ?_)
                have hmI7 : l_ok b I7 := by rw [hI7]; exact l_up hmI6 (by omega) (by first | exact hI _ _ | exact hxI2 _ _ | exact hIa _ _ | exact hIb _ _ | exact g_b32 | exact g_and32 | assumption | exact ⟨by omega, by omega⟩)
                refine g_iinc_3 hc dX3_read_136 rfl ?_
                refine g_goto (tgt := 22) hc dX3_read_139 (by decide) ?_
                refine G_sub (L' := [some (gvr w 543), some (gvr w 1), some (gvI (g_or e (g_shl 1 (m_it 2 (m_sg Im))))), some (gvI (i + 1)), none, none]) (show g_le _ _ from ⟨rfl, ⟨rfl, ⟨rfl, ⟨rfl, trivial⟩⟩⟩⟩) ?_
                refine ih_22 _ _ _ ?_ ?_ ?_ ?_
                · omega
                · rw [h4, show (5 + 1 - i).toNat = (5 - i).toNat + 1 by omega, m_itn, if_neg (by omega), if_neg (by assumption), show (5 + 1 - (i + 1)).toNat = (5 - i).toNat by omega]; subst_vars; rfl
                · exact hmI7
                · omega
              · skip
                refine g_aldn hc dX3_read_84 rfl ?_
                refine g_aldn hc dX3_read_85 rfl ?_
                refine g_getI' hc lk_X3_46 ca_1 2 rfl dX3_read_86 ?_
                refine g_V1v hc (m_failAt w hR hmI4 (by first | (rw [← hMI4]; first | exact m_sk_fx (b := b) (by assumption) | exact m_tk_fx (b := b) (by assumption) (by assumption)) | (exfalso; omega))) my_X8_failAt mv_X8_failAt ca_1 rfl rfl lm_X3_50 rfl (by decide) (Nat.le_of_ble_eq_true rfl) hm dX3_read_89 ?_
                generalize hMI8 : m_fl I4 = I8
                have hmI8 : l_ok b I8 := hMI8 ▸ m_fl_ok hb hmI4
                refine g_vret hc hm dX3_read_92 ?_
                exact ⟨rfl, rfl, by rw [h4, show (5 + 1 - i).toNat = (5 - i).toNat + 1 by omega, m_itn, if_neg (by omega), if_pos (by assumption)]; subst_vars; rfl, rfl, rfl⟩
            · skip
              refine g_vret hc hm dX3_read_73 ?_
              exact ⟨rfl, rfl, by rw [h4, show (5 + 1 - i).toNat = (5 - i).toNat + 1 by omega, m_itn, if_pos (by omega)]; subst_vars; rfl, rfl, rfl⟩
        · skip
          refine g_iconst hc dX3_read_42 ?_
          refine g_goto (tgt := 56) hc dX3_read_43 (by decide) ?_
          rw [show (-1) = m_it 2 (m_sg Im) from by first | (rw [m_it, if_pos (by omega)]) | (rw [m_it, if_neg (by omega)])]
          refine g_istore_5 hc dX3_read_56 rfl ?_
          refine g_iload hc dX3_read_58 rfl ?_
          refine g_if_lt (tgt := 73) hc dX3_read_60 (by decide) (by first | exact hI _ _ | exact hxI2 _ _ | exact hIa _ _ | exact hIb _ _ | exact g_b32 | exact g_and32 | assumption | exact ⟨by omega, by omega⟩) (fun c6 => ?_) (fun c6 => ?_)
          · skip
            refine g_vret hc hm dX3_read_73 ?_
            exact ⟨rfl, rfl, by rw [h4, show (5 + 1 - i).toNat = (5 - i).toNat + 1 by omega, m_itn, if_pos (by omega)]; subst_vars; rfl, rfl, rfl⟩
          · skip
            refine g_iload hc dX3_read_63 rfl ?_
            refine g_aldn hc dX3_read_65 rfl ?_
            refine g_getRk hc lk_X3_25 ca_543 (rc_543_4 hR) dX3_read_66 ?_
            refine g_alen hc ca_544 (by decide) dX3_read_69 ?_
            refine g_icmp_lt (tgt := 74) hc dX3_read_70 (by decide) (by first | exact hI _ _ | exact hxI2 _ _ | exact hIa _ _ | exact hIb _ _ | exact g_b32 | exact g_and32 | assumption | exact ⟨by omega, by omega⟩) (by first | exact hI _ _ | exact hxI2 _ _ | exact hIa _ _ | exact hIb _ _ | exact g_b32 | exact g_and32 | assumption | exact ⟨by omega, by omega⟩) (fun c7 => ?_) (fun c7 => ?_)
            · skip
              refine g_iload_n hc dX3_read_74 rfl ?_
              refine g_iload hc dX3_read_75 rfl ?_
              refine g_ishr hc dX3_read_77 ?_
              refine g_iconst hc dX3_read_78 ?_
              refine g_iand hc dX3_read_79 ?_
              refine g_iconst hc dX3_read_80 ?_
              refine g_icmp_ne (tgt := 93) hc dX3_read_81 (by decide) (by first | exact hI _ _ | exact hxI2 _ _ | exact hIa _ _ | exact hIb _ _ | exact g_b32 | exact g_and32 | assumption | exact ⟨by omega, by omega⟩) (by first | exact hI _ _ | exact hxI2 _ _ | exact hIa _ _ | exact hIb _ _ | exact g_b32 | exact g_and32 | assumption | exact ⟨by omega, by omega⟩) (fun c8 => ?_) (fun c8 => ?_)
              · skip
                have hsg : m_sg Im ≠ -1 := fun z => by
                  have : m_it 2 (m_sg Im) = -1 := by rw [z]; rfl
                  omega
                refine g_iload_n hc dX3_read_93 rfl ?_
                refine g_iconst hc dX3_read_94 ?_
                refine g_iload hc dX3_read_95 rfl ?_
                refine g_ishl hc dX3_read_97 ?_
                refine g_ior hc dX3_read_98 ?_
                refine g_istore_2 hc dX3_read_99 rfl ?_
                refine g_aldn hc dX3_read_100 rfl ?_
                refine g_dup hc dX3_read_101 rfl ?_
                refine g_getI' hc lk_X3_46 ca_1 2 rfl dX3_read_102 ?_
                refine g_iconst hc dX3_read_105 ?_
                refine g_iadd hc dX3_read_106 ?_
                refine g_putI' hc lk_X3_46 ca_1 2 rfl dX3_read_107 (fun I9 hI9 => ?_)
                have hmI9 : l_ok b I9 := by rw [hI9]; exact m_adv_ok hb hmI4 (by subst_vars; exact m_sg_in hmIm hsg)
                have hMI9 : m_adv I4 = I9 := by rw [hI9]; first | rfl | (unfold m_fct; rw [if_pos (by assumption)]) | (unfold m_fct; rw [if_neg (by assumption)]) | (unfold m_f2; rw [if_pos (by assumption)]) | (unfold m_f2; rw [if_neg (by assumption)])
                clear hI9
                refine g_aldn hc dX3_read_110 rfl ?_
                refine g_getRk hc lk_X3_25 ca_543 (rc_543_4 hR) dX3_read_111 ?_
                refine g_iload hc dX3_read_114 rfl ?_
                refine g_aldn hc dX3_read_116 rfl ?_
                refine g_iconst hc dX3_read_117 ?_
                have hlo := g_st_b (i := 6) (j := m_it 2 (m_sg Im)) (by decide) (by omega)
                have hhi := g_st_b (i := 7) (j := m_it 2 (m_sg Im)) (by decide) (by omega)
                have hlo0 := hlo.2.2 (by decide)
                refine g_aldn hc dX3_read_118 rfl ?_
                refine g_getR hc lk_X3_15 ca_543 (rc_543_1 hR) dX3_read_119 ?_
                refine g_iload hc dX3_read_122 rfl ?_
                refine g_tlds (i := 6) hc rfl (by omega) (by omega) (by decide) dX3_read_124 ?_
                refine g_aldn hc dX3_read_125 rfl ?_
                refine g_getR hc lk_X3_19 ca_543 (rc_543_2 hR) dX3_read_126 ?_
                refine g_iload hc dX3_read_129 rfl ?_
                refine g_tlds (i := 7) hc rfl (by omega) (by omega) (by decide) dX3_read_131 ?_
                refine g_V3r hc (m_number w hR hmI9 (by first | exact hI _ _ | exact hxI2 _ _ | exact hIa _ _ | exact hIb _ _ | exact g_b32 | exact g_and32 | assumption | exact ⟨by omega, by omega⟩) (by first | exact hI _ _ | exact hxI2 _ _ | exact hIa _ _ | exact hIb _ _ | exact g_b32 | exact g_and32 | assumption | exact ⟨by omega, by omega⟩)) my_X8_number mv_X8_number ca_1 rfl rfl lm_X3_54 rfl (by decide) (Nat.le_of_ble_eq_true rfl) hm dX3_read_132 ?_
                have hnvI10 := (m_nm_ok (lo := (g_st 6 (m_it 2 (m_sg Im)))) (hi := (g_st 7 (m_it 2 (m_sg Im)))) hb hmI9 ⟨by omega, by omega⟩).2
                generalize hMI10 : m_nm (g_st 6 (m_it 2 (m_sg Im))) (g_st 7 (m_it 2 (m_sg Im))) I9 = I10
                have hmI10 : l_ok b I10 := hMI10 ▸ (m_nm_ok hb hmI9 ⟨by omega, by omega⟩).1
                refine g_iast' hc ca_544 (by decide) (by omega) (by omega)  dX3_read_135 (fun I11 hI11 => ?_)
                have hmI11 : l_ok b I11 := by rw [hI11]; exact l_up hmI10 (by omega) (by first | exact hI _ _ | exact hxI2 _ _ | exact hIa _ _ | exact hIb _ _ | exact g_b32 | exact g_and32 | assumption | exact ⟨by omega, by omega⟩)
                refine g_iinc_3 hc dX3_read_136 rfl ?_
                refine g_goto (tgt := 22) hc dX3_read_139 (by decide) ?_
                refine G_sub (L' := [some (gvr w 543), some (gvr w 1), some (gvI (g_or e (g_shl 1 (m_it 2 (m_sg Im))))), some (gvI (i + 1)), none, none]) (show g_le _ _ from ⟨rfl, ⟨rfl, ⟨rfl, ⟨rfl, trivial⟩⟩⟩⟩) ?_
                refine ih_22 _ _ _ ?_ ?_ ?_ ?_
                · omega
                · rw [h4, show (5 + 1 - i).toNat = (5 - i).toNat + 1 by omega, m_itn, if_neg (by omega), if_neg (by assumption), show (5 + 1 - (i + 1)).toNat = (5 - i).toNat by omega]; subst_vars; rfl
                · exact hmI11
                · omega
              · skip
                refine g_aldn hc dX3_read_84 rfl ?_
                refine g_aldn hc dX3_read_85 rfl ?_
                refine g_getI' hc lk_X3_46 ca_1 2 rfl dX3_read_86 ?_
                refine g_V1v hc (m_failAt w hR hmI4 (by first | (rw [← hMI4]; first | exact m_sk_fx (b := b) (by assumption) | exact m_tk_fx (b := b) (by assumption) (by assumption)) | (exfalso; omega))) my_X8_failAt mv_X8_failAt ca_1 rfl rfl lm_X3_50 rfl (by decide) (Nat.le_of_ble_eq_true rfl) hm dX3_read_89 ?_
                generalize hMI12 : m_fl I4 = I12
                have hmI12 : l_ok b I12 := hMI12 ▸ m_fl_ok hb hmI4
                refine g_vret hc hm dX3_read_92 ?_
                exact ⟨rfl, rfl, by rw [h4, show (5 + 1 - i).toNat = (5 - i).toNat + 1 by omega, m_itn, if_neg (by omega), if_pos (by assumption)]; subst_vars; rfl, rfl, rfl⟩
            · skip
              refine g_vret hc hm dX3_read_73 ?_
              exact ⟨rfl, rfl, by rw [h4, show (5 + 1 - i).toNat = (5 - i).toNat + 1 by omega, m_itn, if_pos (by omega)]; subst_vars; rfl, rfl, rfl⟩
  refine lp_22 8 _ _ _ ?_ ?_ ?_ (?_)
  · omega
  · subst_vars; rfl
  · exact hmI3
  · omega
