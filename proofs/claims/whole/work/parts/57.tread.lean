set_option maxHeartbeats 4000000 in
set_option maxRecDepth 100000 in
/-- X10_readClause -/
theorem s_clause (w : g_W) {I : g_I} {J : g_J} {R : g_R} {lb tx : Nat} (hR : g_rf w R lb tx) (hI : ∀ k j, g32 (I k j)) (hn : I 1 1 ≤ 240) (hB : ∀ j, 0 ≤ I 2 j ∧ I 2 j ≤ 255) {t : Nat} (ht : g_taste t) {s : g_S} (hos : t_ok (I 1 1) s)  : g_Met w g_n (t_M I t s) J R yX10_readClause cX10_readClause 4 none 31 0 0 [(gvr w 547), (gvr w t)] (g_post none g_n (t_M I t (t_cls (I 2) (I 1 1) s)) J R) := by
  refine g_intro (own := RX10) [some (gvr w 547), some (gvr w t), none, none] (by decide +kernel) rfl (by decide) (Nat.le_of_ble_eq_true rfl) rfl (fun i v hv => g_args 2 i v hv rfl) (fun x hc hm => ?_)
  refine g_aldn hc dX10_readClause_0 rfl ?_
  refine g_getRk hc lk_X10_9 ca_547 (rc_547_0 hR) dX10_readClause_1 ?_
  refine g_bipush hc dX10_readClause_4 (by decide +kernel) ?_
  refine g_V1v hc (s_want w hR hI hn ht hos (by exact ⟨by decide, by decide⟩) (by decide)) my_X8_want mv_X8_want ca_1 rfl rfl lm_X10_38 rfl (by decide) (Nat.le_of_ble_eq_true rfl) hm dX10_readClause_6 ?_
  generalize hss1_ : t_wn (I 2) (I 1 1) 121 s = s1_
  have hos1_ : t_ok (I 1 1) s1_ := hss1_ ▸ t_wn_ok hos hn (by decide)
  refine g_aldn hc dX10_readClause_9 rfl ?_
  refine g_getRk hc lk_X10_9 ca_547 (rc_547_0 hR) dX10_readClause_10 ?_
  refine g_bipush hc dX10_readClause_13 (by decide +kernel) ?_
  refine g_V1v hc (s_want w hR hI hn ht hos1_ (by exact ⟨by decide, by decide⟩) (by decide)) my_X8_want mv_X8_want ca_1 rfl rfl lm_X10_38 rfl (by decide) (Nat.le_of_ble_eq_true rfl) hm dX10_readClause_15 ?_
  generalize hss2_ : t_wn (I 2) (I 1 1) 58 s1_ = s2_
  have hos2_ : t_ok (I 1 1) s2_ := hss2_ ▸ t_wn_ok hos1_ hn (by decide)
  refine g_aldn hc dX10_readClause_18 rfl ?_
  refine g_getRk hc lk_X10_9 ca_547 (rc_547_0 hR) dX10_readClause_19 ?_
  refine g_V0r hc (s_sign w hR hI hn ht hos2_) my_X8_sign mv_X8_sign ca_1 rfl rfl lm_X10_42 rfl (by decide) (Nat.le_of_ble_eq_true rfl) hm dX10_readClause_22 ?_
  generalize hss3_ : t_sk (I 2) (I 1 1) s2_ = s3_
  have hos3_ : t_ok (I 1 1) s3_ := hss3_ ▸ t_sk_ok hos2_
  refine g_istore_2 hc dX10_readClause_25 rfl ?_
  refine g_iload_n hc dX10_readClause_26 rfl ?_
  refine g_bipush hc dX10_readClause_27 (by decide +kernel) ?_
  refine g_icmp_eq (tgt := 42) hc dX10_readClause_29 (by decide) (by rw [t_sg]; exact g_sgn32 hI) (by exact ⟨by decide, by decide⟩) (fun c1 => ?_) (fun c1 => ?_)
  · skip
    refine g_iconst hc dX10_readClause_42 ?_
    refine g_istore_3 hc dX10_readClause_43 rfl ?_
    refine g_iload_n hc dX10_readClause_44 rfl ?_
    refine g_if_eq (tgt := 54) hc dX10_readClause_45 (by decide) (show g32 _ from ⟨by decide, by decide⟩) (fun c2 => ?_) (fun c2 => ?_)
    · skip
      refine g_iload_n hc dX10_readClause_54 rfl ?_
      refine g_if_eq (tgt := 71) hc dX10_readClause_55 (by decide) (show g32 _ from ⟨by decide, by decide⟩) (fun c3 => ?_) (fun c3 => ?_)
      · skip
        refine g_aldn hc dX10_readClause_71 rfl ?_
        refine g_aldn hc dX10_readClause_72 rfl ?_
        refine g_iconst hc dX10_readClause_73 ?_
        refine g_iload_n hc dX10_readClause_74 rfl ?_
        refine g_V3v hc (k_cok w (k := 6) (by decide) hR hI hn hB ht hos3_ (by decide) (by decide)) my_X10_readCondition mv_X10_readCondition ca_547 rfl rfl lm_X10_52 rfl (by decide) (Nat.le_of_ble_eq_true rfl) hm dX10_readClause_75 ?_
        generalize hss4_ : t_cok (I 2) (I 1 1) 6 0 s3_ = s4_
        have hos4_ : t_ok (I 1 1) s4_ := hss4_ ▸ t_cok_ok hn hos3_
        refine g_aldn hc dX10_readClause_78 rfl ?_
        refine g_getRk hc lk_X10_9 ca_547 (rc_547_0 hR) dX10_readClause_79 ?_
        refine g_bipush hc dX10_readClause_82 (by decide +kernel) ?_
        refine g_V1v hc (s_want w hR hI hn ht hos4_ (by exact ⟨by decide, by decide⟩) (by decide)) my_X8_want mv_X8_want ca_1 rfl rfl lm_X10_38 rfl (by decide) (Nat.le_of_ble_eq_true rfl) hm dX10_readClause_84 ?_
        generalize hss5_ : t_wn (I 2) (I 1 1) 63 s4_ = s5_
        have hos5_ : t_ok (I 1 1) s5_ := hss5_ ▸ t_wn_ok hos4_ hn (by decide)
        refine g_aldn hc dX10_readClause_87 rfl ?_
        refine g_bipush hc dX10_readClause_88 (by decide +kernel) ?_
        refine g_V1v hc (s_put w hR hI hn ht hos5_ (by first | exact hI _ _ | exact hxI2 _ _ | exact hIa _ _ | exact hIb _ _ | exact g_b32 | exact g_and32 | assumption | exact ⟨by omega, by omega⟩)) my_X9_put mv_X9_put (ta_0 ht) rfl rfl lm_X10_56 rfl (by decide) (Nat.le_of_ble_eq_true rfl) hm dX10_readClause_90 ?_
        generalize hss6_ : t_put (-63) s5_ = s6_
        have hos6_ : t_ok (I 1 1) s6_ := hss6_ ▸ t_put_ok hos5_ (by first | exact hI _ _ | exact hxI2 _ _ | exact hIa _ _ | exact hIb _ _ | exact g_b32 | exact g_and32 | assumption | exact ⟨by omega, by omega⟩)
        refine g_aldn hc dX10_readClause_93 rfl ?_
        refine g_aldn hc dX10_readClause_94 rfl ?_
        refine g_iconst hc dX10_readClause_95 ?_
        refine g_V2v hc (k_suk w (k := 6) (by decide) hR hI hn hB ht hos6_ (by decide)) my_X10_readSum mv_X10_readSum ca_547 rfl rfl lm_X10_45 rfl (by decide) (Nat.le_of_ble_eq_true rfl) hm dX10_readClause_96 ?_
        generalize hss7_ : t_suk (I 2) (I 1 1) 6 s6_ = s7_
        have hos7_ : t_ok (I 1 1) s7_ := hss7_ ▸ t_suk_ok hn hos6_
        refine g_aldn hc dX10_readClause_99 rfl ?_
        refine g_bipush hc dX10_readClause_100 (by decide +kernel) ?_
        refine g_V1v hc (s_put w hR hI hn ht hos7_ (by first | exact hI _ _ | exact hxI2 _ _ | exact hIa _ _ | exact hIb _ _ | exact g_b32 | exact g_and32 | assumption | exact ⟨by omega, by omega⟩)) my_X9_put mv_X9_put (ta_0 ht) rfl rfl lm_X10_56 rfl (by decide) (Nat.le_of_ble_eq_true rfl) hm dX10_readClause_102 ?_
        generalize hss8_ : t_put (-59) s7_ = s8_
        have hos8_ : t_ok (I 1 1) s8_ := hss8_ ▸ t_put_ok hos7_ (by first | exact hI _ _ | exact hxI2 _ _ | exact hIa _ _ | exact hIb _ _ | exact g_b32 | exact g_and32 | assumption | exact ⟨by omega, by omega⟩)
        refine g_vret hc hm dX10_readClause_105 ?_
        exact ⟨rfl, rfl, by subst_vars; unfold t_cls; first | (rw [if_pos (Or.inl (by assumption))]; try rfl) | (rw [if_pos (Or.inr (by assumption))]; try rfl) | (rw [if_neg (by omega), if_pos (by assumption)]; try rfl) | (rw [if_neg (by omega), if_neg (by assumption)]; try rfl), rfl, rfl⟩
      · exfalso; omega
    · exfalso; omega
  · skip
    refine g_iload_n hc dX10_readClause_32 rfl ?_
    refine g_bipush hc dX10_readClause_33 (by decide +kernel) ?_
    refine g_icmp_eq (tgt := 42) hc dX10_readClause_35 (by decide) (by rw [t_sg]; exact g_sgn32 hI) (by exact ⟨by decide, by decide⟩) (fun c4 => ?_) (fun c4 => ?_)
    · skip
      refine g_iconst hc dX10_readClause_42 ?_
      refine g_istore_3 hc dX10_readClause_43 rfl ?_
      refine g_iload_n hc dX10_readClause_44 rfl ?_
      refine g_if_eq (tgt := 54) hc dX10_readClause_45 (by decide) (show g32 _ from ⟨by decide, by decide⟩) (fun c5 => ?_) (fun c5 => ?_)
      · skip
        refine g_iload_n hc dX10_readClause_54 rfl ?_
        refine g_if_eq (tgt := 71) hc dX10_readClause_55 (by decide) (show g32 _ from ⟨by decide, by decide⟩) (fun c6 => ?_) (fun c6 => ?_)
        · skip
          refine g_aldn hc dX10_readClause_71 rfl ?_
          refine g_aldn hc dX10_readClause_72 rfl ?_
          refine g_iconst hc dX10_readClause_73 ?_
          refine g_iload_n hc dX10_readClause_74 rfl ?_
          refine g_V3v hc (k_cok w (k := 6) (by decide) hR hI hn hB ht hos3_ (by decide) (by decide)) my_X10_readCondition mv_X10_readCondition ca_547 rfl rfl lm_X10_52 rfl (by decide) (Nat.le_of_ble_eq_true rfl) hm dX10_readClause_75 ?_
          generalize hss9_ : t_cok (I 2) (I 1 1) 6 0 s3_ = s9_
          have hos9_ : t_ok (I 1 1) s9_ := hss9_ ▸ t_cok_ok hn hos3_
          refine g_aldn hc dX10_readClause_78 rfl ?_
          refine g_getRk hc lk_X10_9 ca_547 (rc_547_0 hR) dX10_readClause_79 ?_
          refine g_bipush hc dX10_readClause_82 (by decide +kernel) ?_
          refine g_V1v hc (s_want w hR hI hn ht hos9_ (by exact ⟨by decide, by decide⟩) (by decide)) my_X8_want mv_X8_want ca_1 rfl rfl lm_X10_38 rfl (by decide) (Nat.le_of_ble_eq_true rfl) hm dX10_readClause_84 ?_
          generalize hss10_ : t_wn (I 2) (I 1 1) 63 s9_ = s10_
          have hos10_ : t_ok (I 1 1) s10_ := hss10_ ▸ t_wn_ok hos9_ hn (by decide)
          refine g_aldn hc dX10_readClause_87 rfl ?_
          refine g_bipush hc dX10_readClause_88 (by decide +kernel) ?_
          refine g_V1v hc (s_put w hR hI hn ht hos10_ (by first | exact hI _ _ | exact hxI2 _ _ | exact hIa _ _ | exact hIb _ _ | exact g_b32 | exact g_and32 | assumption | exact ⟨by omega, by omega⟩)) my_X9_put mv_X9_put (ta_0 ht) rfl rfl lm_X10_56 rfl (by decide) (Nat.le_of_ble_eq_true rfl) hm dX10_readClause_90 ?_
          generalize hss11_ : t_put (-63) s10_ = s11_
          have hos11_ : t_ok (I 1 1) s11_ := hss11_ ▸ t_put_ok hos10_ (by first | exact hI _ _ | exact hxI2 _ _ | exact hIa _ _ | exact hIb _ _ | exact g_b32 | exact g_and32 | assumption | exact ⟨by omega, by omega⟩)
          refine g_aldn hc dX10_readClause_93 rfl ?_
          refine g_aldn hc dX10_readClause_94 rfl ?_
          refine g_iconst hc dX10_readClause_95 ?_
          refine g_V2v hc (k_suk w (k := 6) (by decide) hR hI hn hB ht hos11_ (by decide)) my_X10_readSum mv_X10_readSum ca_547 rfl rfl lm_X10_45 rfl (by decide) (Nat.le_of_ble_eq_true rfl) hm dX10_readClause_96 ?_
          generalize hss12_ : t_suk (I 2) (I 1 1) 6 s11_ = s12_
          have hos12_ : t_ok (I 1 1) s12_ := hss12_ ▸ t_suk_ok hn hos11_
          refine g_aldn hc dX10_readClause_99 rfl ?_
          refine g_bipush hc dX10_readClause_100 (by decide +kernel) ?_
          refine g_V1v hc (s_put w hR hI hn ht hos12_ (by first | exact hI _ _ | exact hxI2 _ _ | exact hIa _ _ | exact hIb _ _ | exact g_b32 | exact g_and32 | assumption | exact ⟨by omega, by omega⟩)) my_X9_put mv_X9_put (ta_0 ht) rfl rfl lm_X10_56 rfl (by decide) (Nat.le_of_ble_eq_true rfl) hm dX10_readClause_102 ?_
          generalize hss13_ : t_put (-59) s12_ = s13_
          have hos13_ : t_ok (I 1 1) s13_ := hss13_ ▸ t_put_ok hos12_ (by first | exact hI _ _ | exact hxI2 _ _ | exact hIa _ _ | exact hIb _ _ | exact g_b32 | exact g_and32 | assumption | exact ⟨by omega, by omega⟩)
          refine g_vret hc hm dX10_readClause_105 ?_
          exact ⟨rfl, rfl, by subst_vars; unfold t_cls; first | (rw [if_pos (Or.inl (by assumption))]; try rfl) | (rw [if_pos (Or.inr (by assumption))]; try rfl) | (rw [if_neg (by omega), if_pos (by assumption)]; try rfl) | (rw [if_neg (by omega), if_neg (by assumption)]; try rfl), rfl, rfl⟩
        · exfalso; omega
      · exfalso; omega
    · skip
      refine g_iconst hc dX10_readClause_38 ?_
      refine g_goto (tgt := 43) hc dX10_readClause_39 (by decide) ?_
      refine g_istore_3 hc dX10_readClause_43 rfl ?_
      refine g_iload_n hc dX10_readClause_44 rfl ?_
      refine g_if_eq (tgt := 54) hc dX10_readClause_45 (by decide) (show g32 _ from ⟨by decide, by decide⟩) (fun c7 => ?_) (fun c7 => ?_)
      · exfalso; omega
      · skip
        refine g_aldn hc dX10_readClause_48 rfl ?_
        refine g_aldn hc dX10_readClause_49 rfl ?_
        refine g_iconst hc dX10_readClause_50 ?_
        refine g_V2v hc (k_suk w (k := 6) (by decide) hR hI hn hB ht hos3_ (by decide)) my_X10_readSum mv_X10_readSum ca_547 rfl rfl lm_X10_45 rfl (by decide) (Nat.le_of_ble_eq_true rfl) hm dX10_readClause_51 ?_
        generalize hss14_ : t_suk (I 2) (I 1 1) 6 s3_ = s14_
        have hos14_ : t_ok (I 1 1) s14_ := hss14_ ▸ t_suk_ok hn hos3_
        refine g_iload_n hc dX10_readClause_54 rfl ?_
        refine g_if_eq (tgt := 71) hc dX10_readClause_55 (by decide) (show g32 _ from ⟨by decide, by decide⟩) (fun c8 => ?_) (fun c8 => ?_)
        · exfalso; omega
        · skip
          refine g_aldn hc dX10_readClause_58 rfl ?_
          refine g_getRk hc lk_X10_9 ca_547 (rc_547_0 hR) dX10_readClause_59 ?_
          have hsb := t_sg_b (B := I 2) (n := I 1 1) (s := s14_) hB
          refine g_V0r hc (s_sign w hR hI hn ht hos14_) my_X8_sign mv_X8_sign ca_1 rfl rfl lm_X10_42 rfl (by decide) (Nat.le_of_ble_eq_true rfl) hm dX10_readClause_62 ?_
          generalize hss15_ : t_sk (I 2) (I 1 1) s14_ = s15_
          have hos15_ : t_ok (I 1 1) s15_ := hss15_ ▸ t_sk_ok hos14_
          refine g_S1r hc (c_X10_compares w (by first | exact hI _ _ | exact hxI2 _ _ | exact hIa _ _ | exact hIb _ _ | exact g_b32 | exact g_and32 | assumption | exact ⟨by omega, by omega⟩)) my_X10_compares ms_X10_compares lm_X10_49 rfl (by decide) (Nat.le_of_ble_eq_true rfl) hm dX10_readClause_65 ?_
          refine g_ifb_eq (tgt := 99) hc dX10_readClause_68 (by decide)  (fun c9 => ?_) (fun c9 => ?_)
          · skip
            refine g_aldn hc dX10_readClause_99 rfl ?_
            refine g_bipush hc dX10_readClause_100 (by decide +kernel) ?_
            refine g_V1v hc (s_put w hR hI hn ht hos15_ (by first | exact hI _ _ | exact hxI2 _ _ | exact hIa _ _ | exact hIb _ _ | exact g_b32 | exact g_and32 | assumption | exact ⟨by omega, by omega⟩)) my_X9_put mv_X9_put (ta_0 ht) rfl rfl lm_X10_56 rfl (by decide) (Nat.le_of_ble_eq_true rfl) hm dX10_readClause_102 ?_
            generalize hss16_ : t_put (-59) s15_ = s16_
            have hos16_ : t_ok (I 1 1) s16_ := hss16_ ▸ t_put_ok hos15_ (by first | exact hI _ _ | exact hxI2 _ _ | exact hIa _ _ | exact hIb _ _ | exact g_b32 | exact g_and32 | assumption | exact ⟨by omega, by omega⟩)
            refine g_vret hc hm dX10_readClause_105 ?_
            exact ⟨rfl, rfl, by subst_vars; unfold t_cls; first | (rw [if_pos (Or.inl (by assumption))]; try rfl) | (rw [if_pos (Or.inr (by assumption))]; try rfl) | (rw [if_neg (by omega), if_pos (by assumption)]; try rfl) | (rw [if_neg (by omega), if_neg (by assumption)]; try rfl), rfl, rfl⟩
          · skip
            refine g_aldn hc dX10_readClause_71 rfl ?_
            refine g_aldn hc dX10_readClause_72 rfl ?_
            refine g_iconst hc dX10_readClause_73 ?_
            refine g_iload_n hc dX10_readClause_74 rfl ?_
            refine g_V3v hc (k_cok w (k := 6) (by decide) hR hI hn hB ht hos15_ (by decide) (by decide)) my_X10_readCondition mv_X10_readCondition ca_547 rfl rfl lm_X10_52 rfl (by decide) (Nat.le_of_ble_eq_true rfl) hm dX10_readClause_75 ?_
            generalize hss17_ : t_cok (I 2) (I 1 1) 6 1 s15_ = s17_
            have hos17_ : t_ok (I 1 1) s17_ := hss17_ ▸ t_cok_ok hn hos15_
            refine g_aldn hc dX10_readClause_78 rfl ?_
            refine g_getRk hc lk_X10_9 ca_547 (rc_547_0 hR) dX10_readClause_79 ?_
            refine g_bipush hc dX10_readClause_82 (by decide +kernel) ?_
            refine g_V1v hc (s_want w hR hI hn ht hos17_ (by exact ⟨by decide, by decide⟩) (by decide)) my_X8_want mv_X8_want ca_1 rfl rfl lm_X10_38 rfl (by decide) (Nat.le_of_ble_eq_true rfl) hm dX10_readClause_84 ?_
            generalize hss18_ : t_wn (I 2) (I 1 1) 63 s17_ = s18_
            have hos18_ : t_ok (I 1 1) s18_ := hss18_ ▸ t_wn_ok hos17_ hn (by decide)
            refine g_aldn hc dX10_readClause_87 rfl ?_
            refine g_bipush hc dX10_readClause_88 (by decide +kernel) ?_
            refine g_V1v hc (s_put w hR hI hn ht hos18_ (by first | exact hI _ _ | exact hxI2 _ _ | exact hIa _ _ | exact hIb _ _ | exact g_b32 | exact g_and32 | assumption | exact ⟨by omega, by omega⟩)) my_X9_put mv_X9_put (ta_0 ht) rfl rfl lm_X10_56 rfl (by decide) (Nat.le_of_ble_eq_true rfl) hm dX10_readClause_90 ?_
            generalize hss19_ : t_put (-63) s18_ = s19_
            have hos19_ : t_ok (I 1 1) s19_ := hss19_ ▸ t_put_ok hos18_ (by first | exact hI _ _ | exact hxI2 _ _ | exact hIa _ _ | exact hIb _ _ | exact g_b32 | exact g_and32 | assumption | exact ⟨by omega, by omega⟩)
            refine g_aldn hc dX10_readClause_93 rfl ?_
            refine g_aldn hc dX10_readClause_94 rfl ?_
            refine g_iconst hc dX10_readClause_95 ?_
            refine g_V2v hc (k_suk w (k := 6) (by decide) hR hI hn hB ht hos19_ (by decide)) my_X10_readSum mv_X10_readSum ca_547 rfl rfl lm_X10_45 rfl (by decide) (Nat.le_of_ble_eq_true rfl) hm dX10_readClause_96 ?_
            generalize hss20_ : t_suk (I 2) (I 1 1) 6 s19_ = s20_
            have hos20_ : t_ok (I 1 1) s20_ := hss20_ ▸ t_suk_ok hn hos19_
            refine g_aldn hc dX10_readClause_99 rfl ?_
            refine g_bipush hc dX10_readClause_100 (by decide +kernel) ?_
            refine g_V1v hc (s_put w hR hI hn ht hos20_ (by first | exact hI _ _ | exact hxI2 _ _ | exact hIa _ _ | exact hIb _ _ | exact g_b32 | exact g_and32 | assumption | exact ⟨by omega, by omega⟩)) my_X9_put mv_X9_put (ta_0 ht) rfl rfl lm_X10_56 rfl (by decide) (Nat.le_of_ble_eq_true rfl) hm dX10_readClause_102 ?_
            generalize hss21_ : t_put (-59) s20_ = s21_
            have hos21_ : t_ok (I 1 1) s21_ := hss21_ ▸ t_put_ok hos20_ (by first | exact hI _ _ | exact hxI2 _ _ | exact hIa _ _ | exact hIb _ _ | exact g_b32 | exact g_and32 | assumption | exact ⟨by omega, by omega⟩)
            refine g_vret hc hm dX10_readClause_105 ?_
            exact ⟨rfl, rfl, by subst_vars; unfold t_cls; first | (rw [if_pos (Or.inl (by assumption))]; try rfl) | (rw [if_pos (Or.inr (by assumption))]; try rfl) | (rw [if_neg (by omega), if_pos (by assumption)]; try rfl) | (rw [if_neg (by omega), if_neg (by assumption)]; try rfl), rfl, rfl⟩
set_option maxHeartbeats 4000000 in
set_option maxRecDepth 100000 in
/-- X8_begin -/
theorem c_X8_begin (w : g_W) {I : g_I} {J : g_J} {R : g_R}  : g_Met w g_n I J R yX8_begin cX8_begin 1 none 0 0 0 [(gvr w 1)] (g_post none g_n (g_ts I 0 (-1)) J R) := by
  refine g_intro (own := RX8) [some (gvr w 1)] (by decide +kernel) rfl (by decide) (Nat.le_of_ble_eq_true rfl) rfl (fun i v hv => g_args 0 i v hv rfl) (fun x hc hm => ?_)
  refine g_aldn hc dX8_begin_0 rfl ?_
  refine g_iconst hc dX8_begin_1 ?_
  refine g_putI' hc lk_X8_19 ca_1 2 rfl dX8_begin_2 (fun I3 hI3 => ?_)
  refine g_aldn hc dX8_begin_5 rfl ?_
  refine g_iconst hc dX8_begin_6 ?_
  refine g_putI' hc lk_X8_22 ca_1 3 rfl dX8_begin_7 (fun I4 hI4 => ?_)
  refine g_vret hc hm dX8_begin_10 ?_
  exact ⟨rfl, rfl, by rw [hI4, hI3, g_up_cm (Or.inr (by decide))]; rfl, rfl, rfl⟩
set_option maxHeartbeats 4000000 in
set_option maxRecDepth 100000 in
/-- X10_read -/
theorem c_X10_read (w : g_W) {I : g_I} {J : g_J} {R : g_R} {lb tx : Nat} (hR : g_rf w R lb tx) (hI : ∀ k j, g32 (I k j)) (hn : 0 ≤ I 1 1 ∧ I 1 1 ≤ 240) (hB : ∀ j, 0 ≤ I 2 j ∧ I 2 j ≤ 255) {t : Nat} (ht : g_taste t) : g_Met w g_n I J R yX10_read cX10_read 3 (some .int) 32 0 0 [(gvr w 547), (gvr w t)] (g_post (some (gvI ((t_read (I 2) (I 1 1)).2.1))) g_n (t_M I t (t_read (I 2) (I 1 1))) J R) := by
  refine g_intro (own := RX10) [some (gvr w 547), some (gvr w t), none] (by decide +kernel) rfl (by decide) (Nat.le_of_ble_eq_true rfl) rfl (fun i v hv => g_args 1 i v hv rfl) (fun x hc hm => ?_)
  have hn0 := hn.1
  replace hn := hn.2
  refine g_aldn hc dX10_read_0 rfl ?_
  refine g_iconst hc dX10_read_1 ?_
  refine g_putI' hc lk_X10_15 (ta_0 ht) 2 rfl dX10_read_2 (fun I3 hI3 => ?_)
  refine g_aldn hc dX10_read_5 rfl ?_
  refine g_getRk hc lk_X10_9 ca_547 (rc_547_0 hR) dX10_read_6 ?_
  refine g_V0v hc (c_X8_begin w) my_X8_begin mv_X8_begin ca_1 rfl rfl lm_X10_21 rfl (by decide) (Nat.le_of_ble_eq_true rfl) hm dX10_read_9 ?_
  rw [hI3, show g_ts (g_up I t 2 0) 0 (-1) = t_M I t (0, -1, []) by rw [g_rw_0]; rfl]
  obtain ⟨s0_, hss0_⟩ : ∃ s0_ : g_S, s0_ = (0, -1, []) := ⟨_, rfl⟩
  rw [← hss0_]
  have hos0_ : t_ok (I 1 1) s0_ := by rw [hss0_]; exact ⟨⟨by decide, hn0⟩, ⟨by decide, by decide⟩, by decide, fun z h => by cases h⟩
  refine g_iconst hc dX10_read_12 ?_
  refine g_istore_2 hc dX10_read_13 rfl ?_
  have lp_14 : ∀ (fu : Nat) (i : Int) (sm : g_S), 0 ≤ i ∧ i ≤ 240 → t_read (I 2) (I 1 1) = t_fin (I 2) (I 1 1) (t_rdn (I 2) (I 1 1) (240 - i).toNat sm) → t_ok (I 1 1) sm → 240 - i < (fu : Int) → G w x (g_post (some (gvI ((t_read (I 2) (I 1 1)).2.1))) g_n (t_M I t (t_read (I 2) (I 1 1))) J R) 0 0 g_n (t_M I t sm) J R 14 [some (gvr w 547), some (gvr w t), some (gvI i)] [] := by
    intro fu
    induction fu with
    | zero => intro i sm h3 h4 hosm hfu; exfalso; omega
    | succ fu ih =>
      intro i sm h3 h4 hosm hfu
      have ih_14 := ih
      refine g_iload_n hc dX10_read_14 rfl ?_
      refine g_sipush hc dX10_read_15 (by decide +kernel) ?_
      refine g_icmp_ge (tgt := 47) hc dX10_read_18 (by decide) (by first | exact hI _ _ | exact hxI2 _ _ | exact hIa _ _ | exact hIb _ _ | exact g_b32 | exact g_and32 | assumption | exact ⟨by omega, by omega⟩) (by first | exact hI _ _ | exact hxI2 _ _ | exact hIa _ _ | exact hIb _ _ | exact g_b32 | exact g_and32 | assumption | exact ⟨by omega, by omega⟩) (fun c1 => ?_) (fun c1 => ?_)
      · skip
        refine g_aldn hc dX10_read_47 rfl ?_
        refine g_getRk hc lk_X10_9 ca_547 (rc_547_0 hR) dX10_read_48 ?_
        refine g_V0r hc (s_finish w hR hI hn ht hosm) my_X8_finish mv_X8_finish ca_1 rfl rfl lm_X10_34 rfl (by decide) (Nat.le_of_ble_eq_true rfl) hm dX10_read_51 ?_
        generalize hss1_ : t_fin (I 2) (I 1 1) sm = s1_
        have hos1_ : t_ok (I 1 1) s1_ := hss1_ ▸ t_fin_ok hosm hn
        refine g_iret hc hm dX10_read_54 ?_
        have hE : t_read (I 2) (I 1 1) = s1_ := by first | (rw [h4, show (240 - i).toNat = 0 by omega, t_rdn]; subst_vars; rfl) | (rw [h4, show (240 - i).toNat = (240 - (i + 1)).toNat + 1 by omega, t_rdn]; subst_vars; rw [if_neg (by assumption)])
        exact ⟨by rw [hE]; try (subst_vars; rfl), rfl, by rw [hE], rfl, rfl⟩
      · skip
        refine g_aldn hc dX10_read_21 rfl ?_
        refine g_aldn hc dX10_read_22 rfl ?_
        refine g_V1v hc (s_clause w hR hI hn hB ht hosm) my_X10_readClause mv_X10_readClause ca_547 rfl rfl lm_X10_26 rfl (by decide) (Nat.le_of_ble_eq_true rfl) hm dX10_read_23 ?_
        generalize hss2_ : t_cls (I 2) (I 1 1) sm = s2_
        have hos2_ : t_ok (I 1 1) s2_ := hss2_ ▸ t_cls_ok hn hosm
        refine g_aldn hc dX10_read_26 rfl ?_
        refine g_getRk hc lk_X10_9 ca_547 (rc_547_0 hR) dX10_read_27 ?_
        refine g_bipush hc dX10_read_30 (by decide +kernel) ?_
        refine g_V1r hc (s_takes w hR hI hn ht hos2_ (by exact ⟨by decide, by decide⟩)) my_X8_takes mv_X8_takes ca_1 rfl rfl lm_X10_30 rfl (by decide) (Nat.le_of_ble_eq_true rfl) hm dX10_read_32 ?_
        generalize hss3_ : t_tk (I 2) (I 1 1) 59 s2_ = s3_
        have hos3_ : t_ok (I 1 1) s3_ := hss3_ ▸ t_tk_ok hos2_ (by decide)
        refine g_ifb_ne (tgt := 41) hc dX10_read_35 (by decide)  (fun c2 => ?_) (fun c2 => ?_)
        · skip
          refine g_iinc_2 hc dX10_read_41 rfl ?_
          refine g_goto (tgt := 14) hc dX10_read_44 (by decide) ?_
          refine ih_14 _ _ ?_ ?_ ?_ ?_
          · omega
          · rw [h4, show (240 - i).toNat = (240 - (i + 1)).toNat + 1 by omega, t_rdn]; subst_vars; rw [if_pos (by assumption)]
          · exact hos3_
          · omega
        · skip
          refine g_goto (tgt := 47) hc dX10_read_38 (by decide) ?_
          refine g_aldn hc dX10_read_47 rfl ?_
          refine g_getRk hc lk_X10_9 ca_547 (rc_547_0 hR) dX10_read_48 ?_
          refine g_V0r hc (s_finish w hR hI hn ht hos3_) my_X8_finish mv_X8_finish ca_1 rfl rfl lm_X10_34 rfl (by decide) (Nat.le_of_ble_eq_true rfl) hm dX10_read_51 ?_
          generalize hss4_ : t_fin (I 2) (I 1 1) s3_ = s4_
          have hos4_ : t_ok (I 1 1) s4_ := hss4_ ▸ t_fin_ok hos3_ hn
          refine g_iret hc hm dX10_read_54 ?_
          have hE : t_read (I 2) (I 1 1) = s4_ := by first | (rw [h4, show (240 - i).toNat = 0 by omega, t_rdn]; subst_vars; rfl) | (rw [h4, show (240 - i).toNat = (240 - (i + 1)).toNat + 1 by omega, t_rdn]; subst_vars; rw [if_neg (by assumption)])
          exact ⟨by rw [hE]; try (subst_vars; rfl), rfl, by rw [hE], rfl, rfl⟩
  refine lp_14 241 _ _ ?_ ?_ ?_ (?_)
  · omega
  · rw [hss0_, Int.sub_zero]; rfl
  · exact hos0_
  · omega
