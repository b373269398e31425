section TSP
set_option maxHeartbeats 4000000 in
theorem c_X9_put (w : g_W) {I : g_I} {J : g_J} {R : g_R} {lb tx : Nat} (hR : g_rf w R lb tx) (hI : ∀ k j, g32 (I k j)) {t : Nat} (ht : g_taste t) {z : Int} (hl : 0 ≤ I t 2 ∧ I t 2 ≤ 256) : g_Met w g_n I J R yX9_put cX9_put 2 none 0 0 0 [gvr w t, gvI z] (g_post none g_n (if I t 2 < 256 then g_up (g_up I (t + 1) (I t 2) z) t 2 (I t 2 + 1) else I) J R) := by
  refine g_intro (own := RX9) [some (gvr w t), some (gvI z)] (by decide +kernel) rfl (by decide) (Nat.le_of_ble_eq_true rfl) rfl (fun i v hv => g_args 0 i v hv rfl) (fun x hc hm => ?_)
  have ht5 := ht
  unfold g_taste at ht5
  refine g_aldn hc dX9_put_0 rfl ?_
  refine g_getI' hc lk_X9_16 (ta_0 ht) 2 rfl dX9_put_1 ?_
  refine g_sipush hc dX9_put_4 (by decide +kernel) ?_
  refine g_icmp_ge (tgt := 30) hc dX9_put_7 (by decide) (by first | exact hI _ _ | exact hxI2 _ _ | exact hIa _ _ | exact hIb _ _ | exact g_b32 | exact g_and32 | assumption | exact ⟨by omega, by omega⟩) (by first | exact hI _ _ | exact hxI2 _ _ | exact hIa _ _ | exact hIb _ _ | exact g_b32 | exact g_and32 | assumption | exact ⟨by omega, by omega⟩) (fun c1 => ?_) (fun c1 => ?_)
  · skip
    refine g_vret hc hm dX9_put_30 ?_
    first | (exfalso; omega) | exact ⟨rfl, rfl, by rw [if_pos (by omega), hI4, e1, hI3], rfl, rfl⟩ | exact ⟨rfl, rfl, by rw [if_neg (by omega)], rfl, rfl⟩
  · skip
    refine g_aldn hc dX9_put_10 rfl ?_
    refine g_getRk hc lk_X9_9 (ta_0 ht) (rt_0 hR ht) dX9_put_11 ?_
    refine g_aldn hc dX9_put_14 rfl ?_
    refine g_getI' hc lk_X9_16 (ta_0 ht) 2 rfl dX9_put_15 ?_
    refine g_iload_n hc dX9_put_18 rfl ?_
    refine g_iast' hc (ta_1 ht) (by decide) (by omega) (by omega)  dX9_put_19 (fun I3 hI3 => ?_)
    have e1 : I3 t 2 = I t 2 := by rw [hI3, g_up_k (by omega)]
    refine g_aldn hc dX9_put_20 rfl ?_
    refine g_dup hc dX9_put_21 rfl ?_
    refine g_getI' hc lk_X9_16 (ta_0 ht) 2 rfl dX9_put_22 ?_
    refine g_iconst hc dX9_put_25 ?_
    refine g_iadd hc dX9_put_26 ?_
    refine g_putI' hc lk_X9_16 (ta_0 ht) 2 rfl dX9_put_27 (fun I4 hI4 => ?_)
    refine g_vret hc hm dX9_put_30 ?_
    first | (exfalso; omega) | exact ⟨rfl, rfl, by rw [if_pos (by omega), hI4, e1, hI3], rfl, rfl⟩ | exact ⟨rfl, rfl, by rw [if_neg (by omega)], rfl, rfl⟩
theorem s_put (w : g_W) {I : g_I} {J : g_J} {R : g_R} {lb tx : Nat} {t : Nat} {s : g_S} (hR : g_rf w R lb tx) (hI : ∀ k j, g32 (I k j)) (hn : I 1 1 ≤ 240) (ht : g_taste t) (ho : t_ok (I 1 1) s) {z : Int} (hz : g32 z) : g_Met w g_n (t_M I t s) J R yX9_put cX9_put 2 none 0 0 0 [gvr w t, gvI z] (g_post none g_n (t_M I t (t_put z s)) J R) := by
  have hne := t_tne ht
  have e2 : t_M I t s t 2 = (s.2.2.length : Int) := by
    unfold t_M
    rw [g_ts_k (Ne.symm hne.2.2.1), g_rw_l]
  have hl := ho.2.2.1
  have h := c_X9_put w (I := t_M I t s) (J := J) hR (t_M32 hI hn ho) ht (z := z) (by rw [e2]; omega)
  rw [e2] at h
  have e3 : (if (s.2.2.length : Int) < 256 then g_up (g_up (t_M I t s) (t + 1) s.2.2.length z) t 2 ((s.2.2.length : Int) + 1) else t_M I t s) = t_M I t (t_put z s) := by
    unfold t_put t_M
    dsimp only
    by_cases hc : s.2.2.length < 256
    · rw [if_pos (by omega), if_pos hc, g_ts_p (Ne.symm hne.2.2.2), g_ts_p (Ne.symm hne.2.2.1), g_rw_put]
    · rw [if_neg (by omega), if_neg hc]
  rw [e3] at h
  exact h
end TSP
set_option maxHeartbeats 4000000 in
set_option maxRecDepth 100000 in
/-- X10_compares -/
theorem c_X10_compares (w : g_W) {I : g_I} {J : g_J} {R : g_R} {c : Int} (h1 : g32 c) : g_Met w g_n I J R yX10_compares cX10_compares 1 (some .boolean) 0 0 0 [(gvI c)] (g_post (some (gvI (g_b (t_cp c)))) g_n I J R) := by
  refine g_intro (own := RX10) [some (gvI c)] (by decide +kernel) rfl (by decide) (Nat.le_of_ble_eq_true rfl) rfl (fun i v hv => g_args 0 i v hv rfl) (fun x hc hm => ?_)
  refine g_iload_n hc dX10_compares_0 rfl ?_
  refine g_bipush hc dX10_compares_1 (by decide +kernel) ?_
  refine g_icmp_eq (tgt := 18) hc dX10_compares_3 (by decide) (by first | exact hI _ _ | exact hxI2 _ _ | exact hIa _ _ | exact hIb _ _ | exact g_b32 | exact g_and32 | assumption | exact ⟨by omega, by omega⟩) (by first | exact hI _ _ | exact hxI2 _ _ | exact hIa _ _ | exact hIb _ _ | exact g_b32 | exact g_and32 | assumption | exact ⟨by omega, by omega⟩) (fun c1 => ?_) (fun c1 => ?_)
  · skip
    refine g_iconst hc dX10_compares_18 ?_
    refine g_goto (tgt := 23) hc dX10_compares_19 (by decide) ?_
    refine g_zret hc hm (by first | exact g_b01 | omega) dX10_compares_23 ?_
    first | (exfalso; omega) | exact g_postE (g_b1 (by unfold t_cp; omega)) | exact g_postE (g_b0 (by unfold t_cp; omega))
  · skip
    refine g_iload_n hc dX10_compares_6 rfl ?_
    refine g_bipush hc dX10_compares_7 (by decide +kernel) ?_
    refine g_icmp_eq (tgt := 18) hc dX10_compares_9 (by decide) (by first | exact hI _ _ | exact hxI2 _ _ | exact hIa _ _ | exact hIb _ _ | exact g_b32 | exact g_and32 | assumption | exact ⟨by omega, by omega⟩) (by first | exact hI _ _ | exact hxI2 _ _ | exact hIa _ _ | exact hIb _ _ | exact g_b32 | exact g_and32 | assumption | exact ⟨by omega, by omega⟩) (fun c2 => ?_) (fun c2 => ?_)
    · skip
      refine g_iconst hc dX10_compares_18 ?_
      refine g_goto (tgt := 23) hc dX10_compares_19 (by decide) ?_
      refine g_zret hc hm (by first | exact g_b01 | omega) dX10_compares_23 ?_
      first | (exfalso; omega) | exact g_postE (g_b1 (by unfold t_cp; omega)) | exact g_postE (g_b0 (by unfold t_cp; omega))
    · skip
      refine g_iload_n hc dX10_compares_12 rfl ?_
      refine g_bipush hc dX10_compares_13 (by decide +kernel) ?_
      refine g_icmp_ne (tgt := 22) hc dX10_compares_15 (by decide) (by first | exact hI _ _ | exact hxI2 _ _ | exact hIa _ _ | exact hIb _ _ | exact g_b32 | exact g_and32 | assumption | exact ⟨by omega, by omega⟩) (by first | exact hI _ _ | exact hxI2 _ _ | exact hIa _ _ | exact hIb _ _ | exact g_b32 | exact g_and32 | assumption | exact ⟨by omega, by omega⟩) (fun c3 => ?_) (fun c3 => ?_)
      · skip
        refine g_iconst hc dX10_compares_22 ?_
        refine g_zret hc hm (by first | exact g_b01 | omega) dX10_compares_23 ?_
        first | (exfalso; omega) | exact g_postE (g_b1 (by unfold t_cp; omega)) | exact g_postE (g_b0 (by unfold t_cp; omega))
      · skip
        refine g_iconst hc dX10_compares_18 ?_
        refine g_goto (tgt := 23) hc dX10_compares_19 (by decide) ?_
        refine g_zret hc hm (by first | exact g_b01 | omega) dX10_compares_23 ?_
        first | (exfalso; omega) | exact g_postE (g_b1 (by unfold t_cp; omega)) | exact g_postE (g_b0 (by unfold t_cp; omega))
set_option maxHeartbeats 4000000 in
set_option maxRecDepth 100000 in
/-- X10_goesIn -/
theorem s_goes1 (w : g_W) {I : g_I} {J : g_J} {R : g_R} {lb tx : Nat} (hR : g_rf w R lb tx) (hI : ∀ k j, g32 (I k j)) (hn : I 1 1 ≤ 240) (hB : ∀ j, 0 ≤ I 2 j ∧ I 2 j ≤ 255) {t : Nat} (ht : g_taste t) {s : g_S} (hos : t_ok (I 1 1) s) {d : Int} (h1 : d < 6) (h0 : 0 ≤ d) (hlt : s.1 < I 1 1) : g_Met w g_n (t_M I t s) J R yX10_goesIn cX10_goesIn 2 (some .boolean) 2 0 0 [(gvr w 547), (gvI d)] (g_post (some (gvI 1)) g_n (t_M I t (t_adv s)) J R) := by
  refine g_intro (own := RX10) [some (gvr w 547), some (gvI d)] (by decide +kernel) rfl (by decide) (Nat.le_of_ble_eq_true rfl) rfl (fun i v hv => g_args 0 i v hv rfl) (fun x hc hm => ?_)
  refine g_iload_n hc dX10_goesIn_0 rfl ?_
  refine g_bipush hc dX10_goesIn_1 (by decide +kernel) ?_
  refine g_icmp_lt (tgt := 22) hc dX10_goesIn_3 (by decide) (by first | exact hI _ _ | exact hxI2 _ _ | exact hIa _ _ | exact hIb _ _ | exact g_b32 | exact g_and32 | assumption | exact ⟨by omega, by omega⟩) (by first | exact hI _ _ | exact hxI2 _ _ | exact hIa _ _ | exact hIb _ _ | exact g_b32 | exact g_and32 | assumption | exact ⟨by omega, by omega⟩) (fun c1 => ?_) (fun c1 => ?_)
  · skip
    refine g_aldn hc dX10_goesIn_22 rfl ?_
    refine g_getRk hc lk_X10_9 ca_547 (rc_547_0 hR) dX10_goesIn_23 ?_
    refine g_dup hc dX10_goesIn_26 rfl ?_
    refine g_getIe hc lk_X10_71 ca_1 2 rfl t_M_a dX10_goesIn_27 ?_
    refine g_iconst hc dX10_goesIn_30 ?_
    refine g_iadd hc dX10_goesIn_31 ?_
    refine g_putIe (I2 := t_M I t (t_adv s)) hc lk_X10_71 ca_1 2 rfl t_M_p dX10_goesIn_32 ?_
    generalize hss1_ : t_adv s = s1_
    have hos1_ : t_ok (I 1 1) s1_ := hss1_ ▸ t_adv_ok hos hlt
    refine g_iconst hc dX10_goesIn_35 ?_
    refine g_zret hc hm (by first | exact g_b01 | omega) dX10_goesIn_36 ?_
    exact ⟨rfl, rfl, by rw [← hss1_], rfl, rfl⟩
  · exfalso; omega
set_option maxHeartbeats 4000000 in
set_option maxRecDepth 100000 in
/-- X10_goesIn -/
theorem s_goes0 (w : g_W) {I : g_I} {J : g_J} {R : g_R} {lb tx : Nat} (hR : g_rf w R lb tx) (hI : ∀ k j, g32 (I k j)) (hn : I 1 1 ≤ 240) (hB : ∀ j, 0 ≤ I 2 j ∧ I 2 j ≤ 255) {t : Nat} (ht : g_taste t) {s : g_S} (hos : t_ok (I 1 1) s) {d : Int} (h1 : d = 6) (hfx : g_pos (I 2) (I 1 1) s.1 = s.1) : g_Met w g_n (t_M I t s) J R yX10_goesIn cX10_goesIn 2 (some .boolean) 2 0 0 [(gvr w 547), (gvI d)] (g_post (some (gvI 0)) g_n (t_M I t (t_fl (I 2) (I 1 1) s)) J R) := by
  refine g_intro (own := RX10) [some (gvr w 547), some (gvI d)] (by decide +kernel) rfl (by decide) (Nat.le_of_ble_eq_true rfl) rfl (fun i v hv => g_args 0 i v hv rfl) (fun x hc hm => ?_)
  refine g_iload_n hc dX10_goesIn_0 rfl ?_
  refine g_bipush hc dX10_goesIn_1 (by decide +kernel) ?_
  refine g_icmp_lt (tgt := 22) hc dX10_goesIn_3 (by decide) (by first | exact hI _ _ | exact hxI2 _ _ | exact hIa _ _ | exact hIb _ _ | exact g_b32 | exact g_and32 | assumption | exact ⟨by omega, by omega⟩) (by first | exact hI _ _ | exact hxI2 _ _ | exact hIa _ _ | exact hIb _ _ | exact g_b32 | exact g_and32 | assumption | exact ⟨by omega, by omega⟩) (fun c1 => ?_) (fun c1 => ?_)
  · exfalso; omega
  · skip
    refine g_aldn hc dX10_goesIn_6 rfl ?_
    refine g_getRk hc lk_X10_9 ca_547 (rc_547_0 hR) dX10_goesIn_7 ?_
    refine g_aldn hc dX10_goesIn_10 rfl ?_
    refine g_getRk hc lk_X10_9 ca_547 (rc_547_0 hR) dX10_goesIn_11 ?_
    refine g_getIe hc lk_X10_71 ca_1 2 rfl t_M_a dX10_goesIn_14 ?_
    refine g_V1v hc (s_failAt w hR hI hn ht hos (by first | exact hfx | (rw [← hss]; exact t_sk_fx (by assumption)))) my_X8_failAt mv_X8_failAt ca_1 rfl rfl lm_X10_74 rfl (by decide) (Nat.le_of_ble_eq_true rfl) hm dX10_goesIn_17 ?_
    generalize hss1_ : t_fl (I 2) (I 1 1) s = s1_
    have hos1_ : t_ok (I 1 1) s1_ := hss1_ ▸ t_fl_ok hos hn
    refine g_iconst hc dX10_goesIn_20 ?_
    refine g_zret hc hm (by first | exact g_b01 | omega) dX10_goesIn_21 ?_
    exact ⟨rfl, rfl, by rw [← hss1_], rfl, rfl⟩
theorem g_sgn32 {I : g_I} (hI : ∀ k j, g32 (I k j)) {n a : Int} : g32 (g_sgn (I 2) n a) := by
  unfold g_sgn
  split
  · exact hI _ _
  · exact ⟨by decide, by decide⟩
set_option maxHeartbeats 4000000 in
set_option maxRecDepth 100000 in
/-- X10_readAtom -/
theorem s_atm0 (w : g_W) {I : g_I} {J : g_J} {R : g_R} {lb tx : Nat} (hR : g_rf w R lb tx) (hI : ∀ k j, g32 (I k j)) (hn : I 1 1 ≤ 240) (hB : ∀ j, 0 ≤ I 2 j ∧ I 2 j ≤ 255) {t : Nat} (ht : g_taste t) {s : g_S} (hos : t_ok (I 1 1) s) {d : Int} (hd : d = 6)  : g_Met w g_n (t_M I t s) J R yX10_readAtom cX10_readAtom 5 none (6 + 3 * 0) 0 0 [(gvr w 547), (gvr w t), (gvI d)] (g_post none g_n (t_M I t (t_atk (I 2) (I 1 1) 0 s)) J R) := by
  refine g_intro (own := RX10) [some (gvr w 547), some (gvr w t), some (gvI d), none, none] (by decide +kernel) rfl (by decide) (Nat.le_of_ble_eq_true rfl) rfl (fun i v hv => g_args 2 i v hv rfl) (fun x hc hm => ?_)
  refine g_aldn hc dX10_readAtom_0 rfl ?_
  refine g_getRk hc lk_X10_9 ca_547 (rc_547_0 hR) dX10_readAtom_1 ?_
  refine g_V0r hc (s_sign w hR hI hn ht hos) my_X8_sign mv_X8_sign ca_1 rfl rfl lm_X10_42 rfl (by omega) (Nat.le_of_ble_eq_true rfl) hm dX10_readAtom_4 ?_
  generalize hss1_ : t_sk (I 2) (I 1 1) s = s1_
  have hos1_ : t_ok (I 1 1) s1_ := hss1_ ▸ t_sk_ok hos
  refine g_istore_3 hc dX10_readAtom_7 rfl ?_
  have hsb := t_sg_b (B := I 2) (n := I 1 1) (s := s) hB
  have hlt2 := t_lt_in (c := t_sg (I 2) (I 1 1) s)
  refine g_iload_n hc dX10_readAtom_8 rfl ?_
  refine g_if_ge (tgt := 16) hc dX10_readAtom_9 (by decide) (by rw [t_sg]; exact g_sgn32 hI) (fun c1 => ?_) (fun c1 => ?_)
  · skip
    refine g_ldcS (i := 3) (tx := "gjoydtbw") hc (by decide) dX10_readAtom_16 ?_
    refine g_iload_n hc dX10_readAtom_18 rfl ?_
    refine g_i2c hc dX10_readAtom_19 ?_
    rw [show g_i2c' (t_sg (I 2) (I 1 1) s) = t_sg (I 2) (I 1 1) s from g_i2c_id (by omega)]
    refine g_T1r (i := 3) (by decide) hc (c_J0_indexOf_0f7a4 w (by decide) (by first | exact hI _ _ | exact hxI2 _ _ | exact hIa _ _ | exact hIb _ _ | exact g_b32 | exact g_and32 | assumption | exact ⟨by omega, by omega⟩) (by omega) (by first | assumption | decide)) my_J0_indexOf_0f7a4 mv_J0_indexOf_0f7a4 rfl lm_X10_85 rfl (by omega) (Nat.le_of_ble_eq_true rfl) hm dX10_readAtom_20 ?_
    rw [show g_inx 3 (t_sg (I 2) (I 1 1) s) = t_lt (t_sg (I 2) (I 1 1) s) from by first | (rw [t_lt, if_pos (by omega)]) | (rw [t_lt, if_neg (by omega)]; rfl)]
    refine g_istore_4 hc dX10_readAtom_23 rfl ?_
    refine g_iload_n hc dX10_readAtom_25 rfl ?_
    refine g_bipush hc dX10_readAtom_26 (by decide +kernel) ?_
    refine g_icmp_ne (tgt := 59) hc dX10_readAtom_28 (by decide) (by rw [t_sg]; exact g_sgn32 hI) (by exact ⟨by decide, by decide⟩) (fun c2 => ?_) (fun c2 => ?_)
    · skip
      refine g_iload hc dX10_readAtom_59 rfl ?_
      refine g_if_lt (tgt := 90) hc dX10_readAtom_61 (by decide) (by exact ⟨by omega, by omega⟩) (fun c3 => ?_) (fun c3 => ?_)
      · skip
        refine g_aldn hc dX10_readAtom_90 rfl ?_
        refine g_aldn hc dX10_readAtom_91 rfl ?_
        refine g_getRk hc lk_X10_9 ca_547 (rc_547_0 hR) dX10_readAtom_92 ?_
        refine g_iconst hc dX10_readAtom_95 ?_
        refine g_iconst hc dX10_readAtom_96 ?_
        refine g_sipush hc dX10_readAtom_97 (by decide +kernel) ?_
        have hnm := (t_nm_ok (B := I 2) hos1_ hn).2
        refine g_V3r hc (s_number w hR hI hn ht hos1_) my_X8_number mv_X8_number ca_1 rfl rfl lm_X10_91 rfl (by omega) (Nat.le_of_ble_eq_true rfl) hm dX10_readAtom_100 ?_
        generalize hss2_ : t_nm (I 2) (I 1 1) s1_ = s2_
        have hos2_ : t_ok (I 1 1) s2_ := hss2_ ▸ (t_nm_ok hos1_ hn).1
        refine g_V1v hc (s_put w hR hI hn ht hos2_ (by first | exact hI _ _ | exact hxI2 _ _ | exact hIa _ _ | exact hIb _ _ | exact g_b32 | exact g_and32 | assumption | exact ⟨by omega, by omega⟩)) my_X9_put mv_X9_put (ta_0 ht) rfl rfl lm_X10_56 rfl (by omega) (Nat.le_of_ble_eq_true rfl) hm dX10_readAtom_103 ?_
        generalize hss3_ : t_put (t_nv (I 2) (I 1 1) s1_) s2_ = s3_
        have hos3_ : t_ok (I 1 1) s3_ := hss3_ ▸ t_put_ok hos2_ (by first | exact hI _ _ | exact hxI2 _ _ | exact hIa _ _ | exact hIb _ _ | exact g_b32 | exact g_and32 | assumption | exact ⟨by omega, by omega⟩)
        refine g_vret hc hm dX10_readAtom_106 ?_
        exact ⟨rfl, rfl, by unfold t_atk t_atom; first | (rw [if_pos (by assumption)]; subst_vars; rfl) | (rw [if_neg (by assumption), if_pos (by omega)]; subst_vars; rfl) | (rw [if_neg (by assumption), if_neg (by omega)]; subst_vars; rfl), rfl, rfl⟩
      · skip
        have hsg0 : 0 ≤ t_sg (I 2) (I 1 1) s := by
          by_cases z : t_sg (I 2) (I 1 1) s < 0
          · exfalso; have h9 : t_lt (t_sg (I 2) (I 1 1) s) = -1 := (by rw [t_lt, if_pos z]); omega
          · omega
        refine g_aldn hc dX10_readAtom_64 rfl ?_
        refine g_getRk hc lk_X10_9 ca_547 (rc_547_0 hR) dX10_readAtom_65 ?_
        refine g_dup hc dX10_readAtom_68 rfl ?_
        refine g_getIe hc lk_X10_71 ca_1 2 rfl t_M_a dX10_readAtom_69 ?_
        refine g_iconst hc dX10_readAtom_72 ?_
        refine g_iadd hc dX10_readAtom_73 ?_
        refine g_putIe (I2 := t_M I t (t_adv s1_)) hc lk_X10_71 ca_1 2 rfl t_M_p dX10_readAtom_74 ?_
        generalize hss4_ : t_adv s1_ = s4_
        have hos4_ : t_ok (I 1 1) s4_ := hss4_ ▸ t_adv_ok hos1_ (by subst_vars; exact t_sg_in hos (by omega))
        refine g_aldn hc dX10_readAtom_77 rfl ?_
        refine g_sipush hc dX10_readAtom_78 (by decide +kernel) ?_
        refine g_iload hc dX10_readAtom_81 rfl ?_
        refine g_iadd hc dX10_readAtom_83 ?_
        refine g_V1v hc (s_put w hR hI hn ht hos4_ (by first | exact hI _ _ | exact hxI2 _ _ | exact hIa _ _ | exact hIb _ _ | exact g_b32 | exact g_and32 | assumption | exact ⟨by omega, by omega⟩)) my_X9_put mv_X9_put (ta_0 ht) rfl rfl lm_X10_56 rfl (by omega) (Nat.le_of_ble_eq_true rfl) hm dX10_readAtom_84 ?_
        generalize hss5_ : t_put (10000 + (t_lt (t_sg (I 2) (I 1 1) s))) s4_ = s5_
        have hos5_ : t_ok (I 1 1) s5_ := hss5_ ▸ t_put_ok hos4_ (by first | exact hI _ _ | exact hxI2 _ _ | exact hIa _ _ | exact hIb _ _ | exact g_b32 | exact g_and32 | assumption | exact ⟨by omega, by omega⟩)
        refine g_goto (tgt := 106) hc dX10_readAtom_87 (by decide) ?_
        refine g_vret hc hm dX10_readAtom_106 ?_
        exact ⟨rfl, rfl, by unfold t_atk t_atom; first | (rw [if_pos (by assumption)]; subst_vars; rfl) | (rw [if_neg (by assumption), if_pos (by omega)]; subst_vars; rfl) | (rw [if_neg (by assumption), if_neg (by omega)]; subst_vars; rfl), rfl, rfl⟩
    · skip
      have hlt : s1_.1 < I 1 1 := by subst_vars; exact t_sg_in hos (by omega)
      refine g_aldn hc dX10_readAtom_31 rfl ?_
      refine g_iload_n hc dX10_readAtom_32 rfl ?_
      refine g_V1r hc (s_goes0 w hR hI hn hB ht hos1_ (by omega) (by rw [← hss1_]; exact t_sk_fx (by assumption))) my_X10_goesIn mv_X10_goesIn ca_547 rfl rfl lm_X10_65 rfl (by omega) (Nat.le_of_ble_eq_true rfl) hm dX10_readAtom_33 ?_
      generalize hss6_ : t_fl (I 2) (I 1 1) s1_ = s6_
      have hos6_ : t_ok (I 1 1) s6_ := hss6_ ▸ t_fl_ok hos1_ hn
      refine g_if_eq (tgt := 106) hc dX10_readAtom_36 (by decide) (show g32 _ from ⟨by decide, by decide⟩) (fun c4 => ?_) (fun c4 => ?_)
      · skip
        refine g_vret hc hm dX10_readAtom_106 ?_
        exact ⟨rfl, rfl, by unfold t_atk t_atom; first | (rw [if_pos (by assumption)]; subst_vars; rfl) | (rw [if_neg (by assumption), if_pos (by omega)]; subst_vars; rfl) | (rw [if_neg (by assumption), if_neg (by omega)]; subst_vars; rfl), rfl, rfl⟩
      · exfalso; omega
  · skip
    refine g_iconst hc dX10_readAtom_12 ?_
    refine g_goto (tgt := 23) hc dX10_readAtom_13 (by decide) ?_
    rw [show (-1) = t_lt (t_sg (I 2) (I 1 1) s) from by first | (rw [t_lt, if_pos (by omega)]) | (rw [t_lt, if_neg (by omega)]; rfl)]
    refine g_istore_4 hc dX10_readAtom_23 rfl ?_
    refine g_iload_n hc dX10_readAtom_25 rfl ?_
    refine g_bipush hc dX10_readAtom_26 (by decide +kernel) ?_
    refine g_icmp_ne (tgt := 59) hc dX10_readAtom_28 (by decide) (by rw [t_sg]; exact g_sgn32 hI) (by exact ⟨by decide, by decide⟩) (fun c5 => ?_) (fun c5 => ?_)
    · skip
      refine g_iload hc dX10_readAtom_59 rfl ?_
      refine g_if_lt (tgt := 90) hc dX10_readAtom_61 (by decide) (by exact ⟨by omega, by omega⟩) (fun c6 => ?_) (fun c6 => ?_)
      · skip
        refine g_aldn hc dX10_readAtom_90 rfl ?_
        refine g_aldn hc dX10_readAtom_91 rfl ?_
        refine g_getRk hc lk_X10_9 ca_547 (rc_547_0 hR) dX10_readAtom_92 ?_
        refine g_iconst hc dX10_readAtom_95 ?_
        refine g_iconst hc dX10_readAtom_96 ?_
        refine g_sipush hc dX10_readAtom_97 (by decide +kernel) ?_
        have hnm := (t_nm_ok (B := I 2) hos1_ hn).2
        refine g_V3r hc (s_number w hR hI hn ht hos1_) my_X8_number mv_X8_number ca_1 rfl rfl lm_X10_91 rfl (by omega) (Nat.le_of_ble_eq_true rfl) hm dX10_readAtom_100 ?_
        generalize hss7_ : t_nm (I 2) (I 1 1) s1_ = s7_
        have hos7_ : t_ok (I 1 1) s7_ := hss7_ ▸ (t_nm_ok hos1_ hn).1
        refine g_V1v hc (s_put w hR hI hn ht hos7_ (by first | exact hI _ _ | exact hxI2 _ _ | exact hIa _ _ | exact hIb _ _ | exact g_b32 | exact g_and32 | assumption | exact ⟨by omega, by omega⟩)) my_X9_put mv_X9_put (ta_0 ht) rfl rfl lm_X10_56 rfl (by omega) (Nat.le_of_ble_eq_true rfl) hm dX10_readAtom_103 ?_
        generalize hss8_ : t_put (t_nv (I 2) (I 1 1) s1_) s7_ = s8_
        have hos8_ : t_ok (I 1 1) s8_ := hss8_ ▸ t_put_ok hos7_ (by first | exact hI _ _ | exact hxI2 _ _ | exact hIa _ _ | exact hIb _ _ | exact g_b32 | exact g_and32 | assumption | exact ⟨by omega, by omega⟩)
        refine g_vret hc hm dX10_readAtom_106 ?_
        exact ⟨rfl, rfl, by unfold t_atk t_atom; first | (rw [if_pos (by assumption)]; subst_vars; rfl) | (rw [if_neg (by assumption), if_pos (by omega)]; subst_vars; rfl) | (rw [if_neg (by assumption), if_neg (by omega)]; subst_vars; rfl), rfl, rfl⟩
      · skip
        have hsg0 : 0 ≤ t_sg (I 2) (I 1 1) s := by
          by_cases z : t_sg (I 2) (I 1 1) s < 0
          · exfalso; have h9 : t_lt (t_sg (I 2) (I 1 1) s) = -1 := (by rw [t_lt, if_pos z]); omega
          · omega
        refine g_aldn hc dX10_readAtom_64 rfl ?_
        refine g_getRk hc lk_X10_9 ca_547 (rc_547_0 hR) dX10_readAtom_65 ?_
        refine g_dup hc dX10_readAtom_68 rfl ?_
        refine g_getIe hc lk_X10_71 ca_1 2 rfl t_M_a dX10_readAtom_69 ?_
        refine g_iconst hc dX10_readAtom_72 ?_
        refine g_iadd hc dX10_readAtom_73 ?_
        refine g_putIe (I2 := t_M I t (t_adv s1_)) hc lk_X10_71 ca_1 2 rfl t_M_p dX10_readAtom_74 ?_
        generalize hss9_ : t_adv s1_ = s9_
        have hos9_ : t_ok (I 1 1) s9_ := hss9_ ▸ t_adv_ok hos1_ (by subst_vars; exact t_sg_in hos (by omega))
        refine g_aldn hc dX10_readAtom_77 rfl ?_
        refine g_sipush hc dX10_readAtom_78 (by decide +kernel) ?_
        refine g_iload hc dX10_readAtom_81 rfl ?_
        refine g_iadd hc dX10_readAtom_83 ?_
        refine g_V1v hc (s_put w hR hI hn ht hos9_ (by first | exact hI _ _ | exact hxI2 _ _ | exact hIa _ _ | exact hIb _ _ | exact g_b32 | exact g_and32 | assumption | exact ⟨by omega, by omega⟩)) my_X9_put mv_X9_put (ta_0 ht) rfl rfl lm_X10_56 rfl (by omega) (Nat.le_of_ble_eq_true rfl) hm dX10_readAtom_84 ?_
        generalize hss10_ : t_put (10000 + (t_lt (t_sg (I 2) (I 1 1) s))) s9_ = s10_
        have hos10_ : t_ok (I 1 1) s10_ := hss10_ ▸ t_put_ok hos9_ (by first | exact hI _ _ | exact hxI2 _ _ | exact hIa _ _ | exact hIb _ _ | exact g_b32 | exact g_and32 | assumption | exact ⟨by omega, by omega⟩)
        refine g_goto (tgt := 106) hc dX10_readAtom_87 (by decide) ?_
        refine g_vret hc hm dX10_readAtom_106 ?_
        exact ⟨rfl, rfl, by unfold t_atk t_atom; first | (rw [if_pos (by assumption)]; subst_vars; rfl) | (rw [if_neg (by assumption), if_pos (by omega)]; subst_vars; rfl) | (rw [if_neg (by assumption), if_neg (by omega)]; subst_vars; rfl), rfl, rfl⟩
    · skip
      have hlt : s1_.1 < I 1 1 := by subst_vars; exact t_sg_in hos (by omega)
      refine g_aldn hc dX10_readAtom_31 rfl ?_
      refine g_iload_n hc dX10_readAtom_32 rfl ?_
      refine g_V1r hc (s_goes0 w hR hI hn hB ht hos1_ (by omega) (by rw [← hss1_]; exact t_sk_fx (by assumption))) my_X10_goesIn mv_X10_goesIn ca_547 rfl rfl lm_X10_65 rfl (by omega) (Nat.le_of_ble_eq_true rfl) hm dX10_readAtom_33 ?_
      generalize hss11_ : t_fl (I 2) (I 1 1) s1_ = s11_
      have hos11_ : t_ok (I 1 1) s11_ := hss11_ ▸ t_fl_ok hos1_ hn
      refine g_if_eq (tgt := 106) hc dX10_readAtom_36 (by decide) (show g32 _ from ⟨by decide, by decide⟩) (fun c7 => ?_) (fun c7 => ?_)
      · skip
        refine g_vret hc hm dX10_readAtom_106 ?_
        exact ⟨rfl, rfl, by unfold t_atk t_atom; first | (rw [if_pos (by assumption)]; subst_vars; rfl) | (rw [if_neg (by assumption), if_pos (by omega)]; subst_vars; rfl) | (rw [if_neg (by assumption), if_neg (by omega)]; subst_vars; rfl), rfl, rfl⟩
      · exfalso; omega
set_option maxHeartbeats 4000000 in
set_option maxRecDepth 100000 in
/-- X10_readAtom -/
theorem s_atmS (w : g_W) {I : g_I} {J : g_J} {R : g_R} {lb tx : Nat} (hR : g_rf w R lb tx) (hI : ∀ k j, g32 (I k j)) (hn : I 1 1 ≤ 240) (hB : ∀ j, 0 ≤ I 2 j ∧ I 2 j ≤ 255) {t : Nat} (ht : g_taste t) {s : g_S} (hos : t_ok (I 1 1) s) {k : Nat} {d : Int} (hd : d = 6 - ((k + 1 : Nat) : Int)) (hk : k < 6) (hS : C_sum w k) : g_Met w g_n (t_M I t s) J R yX10_readAtom cX10_readAtom 5 none (6 + 3 * (k + 1)) 0 0 [(gvr w 547), (gvr w t), (gvI d)] (g_post none g_n (t_M I t (t_atk (I 2) (I 1 1) (k + 1) s)) J R) := by
  refine g_intro (own := RX10) [some (gvr w 547), some (gvr w t), some (gvI d), none, none] (by decide +kernel) rfl (by decide) (Nat.le_of_ble_eq_true rfl) rfl (fun i v hv => g_args 2 i v hv rfl) (fun x hc hm => ?_)
  refine g_aldn hc dX10_readAtom_0 rfl ?_
  refine g_getRk hc lk_X10_9 ca_547 (rc_547_0 hR) dX10_readAtom_1 ?_
  refine g_V0r hc (s_sign w hR hI hn ht hos) my_X8_sign mv_X8_sign ca_1 rfl rfl lm_X10_42 rfl (by omega) (Nat.le_of_ble_eq_true rfl) hm dX10_readAtom_4 ?_
  generalize hss1_ : t_sk (I 2) (I 1 1) s = s1_
  have hos1_ : t_ok (I 1 1) s1_ := hss1_ ▸ t_sk_ok hos
  refine g_istore_3 hc dX10_readAtom_7 rfl ?_
  have hsb := t_sg_b (B := I 2) (n := I 1 1) (s := s) hB
  have hlt2 := t_lt_in (c := t_sg (I 2) (I 1 1) s)
  refine g_iload_n hc dX10_readAtom_8 rfl ?_
  refine g_if_ge (tgt := 16) hc dX10_readAtom_9 (by decide) (by rw [t_sg]; exact g_sgn32 hI) (fun c1 => ?_) (fun c1 => ?_)
  · skip
    refine g_ldcS (i := 3) (tx := "gjoydtbw") hc (by decide) dX10_readAtom_16 ?_
    refine g_iload_n hc dX10_readAtom_18 rfl ?_
    refine g_i2c hc dX10_readAtom_19 ?_
    rw [show g_i2c' (t_sg (I 2) (I 1 1) s) = t_sg (I 2) (I 1 1) s from g_i2c_id (by omega)]
    refine g_T1r (i := 3) (by decide) hc (c_J0_indexOf_0f7a4 w (by decide) (by first | exact hI _ _ | exact hxI2 _ _ | exact hIa _ _ | exact hIb _ _ | exact g_b32 | exact g_and32 | assumption | exact ⟨by omega, by omega⟩) (by omega) (by first | assumption | decide)) my_J0_indexOf_0f7a4 mv_J0_indexOf_0f7a4 rfl lm_X10_85 rfl (by omega) (Nat.le_of_ble_eq_true rfl) hm dX10_readAtom_20 ?_
    rw [show g_inx 3 (t_sg (I 2) (I 1 1) s) = t_lt (t_sg (I 2) (I 1 1) s) from by first | (rw [t_lt, if_pos (by omega)]) | (rw [t_lt, if_neg (by omega)]; rfl)]
    refine g_istore_4 hc dX10_readAtom_23 rfl ?_
    refine g_iload_n hc dX10_readAtom_25 rfl ?_
    refine g_bipush hc dX10_readAtom_26 (by decide +kernel) ?_
    refine g_icmp_ne (tgt := 59) hc dX10_readAtom_28 (by decide) (by rw [t_sg]; exact g_sgn32 hI) (by exact ⟨by decide, by decide⟩) (fun c2 => ?_) (fun c2 => ?_)
    · skip
      refine g_iload hc dX10_readAtom_59 rfl ?_
      refine g_if_lt (tgt := 90) hc dX10_readAtom_61 (by decide) (by exact ⟨by omega, by omega⟩) (fun c3 => ?_) (fun c3 => ?_)
      · skip
        refine g_aldn hc dX10_readAtom_90 rfl ?_
        refine g_aldn hc dX10_readAtom_91 rfl ?_
        refine g_getRk hc lk_X10_9 ca_547 (rc_547_0 hR) dX10_readAtom_92 ?_
        refine g_iconst hc dX10_readAtom_95 ?_
        refine g_iconst hc dX10_readAtom_96 ?_
        refine g_sipush hc dX10_readAtom_97 (by decide +kernel) ?_
        have hnm := (t_nm_ok (B := I 2) hos1_ hn).2
        refine g_V3r hc (s_number w hR hI hn ht hos1_) my_X8_number mv_X8_number ca_1 rfl rfl lm_X10_91 rfl (by omega) (Nat.le_of_ble_eq_true rfl) hm dX10_readAtom_100 ?_
        generalize hss2_ : t_nm (I 2) (I 1 1) s1_ = s2_
        have hos2_ : t_ok (I 1 1) s2_ := hss2_ ▸ (t_nm_ok hos1_ hn).1
        refine g_V1v hc (s_put w hR hI hn ht hos2_ (by first | exact hI _ _ | exact hxI2 _ _ | exact hIa _ _ | exact hIb _ _ | exact g_b32 | exact g_and32 | assumption | exact ⟨by omega, by omega⟩)) my_X9_put mv_X9_put (ta_0 ht) rfl rfl lm_X10_56 rfl (by omega) (Nat.le_of_ble_eq_true rfl) hm dX10_readAtom_103 ?_
        generalize hss3_ : t_put (t_nv (I 2) (I 1 1) s1_) s2_ = s3_
        have hos3_ : t_ok (I 1 1) s3_ := hss3_ ▸ t_put_ok hos2_ (by first | exact hI _ _ | exact hxI2 _ _ | exact hIa _ _ | exact hIb _ _ | exact g_b32 | exact g_and32 | assumption | exact ⟨by omega, by omega⟩)
        refine g_vret hc hm dX10_readAtom_106 ?_
        exact ⟨rfl, rfl, by unfold t_atk t_atom; first | (rw [if_pos (by assumption)]; subst_vars; rfl) | (rw [if_neg (by assumption), if_pos (by omega)]; subst_vars; rfl) | (rw [if_neg (by assumption), if_neg (by omega)]; subst_vars; rfl), rfl, rfl⟩
      · skip
        have hsg0 : 0 ≤ t_sg (I 2) (I 1 1) s := by
          by_cases z : t_sg (I 2) (I 1 1) s < 0
          · exfalso; have h9 : t_lt (t_sg (I 2) (I 1 1) s) = -1 := (by rw [t_lt, if_pos z]); omega
          · omega
        refine g_aldn hc dX10_readAtom_64 rfl ?_
        refine g_getRk hc lk_X10_9 ca_547 (rc_547_0 hR) dX10_readAtom_65 ?_
        refine g_dup hc dX10_readAtom_68 rfl ?_
        refine g_getIe hc lk_X10_71 ca_1 2 rfl t_M_a dX10_readAtom_69 ?_
        refine g_iconst hc dX10_readAtom_72 ?_
        refine g_iadd hc dX10_readAtom_73 ?_
        refine g_putIe (I2 := t_M I t (t_adv s1_)) hc lk_X10_71 ca_1 2 rfl t_M_p dX10_readAtom_74 ?_
        generalize hss4_ : t_adv s1_ = s4_
        have hos4_ : t_ok (I 1 1) s4_ := hss4_ ▸ t_adv_ok hos1_ (by subst_vars; exact t_sg_in hos (by omega))
        refine g_aldn hc dX10_readAtom_77 rfl ?_
        refine g_sipush hc dX10_readAtom_78 (by decide +kernel) ?_
        refine g_iload hc dX10_readAtom_81 rfl ?_
        refine g_iadd hc dX10_readAtom_83 ?_
        refine g_V1v hc (s_put w hR hI hn ht hos4_ (by first | exact hI _ _ | exact hxI2 _ _ | exact hIa _ _ | exact hIb _ _ | exact g_b32 | exact g_and32 | assumption | exact ⟨by omega, by omega⟩)) my_X9_put mv_X9_put (ta_0 ht) rfl rfl lm_X10_56 rfl (by omega) (Nat.le_of_ble_eq_true rfl) hm dX10_readAtom_84 ?_
        generalize hss5_ : t_put (10000 + (t_lt (t_sg (I 2) (I 1 1) s))) s4_ = s5_
        have hos5_ : t_ok (I 1 1) s5_ := hss5_ ▸ t_put_ok hos4_ (by first | exact hI _ _ | exact hxI2 _ _ | exact hIa _ _ | exact hIb _ _ | exact g_b32 | exact g_and32 | assumption | exact ⟨by omega, by omega⟩)
        refine g_goto (tgt := 106) hc dX10_readAtom_87 (by decide) ?_
        refine g_vret hc hm dX10_readAtom_106 ?_
        exact ⟨rfl, rfl, by unfold t_atk t_atom; first | (rw [if_pos (by assumption)]; subst_vars; rfl) | (rw [if_neg (by assumption), if_pos (by omega)]; subst_vars; rfl) | (rw [if_neg (by assumption), if_neg (by omega)]; subst_vars; rfl), rfl, rfl⟩
    · skip
      have hlt : s1_.1 < I 1 1 := by subst_vars; exact t_sg_in hos (by omega)
      refine g_aldn hc dX10_readAtom_31 rfl ?_
      refine g_iload_n hc dX10_readAtom_32 rfl ?_
      refine g_V1r hc (s_goes1 w hR hI hn hB ht hos1_ (by omega) (by omega) hlt) my_X10_goesIn mv_X10_goesIn ca_547 rfl rfl lm_X10_65 rfl (by omega) (Nat.le_of_ble_eq_true rfl) hm dX10_readAtom_33 ?_
      generalize hss6_ : t_adv s1_ = s6_
      have hos6_ : t_ok (I 1 1) s6_ := hss6_ ▸ t_adv_ok hos1_ hlt
      refine g_if_eq (tgt := 106) hc dX10_readAtom_36 (by decide) (show g32 _ from ⟨by decide, by decide⟩) (fun c4 => ?_) (fun c4 => ?_)
      · exfalso; omega
      · skip
        refine g_aldn hc dX10_readAtom_39 rfl ?_
        refine g_aldn hc dX10_readAtom_40 rfl ?_
        refine g_iload_n hc dX10_readAtom_41 rfl ?_
        refine g_iconst hc dX10_readAtom_42 ?_
        refine g_iadd hc dX10_readAtom_43 ?_
        refine g_V2v hc (hS hR hI hn hB ht hos6_ (by omega)) my_X10_readSum mv_X10_readSum ca_547 rfl rfl lm_X10_45 rfl (by omega) (Nat.le_of_ble_eq_true rfl) hm dX10_readAtom_44 ?_
        generalize hss7_ : t_suk (I 2) (I 1 1) k s6_ = s7_
        have hos7_ : t_ok (I 1 1) s7_ := hss7_ ▸ t_suk_ok hn hos6_
        refine g_aldn hc dX10_readAtom_47 rfl ?_
        refine g_getRk hc lk_X10_9 ca_547 (rc_547_0 hR) dX10_readAtom_48 ?_
        refine g_bipush hc dX10_readAtom_51 (by decide +kernel) ?_
        refine g_V1v hc (s_want w hR hI hn ht hos7_ (by exact ⟨by decide, by decide⟩) (by decide)) my_X8_want mv_X8_want ca_1 rfl rfl lm_X10_38 rfl (by omega) (Nat.le_of_ble_eq_true rfl) hm dX10_readAtom_53 ?_
        generalize hss8_ : t_wn (I 2) (I 1 1) 93 s7_ = s8_
        have hos8_ : t_ok (I 1 1) s8_ := hss8_ ▸ t_wn_ok hos7_ hn (by decide)
        refine g_goto (tgt := 106) hc dX10_readAtom_56 (by decide) ?_
        refine g_vret hc hm dX10_readAtom_106 ?_
        exact ⟨rfl, rfl, by unfold t_atk t_atom; first | (rw [if_pos (by assumption)]; subst_vars; rfl) | (rw [if_neg (by assumption), if_pos (by omega)]; subst_vars; rfl) | (rw [if_neg (by assumption), if_neg (by omega)]; subst_vars; rfl), rfl, rfl⟩
  · skip
    refine g_iconst hc dX10_readAtom_12 ?_
    refine g_goto (tgt := 23) hc dX10_readAtom_13 (by decide) ?_
    rw [show (-1) = t_lt (t_sg (I 2) (I 1 1) s) from by first | (rw [t_lt, if_pos (by omega)]) | (rw [t_lt, if_neg (by omega)]; rfl)]
    refine g_istore_4 hc dX10_readAtom_23 rfl ?_
    refine g_iload_n hc dX10_readAtom_25 rfl ?_
    refine g_bipush hc dX10_readAtom_26 (by decide +kernel) ?_
    refine g_icmp_ne (tgt := 59) hc dX10_readAtom_28 (by decide) (by rw [t_sg]; exact g_sgn32 hI) (by exact ⟨by decide, by decide⟩) (fun c5 => ?_) (fun c5 => ?_)
    · skip
      refine g_iload hc dX10_readAtom_59 rfl ?_
      refine g_if_lt (tgt := 90) hc dX10_readAtom_61 (by decide) (by exact ⟨by omega, by omega⟩) (fun c6 => ?_) (fun c6 => ?_)
      · skip
        refine g_aldn hc dX10_readAtom_90 rfl ?_
        refine g_aldn hc dX10_readAtom_91 rfl ?_
        refine g_getRk hc lk_X10_9 ca_547 (rc_547_0 hR) dX10_readAtom_92 ?_
        refine g_iconst hc dX10_readAtom_95 ?_
        refine g_iconst hc dX10_readAtom_96 ?_
        refine g_sipush hc dX10_readAtom_97 (by decide +kernel) ?_
        have hnm := (t_nm_ok (B := I 2) hos1_ hn).2
        refine g_V3r hc (s_number w hR hI hn ht hos1_) my_X8_number mv_X8_number ca_1 rfl rfl lm_X10_91 rfl (by omega) (Nat.le_of_ble_eq_true rfl) hm dX10_readAtom_100 ?_
        generalize hss9_ : t_nm (I 2) (I 1 1) s1_ = s9_
        have hos9_ : t_ok (I 1 1) s9_ := hss9_ ▸ (t_nm_ok hos1_ hn).1
        refine g_V1v hc (s_put w hR hI hn ht hos9_ (by first | exact hI _ _ | exact hxI2 _ _ | exact hIa _ _ | exact hIb _ _ | exact g_b32 | exact g_and32 | assumption | exact ⟨by omega, by omega⟩)) my_X9_put mv_X9_put (ta_0 ht) rfl rfl lm_X10_56 rfl (by omega) (Nat.le_of_ble_eq_true rfl) hm dX10_readAtom_103 ?_
        generalize hss10_ : t_put (t_nv (I 2) (I 1 1) s1_) s9_ = s10_
        have hos10_ : t_ok (I 1 1) s10_ := hss10_ ▸ t_put_ok hos9_ (by first | exact hI _ _ | exact hxI2 _ _ | exact hIa _ _ | exact hIb _ _ | exact g_b32 | exact g_and32 | assumption | exact ⟨by omega, by omega⟩)
        refine g_vret hc hm dX10_readAtom_106 ?_
        exact ⟨rfl, rfl, by unfold t_atk t_atom; first | (rw [if_pos (by assumption)]; subst_vars; rfl) | (rw [if_neg (by assumption), if_pos (by omega)]; subst_vars; rfl) | (rw [if_neg (by assumption), if_neg (by omega)]; subst_vars; rfl), rfl, rfl⟩
      · skip
        have hsg0 : 0 ≤ t_sg (I 2) (I 1 1) s := by
          by_cases z : t_sg (I 2) (I 1 1) s < 0
          · exfalso; have h9 : t_lt (t_sg (I 2) (I 1 1) s) = -1 := (by rw [t_lt, if_pos z]); omega
          · omega
        refine g_aldn hc dX10_readAtom_64 rfl ?_
        refine g_getRk hc lk_X10_9 ca_547 (rc_547_0 hR) dX10_readAtom_65 ?_
        refine g_dup hc dX10_readAtom_68 rfl ?_
        refine g_getIe hc lk_X10_71 ca_1 2 rfl t_M_a dX10_readAtom_69 ?_
        refine g_iconst hc dX10_readAtom_72 ?_
        refine g_iadd hc dX10_readAtom_73 ?_
        refine g_putIe (I2 := t_M I t (t_adv s1_)) hc lk_X10_71 ca_1 2 rfl t_M_p dX10_readAtom_74 ?_
        generalize hss11_ : t_adv s1_ = s11_
        have hos11_ : t_ok (I 1 1) s11_ := hss11_ ▸ t_adv_ok hos1_ (by subst_vars; exact t_sg_in hos (by omega))
        refine g_aldn hc dX10_readAtom_77 rfl ?_
        refine g_sipush hc dX10_readAtom_78 (by decide +kernel) ?_
        refine g_iload hc dX10_readAtom_81 rfl ?_
        refine g_iadd hc dX10_readAtom_83 ?_
        refine g_V1v hc (s_put w hR hI hn ht hos11_ (by first | exact hI _ _ | exact hxI2 _ _ | exact hIa _ _ | exact hIb _ _ | exact g_b32 | exact g_and32 | assumption | exact ⟨by omega, by omega⟩)) my_X9_put mv_X9_put (ta_0 ht) rfl rfl lm_X10_56 rfl (by omega) (Nat.le_of_ble_eq_true rfl) hm dX10_readAtom_84 ?_
        generalize hss12_ : t_put (10000 + (t_lt (t_sg (I 2) (I 1 1) s))) s11_ = s12_
        have hos12_ : t_ok (I 1 1) s12_ := hss12_ ▸ t_put_ok hos11_ (by first | exact hI _ _ | exact hxI2 _ _ | exact hIa _ _ | exact hIb _ _ | exact g_b32 | exact g_and32 | assumption | exact ⟨by omega, by omega⟩)
        refine g_goto (tgt := 106) hc dX10_readAtom_87 (by decide) ?_
        refine g_vret hc hm dX10_readAtom_106 ?_
        exact ⟨rfl, rfl, by unfold t_atk t_atom; first | (rw [if_pos (by assumption)]; subst_vars; rfl) | (rw [if_neg (by assumption), if_pos (by omega)]; subst_vars; rfl) | (rw [if_neg (by assumption), if_neg (by omega)]; subst_vars; rfl), rfl, rfl⟩
    · skip
      have hlt : s1_.1 < I 1 1 := by subst_vars; exact t_sg_in hos (by omega)
      refine g_aldn hc dX10_readAtom_31 rfl ?_
      refine g_iload_n hc dX10_readAtom_32 rfl ?_
      refine g_V1r hc (s_goes1 w hR hI hn hB ht hos1_ (by omega) (by omega) hlt) my_X10_goesIn mv_X10_goesIn ca_547 rfl rfl lm_X10_65 rfl (by omega) (Nat.le_of_ble_eq_true rfl) hm dX10_readAtom_33 ?_
      generalize hss13_ : t_adv s1_ = s13_
      have hos13_ : t_ok (I 1 1) s13_ := hss13_ ▸ t_adv_ok hos1_ hlt
      refine g_if_eq (tgt := 106) hc dX10_readAtom_36 (by decide) (show g32 _ from ⟨by decide, by decide⟩) (fun c7 => ?_) (fun c7 => ?_)
      · exfalso; omega
      · skip
        refine g_aldn hc dX10_readAtom_39 rfl ?_
        refine g_aldn hc dX10_readAtom_40 rfl ?_
        refine g_iload_n hc dX10_readAtom_41 rfl ?_
        refine g_iconst hc dX10_readAtom_42 ?_
        refine g_iadd hc dX10_readAtom_43 ?_
        refine g_V2v hc (hS hR hI hn hB ht hos13_ (by omega)) my_X10_readSum mv_X10_readSum ca_547 rfl rfl lm_X10_45 rfl (by omega) (Nat.le_of_ble_eq_true rfl) hm dX10_readAtom_44 ?_
        generalize hss14_ : t_suk (I 2) (I 1 1) k s13_ = s14_
        have hos14_ : t_ok (I 1 1) s14_ := hss14_ ▸ t_suk_ok hn hos13_
        refine g_aldn hc dX10_readAtom_47 rfl ?_
        refine g_getRk hc lk_X10_9 ca_547 (rc_547_0 hR) dX10_readAtom_48 ?_
        refine g_bipush hc dX10_readAtom_51 (by decide +kernel) ?_
        refine g_V1v hc (s_want w hR hI hn ht hos14_ (by exact ⟨by decide, by decide⟩) (by decide)) my_X8_want mv_X8_want ca_1 rfl rfl lm_X10_38 rfl (by omega) (Nat.le_of_ble_eq_true rfl) hm dX10_readAtom_53 ?_
        generalize hss15_ : t_wn (I 2) (I 1 1) 93 s14_ = s15_
        have hos15_ : t_ok (I 1 1) s15_ := hss15_ ▸ t_wn_ok hos14_ hn (by decide)
        refine g_goto (tgt := 106) hc dX10_readAtom_56 (by decide) ?_
        refine g_vret hc hm dX10_readAtom_106 ?_
        exact ⟨rfl, rfl, by unfold t_atk t_atom; first | (rw [if_pos (by assumption)]; subst_vars; rfl) | (rw [if_neg (by assumption), if_pos (by omega)]; subst_vars; rfl) | (rw [if_neg (by assumption), if_neg (by omega)]; subst_vars; rfl), rfl, rfl⟩
set_option maxHeartbeats 4000000 in
set_option maxRecDepth 100000 in
/-- X10_readTerm -/
theorem s_term (w : g_W) {I : g_I} {J : g_J} {R : g_R} {lb tx : Nat} (hR : g_rf w R lb tx) (hI : ∀ k j, g32 (I k j)) (hn : I 1 1 ≤ 240) (hB : ∀ j, 0 ≤ I 2 j ∧ I 2 j ≤ 255) {t : Nat} (ht : g_taste t) {s : g_S} (hos : t_ok (I 1 1) s) {k : Nat} {d : Int} (hd : d = 6 - (k : Int)) (hk : k ≤ 6) (hA : C_atm w k) : g_Met w g_n (t_M I t s) J R yX10_readTerm cX10_readTerm 5 none (7 + 3 * k) 0 0 [(gvr w 547), (gvr w t), (gvI d)] (g_post none g_n (t_M I t (t_tek (I 2) (I 1 1) k s)) J R) := by
  refine g_intro (own := RX10) [some (gvr w 547), some (gvr w t), some (gvI d), none, none] (by decide +kernel) rfl (by decide) (Nat.le_of_ble_eq_true rfl) rfl (fun i v hv => g_args 2 i v hv rfl) (fun x hc hm => ?_)
  refine g_aldn hc dX10_readTerm_0 rfl ?_
  refine g_aldn hc dX10_readTerm_1 rfl ?_
  refine g_iload_n hc dX10_readTerm_2 rfl ?_
  refine g_V2v hc (hA hR hI hn hB ht hos (by omega)) my_X10_readAtom mv_X10_readAtom ca_547 rfl rfl lm_X10_80 rfl (by omega) (Nat.le_of_ble_eq_true rfl) hm dX10_readTerm_3 ?_
  generalize hss1_ : t_atk (I 2) (I 1 1) k s = s1_
  have hos1_ : t_ok (I 1 1) s1_ := hss1_ ▸ t_atk_ok hn k _ hos
  refine g_iconst hc dX10_readTerm_6 ?_
  refine g_istore_3 hc dX10_readTerm_7 rfl ?_
  have lp_8 : ∀ (fu : Nat) (i : Int) (sm : g_S), 0 ≤ i ∧ i ≤ 240 → t_tek (I 2) (I 1 1) k s = t_lp (I 2) (I 1 1) 42 47 (t_atk (I 2) (I 1 1) k) (240 - i).toNat sm → t_ok (I 1 1) sm → 240 - i < (fu : Int) → G w x (g_post none g_n (t_M I t (t_tek (I 2) (I 1 1) k s)) J R) 0 0 g_n (t_M I t sm) J R 8 [some (gvr w 547), some (gvr w t), some (gvI d), some (gvI i), none] [] := by
    intro fu
    induction fu with
    | zero => intro i sm h3 h4 hosm hfu; exfalso; omega
    | succ fu ih =>
      intro i sm h3 h4 hosm hfu
      have ih_8 := ih
      refine g_iload_n hc dX10_readTerm_8 rfl ?_
      refine g_sipush hc dX10_readTerm_9 (by decide +kernel) ?_
      refine g_icmp_ge (tgt := 71) hc dX10_readTerm_12 (by decide) (by first | exact hI _ _ | exact hxI2 _ _ | exact hIa _ _ | exact hIb _ _ | exact g_b32 | exact g_and32 | assumption | exact ⟨by omega, by omega⟩) (by first | exact hI _ _ | exact hxI2 _ _ | exact hIa _ _ | exact hIb _ _ | exact g_b32 | exact g_and32 | assumption | exact ⟨by omega, by omega⟩) (fun c1 => ?_) (fun c1 => ?_)
      · skip
        refine g_vret hc hm dX10_readTerm_71 ?_
        exact ⟨rfl, rfl, by rw [h4, show (240 - i).toNat = 0 by omega, t_lp], rfl, rfl⟩
      · skip
        refine g_aldn hc dX10_readTerm_15 rfl ?_
        refine g_getRk hc lk_X10_9 ca_547 (rc_547_0 hR) dX10_readTerm_16 ?_
        refine g_V0r hc (s_sign w hR hI hn ht hosm) my_X8_sign mv_X8_sign ca_1 rfl rfl lm_X10_42 rfl (by omega) (Nat.le_of_ble_eq_true rfl) hm dX10_readTerm_19 ?_
        generalize hss2_ : t_sk (I 2) (I 1 1) sm = s2_
        have hos2_ : t_ok (I 1 1) s2_ := hss2_ ▸ t_sk_ok hosm
        refine g_istore_4 hc dX10_readTerm_22 rfl ?_
        refine g_iload hc dX10_readTerm_24 rfl ?_
        refine g_bipush hc dX10_readTerm_26 (by decide +kernel) ?_
        refine g_icmp_eq (tgt := 39) hc dX10_readTerm_28 (by decide) (by rw [t_sg]; exact g_sgn32 hI) (by exact ⟨by decide, by decide⟩) (fun c2 => ?_) (fun c2 => ?_)
        · skip
          refine g_aldn hc dX10_readTerm_39 rfl ?_
          refine g_getRk hc lk_X10_9 ca_547 (rc_547_0 hR) dX10_readTerm_40 ?_
          refine g_dup hc dX10_readTerm_43 rfl ?_
          refine g_getIe hc lk_X10_71 ca_1 2 rfl t_M_a dX10_readTerm_44 ?_
          refine g_iconst hc dX10_readTerm_47 ?_
          refine g_iadd hc dX10_readTerm_48 ?_
          refine g_putIe (I2 := t_M I t (t_adv s2_)) hc lk_X10_71 ca_1 2 rfl t_M_p dX10_readTerm_49 ?_
          generalize hss3_ : t_adv s2_ = s3_
          have hos3_ : t_ok (I 1 1) s3_ := hss3_ ▸ t_adv_ok hos2_ (by subst_vars; exact t_sg_in hosm (by omega))
          refine g_aldn hc dX10_readTerm_52 rfl ?_
          refine g_aldn hc dX10_readTerm_53 rfl ?_
          refine g_iload_n hc dX10_readTerm_54 rfl ?_
          refine g_V2v hc (hA hR hI hn hB ht hos3_ (by omega)) my_X10_readAtom mv_X10_readAtom ca_547 rfl rfl lm_X10_80 rfl (by omega) (Nat.le_of_ble_eq_true rfl) hm dX10_readTerm_55 ?_
          generalize hss4_ : t_atk (I 2) (I 1 1) k s3_ = s4_
          have hos4_ : t_ok (I 1 1) s4_ := hss4_ ▸ t_atk_ok hn k _ hos3_
          refine g_aldn hc dX10_readTerm_58 rfl ?_
          refine g_iload hc dX10_readTerm_59 rfl ?_
          refine g_ineg hc dX10_readTerm_61 ?_
          refine g_V1v hc (s_put w hR hI hn ht hos4_ (by first | exact hI _ _ | exact hxI2 _ _ | exact hIa _ _ | exact hIb _ _ | exact g_b32 | exact g_and32 | assumption | exact ⟨by omega, by omega⟩)) my_X9_put mv_X9_put (ta_0 ht) rfl rfl lm_X10_56 rfl (by omega) (Nat.le_of_ble_eq_true rfl) hm dX10_readTerm_62 ?_
          generalize hss5_ : t_put (-(t_sg (I 2) (I 1 1) sm)) s4_ = s5_
          have hos5_ : t_ok (I 1 1) s5_ := hss5_ ▸ t_put_ok hos4_ (by first | exact hI _ _ | exact hxI2 _ _ | exact hIa _ _ | exact hIb _ _ | exact g_b32 | exact g_and32 | assumption | exact ⟨by omega, by omega⟩)
          refine g_iinc_3 hc dX10_readTerm_65 rfl ?_
          refine g_goto (tgt := 8) hc dX10_readTerm_68 (by decide) ?_
          refine G_sub (L' := [some (gvr w 547), some (gvr w t), some (gvI d), some (gvI (i + 1)), none]) (show g_le _ _ from ⟨rfl, ⟨rfl, ⟨rfl, ⟨rfl, trivial⟩⟩⟩⟩) ?_
          refine ih_8 _ _ ?_ ?_ ?_ ?_
          · omega
          · rw [h4, show (240 - i).toNat = (240 - (i + 1)).toNat + 1 by omega, t_lp, if_pos (by omega)]; subst_vars; rfl
          · exact hos5_
          · omega
        · skip
          refine g_iload hc dX10_readTerm_31 rfl ?_
          refine g_bipush hc dX10_readTerm_33 (by decide +kernel) ?_
          refine g_icmp_eq (tgt := 39) hc dX10_readTerm_35 (by decide) (by rw [t_sg]; exact g_sgn32 hI) (by exact ⟨by decide, by decide⟩) (fun c3 => ?_) (fun c3 => ?_)
          · skip
            refine g_aldn hc dX10_readTerm_39 rfl ?_
            refine g_getRk hc lk_X10_9 ca_547 (rc_547_0 hR) dX10_readTerm_40 ?_
            refine g_dup hc dX10_readTerm_43 rfl ?_
            refine g_getIe hc lk_X10_71 ca_1 2 rfl t_M_a dX10_readTerm_44 ?_
            refine g_iconst hc dX10_readTerm_47 ?_
            refine g_iadd hc dX10_readTerm_48 ?_
            refine g_putIe (I2 := t_M I t (t_adv s2_)) hc lk_X10_71 ca_1 2 rfl t_M_p dX10_readTerm_49 ?_
            generalize hss6_ : t_adv s2_ = s6_
            have hos6_ : t_ok (I 1 1) s6_ := hss6_ ▸ t_adv_ok hos2_ (by subst_vars; exact t_sg_in hosm (by omega))
            refine g_aldn hc dX10_readTerm_52 rfl ?_
            refine g_aldn hc dX10_readTerm_53 rfl ?_
            refine g_iload_n hc dX10_readTerm_54 rfl ?_
            refine g_V2v hc (hA hR hI hn hB ht hos6_ (by omega)) my_X10_readAtom mv_X10_readAtom ca_547 rfl rfl lm_X10_80 rfl (by omega) (Nat.le_of_ble_eq_true rfl) hm dX10_readTerm_55 ?_
            generalize hss7_ : t_atk (I 2) (I 1 1) k s6_ = s7_
            have hos7_ : t_ok (I 1 1) s7_ := hss7_ ▸ t_atk_ok hn k _ hos6_
            refine g_aldn hc dX10_readTerm_58 rfl ?_
            refine g_iload hc dX10_readTerm_59 rfl ?_
            refine g_ineg hc dX10_readTerm_61 ?_
            refine g_V1v hc (s_put w hR hI hn ht hos7_ (by first | exact hI _ _ | exact hxI2 _ _ | exact hIa _ _ | exact hIb _ _ | exact g_b32 | exact g_and32 | assumption | exact ⟨by omega, by omega⟩)) my_X9_put mv_X9_put (ta_0 ht) rfl rfl lm_X10_56 rfl (by omega) (Nat.le_of_ble_eq_true rfl) hm dX10_readTerm_62 ?_
            generalize hss8_ : t_put (-(t_sg (I 2) (I 1 1) sm)) s7_ = s8_
            have hos8_ : t_ok (I 1 1) s8_ := hss8_ ▸ t_put_ok hos7_ (by first | exact hI _ _ | exact hxI2 _ _ | exact hIa _ _ | exact hIb _ _ | exact g_b32 | exact g_and32 | assumption | exact ⟨by omega, by omega⟩)
            refine g_iinc_3 hc dX10_readTerm_65 rfl ?_
            refine g_goto (tgt := 8) hc dX10_readTerm_68 (by decide) ?_
            refine G_sub (L' := [some (gvr w 547), some (gvr w t), some (gvI d), some (gvI (i + 1)), none]) (show g_le _ _ from ⟨rfl, ⟨rfl, ⟨rfl, ⟨rfl, trivial⟩⟩⟩⟩) ?_
            refine ih_8 _ _ ?_ ?_ ?_ ?_
            · omega
            · rw [h4, show (240 - i).toNat = (240 - (i + 1)).toNat + 1 by omega, t_lp, if_pos (by omega)]; subst_vars; rfl
            · exact hos8_
            · omega
          · skip
            refine g_vret hc hm dX10_readTerm_38 ?_
            exact ⟨rfl, rfl, by rw [h4, show (240 - i).toNat = (240 - (i + 1)).toNat + 1 by omega, t_lp, if_neg (by omega)]; subst_vars; rfl, rfl, rfl⟩
  refine lp_8 241 _ _ ?_ ?_ ?_ (?_)
  · omega
  · subst_vars; rw [Int.sub_zero]; rfl
  · exact hos1_
  · omega
set_option maxHeartbeats 4000000 in
set_option maxRecDepth 100000 in
/-- X10_readSum -/
theorem s_sum (w : g_W) {I : g_I} {J : g_J} {R : g_R} {lb tx : Nat} (hR : g_rf w R lb tx) (hI : ∀ k j, g32 (I k j)) (hn : I 1 1 ≤ 240) (hB : ∀ j, 0 ≤ I 2 j ∧ I 2 j ≤ 255) {t : Nat} (ht : g_taste t) {s : g_S} (hos : t_ok (I 1 1) s) {k : Nat} {d : Int} (hd : d = 6 - (k : Int)) (hk : k ≤ 6) (hT : C_ter w k) : g_Met w g_n (t_M I t s) J R yX10_readSum cX10_readSum 5 none (8 + 3 * k) 0 0 [(gvr w 547), (gvr w t), (gvI d)] (g_post none g_n (t_M I t (t_suk (I 2) (I 1 1) k s)) J R) := by
  refine g_intro (own := RX10) [some (gvr w 547), some (gvr w t), some (gvI d), none, none] (by decide +kernel) rfl (by decide) (Nat.le_of_ble_eq_true rfl) rfl (fun i v hv => g_args 2 i v hv rfl) (fun x hc hm => ?_)
  refine g_aldn hc dX10_readSum_0 rfl ?_
  refine g_aldn hc dX10_readSum_1 rfl ?_
  refine g_iload_n hc dX10_readSum_2 rfl ?_
  refine g_V2v hc (hT hR hI hn hB ht hos (by omega)) my_X10_readTerm mv_X10_readTerm ca_547 rfl rfl lm_X10_77 rfl (by omega) (Nat.le_of_ble_eq_true rfl) hm dX10_readSum_3 ?_
  generalize hss1_ : t_tek (I 2) (I 1 1) k s = s1_
  have hos1_ : t_ok (I 1 1) s1_ := hss1_ ▸ t_tek_ok hn hos
  refine g_iconst hc dX10_readSum_6 ?_
  refine g_istore_3 hc dX10_readSum_7 rfl ?_
  have lp_8 : ∀ (fu : Nat) (i : Int) (sm : g_S), 0 ≤ i ∧ i ≤ 240 → t_suk (I 2) (I 1 1) k s = t_lp (I 2) (I 1 1) 43 45 (t_tek (I 2) (I 1 1) k) (240 - i).toNat sm → t_ok (I 1 1) sm → 240 - i < (fu : Int) → G w x (g_post none g_n (t_M I t (t_suk (I 2) (I 1 1) k s)) J R) 0 0 g_n (t_M I t sm) J R 8 [some (gvr w 547), some (gvr w t), some (gvI d), some (gvI i), none] [] := by
    intro fu
    induction fu with
    | zero => intro i sm h3 h4 hosm hfu; exfalso; omega
    | succ fu ih =>
      intro i sm h3 h4 hosm hfu
      have ih_8 := ih
      refine g_iload_n hc dX10_readSum_8 rfl ?_
      refine g_sipush hc dX10_readSum_9 (by decide +kernel) ?_
      refine g_icmp_ge (tgt := 71) hc dX10_readSum_12 (by decide) (by first | exact hI _ _ | exact hxI2 _ _ | exact hIa _ _ | exact hIb _ _ | exact g_b32 | exact g_and32 | assumption | exact ⟨by omega, by omega⟩) (by first | exact hI _ _ | exact hxI2 _ _ | exact hIa _ _ | exact hIb _ _ | exact g_b32 | exact g_and32 | assumption | exact ⟨by omega, by omega⟩) (fun c1 => ?_) (fun c1 => ?_)
      · skip
        refine g_vret hc hm dX10_readSum_71 ?_
        exact ⟨rfl, rfl, by rw [h4, show (240 - i).toNat = 0 by omega, t_lp], rfl, rfl⟩
      · skip
        refine g_aldn hc dX10_readSum_15 rfl ?_
        refine g_getRk hc lk_X10_9 ca_547 (rc_547_0 hR) dX10_readSum_16 ?_
        refine g_V0r hc (s_sign w hR hI hn ht hosm) my_X8_sign mv_X8_sign ca_1 rfl rfl lm_X10_42 rfl (by omega) (Nat.le_of_ble_eq_true rfl) hm dX10_readSum_19 ?_
        generalize hss2_ : t_sk (I 2) (I 1 1) sm = s2_
        have hos2_ : t_ok (I 1 1) s2_ := hss2_ ▸ t_sk_ok hosm
        refine g_istore_4 hc dX10_readSum_22 rfl ?_
        refine g_iload hc dX10_readSum_24 rfl ?_
        refine g_bipush hc dX10_readSum_26 (by decide +kernel) ?_
        refine g_icmp_eq (tgt := 39) hc dX10_readSum_28 (by decide) (by rw [t_sg]; exact g_sgn32 hI) (by exact ⟨by decide, by decide⟩) (fun c2 => ?_) (fun c2 => ?_)
        · skip
          refine g_aldn hc dX10_readSum_39 rfl ?_
          refine g_getRk hc lk_X10_9 ca_547 (rc_547_0 hR) dX10_readSum_40 ?_
          refine g_dup hc dX10_readSum_43 rfl ?_
          refine g_getIe hc lk_X10_71 ca_1 2 rfl t_M_a dX10_readSum_44 ?_
          refine g_iconst hc dX10_readSum_47 ?_
          refine g_iadd hc dX10_readSum_48 ?_
          refine g_putIe (I2 := t_M I t (t_adv s2_)) hc lk_X10_71 ca_1 2 rfl t_M_p dX10_readSum_49 ?_
          generalize hss3_ : t_adv s2_ = s3_
          have hos3_ : t_ok (I 1 1) s3_ := hss3_ ▸ t_adv_ok hos2_ (by subst_vars; exact t_sg_in hosm (by omega))
          refine g_aldn hc dX10_readSum_52 rfl ?_
          refine g_aldn hc dX10_readSum_53 rfl ?_
          refine g_iload_n hc dX10_readSum_54 rfl ?_
          refine g_V2v hc (hT hR hI hn hB ht hos3_ (by omega)) my_X10_readTerm mv_X10_readTerm ca_547 rfl rfl lm_X10_77 rfl (by omega) (Nat.le_of_ble_eq_true rfl) hm dX10_readSum_55 ?_
          generalize hss4_ : t_tek (I 2) (I 1 1) k s3_ = s4_
          have hos4_ : t_ok (I 1 1) s4_ := hss4_ ▸ t_tek_ok hn hos3_
          refine g_aldn hc dX10_readSum_58 rfl ?_
          refine g_iload hc dX10_readSum_59 rfl ?_
          refine g_ineg hc dX10_readSum_61 ?_
          refine g_V1v hc (s_put w hR hI hn ht hos4_ (by first | exact hI _ _ | exact hxI2 _ _ | exact hIa _ _ | exact hIb _ _ | exact g_b32 | exact g_and32 | assumption | exact ⟨by omega, by omega⟩)) my_X9_put mv_X9_put (ta_0 ht) rfl rfl lm_X10_56 rfl (by omega) (Nat.le_of_ble_eq_true rfl) hm dX10_readSum_62 ?_
          generalize hss5_ : t_put (-(t_sg (I 2) (I 1 1) sm)) s4_ = s5_
          have hos5_ : t_ok (I 1 1) s5_ := hss5_ ▸ t_put_ok hos4_ (by first | exact hI _ _ | exact hxI2 _ _ | exact hIa _ _ | exact hIb _ _ | exact g_b32 | exact g_and32 | assumption | exact ⟨by omega, by omega⟩)
          refine g_iinc_3 hc dX10_readSum_65 rfl ?_
          refine g_goto (tgt := 8) hc dX10_readSum_68 (by decide) ?_
          refine G_sub (L' := [some (gvr w 547), some (gvr w t), some (gvI d), some (gvI (i + 1)), none]) (show g_le _ _ from ⟨rfl, ⟨rfl, ⟨rfl, ⟨rfl, trivial⟩⟩⟩⟩) ?_
          refine ih_8 _ _ ?_ ?_ ?_ ?_
          · omega
          · rw [h4, show (240 - i).toNat = (240 - (i + 1)).toNat + 1 by omega, t_lp, if_pos (by omega)]; subst_vars; rfl
          · exact hos5_
          · omega
        · skip
          refine g_iload hc dX10_readSum_31 rfl ?_
          refine g_bipush hc dX10_readSum_33 (by decide +kernel) ?_
          refine g_icmp_eq (tgt := 39) hc dX10_readSum_35 (by decide) (by rw [t_sg]; exact g_sgn32 hI) (by exact ⟨by decide, by decide⟩) (fun c3 => ?_) (fun c3 => ?_)
          · skip
            refine g_aldn hc dX10_readSum_39 rfl ?_
            refine g_getRk hc lk_X10_9 ca_547 (rc_547_0 hR) dX10_readSum_40 ?_
            refine g_dup hc dX10_readSum_43 rfl ?_
            refine g_getIe hc lk_X10_71 ca_1 2 rfl t_M_a dX10_readSum_44 ?_
            refine g_iconst hc dX10_readSum_47 ?_
            refine g_iadd hc dX10_readSum_48 ?_
            refine g_putIe (I2 := t_M I t (t_adv s2_)) hc lk_X10_71 ca_1 2 rfl t_M_p dX10_readSum_49 ?_
            generalize hss6_ : t_adv s2_ = s6_
            have hos6_ : t_ok (I 1 1) s6_ := hss6_ ▸ t_adv_ok hos2_ (by subst_vars; exact t_sg_in hosm (by omega))
            refine g_aldn hc dX10_readSum_52 rfl ?_
            refine g_aldn hc dX10_readSum_53 rfl ?_
            refine g_iload_n hc dX10_readSum_54 rfl ?_
            refine g_V2v hc (hT hR hI hn hB ht hos6_ (by omega)) my_X10_readTerm mv_X10_readTerm ca_547 rfl rfl lm_X10_77 rfl (by omega) (Nat.le_of_ble_eq_true rfl) hm dX10_readSum_55 ?_
            generalize hss7_ : t_tek (I 2) (I 1 1) k s6_ = s7_
            have hos7_ : t_ok (I 1 1) s7_ := hss7_ ▸ t_tek_ok hn hos6_
            refine g_aldn hc dX10_readSum_58 rfl ?_
            refine g_iload hc dX10_readSum_59 rfl ?_
            refine g_ineg hc dX10_readSum_61 ?_
            refine g_V1v hc (s_put w hR hI hn ht hos7_ (by first | exact hI _ _ | exact hxI2 _ _ | exact hIa _ _ | exact hIb _ _ | exact g_b32 | exact g_and32 | assumption | exact ⟨by omega, by omega⟩)) my_X9_put mv_X9_put (ta_0 ht) rfl rfl lm_X10_56 rfl (by omega) (Nat.le_of_ble_eq_true rfl) hm dX10_readSum_62 ?_
            generalize hss8_ : t_put (-(t_sg (I 2) (I 1 1) sm)) s7_ = s8_
            have hos8_ : t_ok (I 1 1) s8_ := hss8_ ▸ t_put_ok hos7_ (by first | exact hI _ _ | exact hxI2 _ _ | exact hIa _ _ | exact hIb _ _ | exact g_b32 | exact g_and32 | assumption | exact ⟨by omega, by omega⟩)
            refine g_iinc_3 hc dX10_readSum_65 rfl ?_
            refine g_goto (tgt := 8) hc dX10_readSum_68 (by decide) ?_
            refine G_sub (L' := [some (gvr w 547), some (gvr w t), some (gvI d), some (gvI (i + 1)), none]) (show g_le _ _ from ⟨rfl, ⟨rfl, ⟨rfl, ⟨rfl, trivial⟩⟩⟩⟩) ?_
            refine ih_8 _ _ ?_ ?_ ?_ ?_
            · omega
            · rw [h4, show (240 - i).toNat = (240 - (i + 1)).toNat + 1 by omega, t_lp, if_pos (by omega)]; subst_vars; rfl
            · exact hos8_
            · omega
          · skip
            refine g_vret hc hm dX10_readSum_38 ?_
            exact ⟨rfl, rfl, by rw [h4, show (240 - i).toNat = (240 - (i + 1)).toNat + 1 by omega, t_lp, if_neg (by omega)]; subst_vars; rfl, rfl, rfl⟩
  refine lp_8 241 _ _ ?_ ?_ ?_ (?_)
  · omega
  · subst_vars; rw [Int.sub_zero]; rfl
  · exact hos1_
  · omega
theorem k_ter {w : g_W} {k : Nat} (hk : k ≤ 6) (h : C_atm w k) : C_ter w k := by
  intro I J R lb tx hR hI hn hB t ht s hos d hd
  exact s_term w hR hI hn hB ht hos hd hk h
theorem k_sum {w : g_W} {k : Nat} (hk : k ≤ 6) (h : C_ter w k) : C_sum w k := by
  intro I J R lb tx hR hI hn hB t ht s hos d hd
  exact s_sum w hR hI hn hB ht hos hd hk h
theorem k_atm0 (w : g_W) : C_atm w 0 := by
  intro I J R lb tx hR hI hn hB t ht s hos d hd
  exact s_atm0 w hR hI hn hB ht hos (by omega)
theorem k_atmS {w : g_W} {k : Nat} (hk : k < 6) (h : C_sum w k) : C_atm w (k + 1) := by
  intro I J R lb tx hR hI hn hB t ht s hos d hd
  exact s_atmS w hR hI hn hB ht hos hd hk h
theorem k_atm (w : g_W) (k : Nat) (hk : k ≤ 6) : C_atm w k := by
  induction k with
  | zero => exact k_atm0 w
  | succ k ih => exact k_atmS (by omega) (k_sum (by omega) (k_ter (by omega) (ih (by omega))))
theorem k_suk (w : g_W) {k : Nat} (hk : k ≤ 6) : C_sum w k := k_sum hk (k_ter hk (k_atm w k hk))
