section TSP
set_option maxHeartbeats 4000000 in
theorem c_X9_put (w : g_W) {I : g_I} {J : g_J} {R : g_R} {lb tx : Nat} (hR : g_rf w R lb tx) (hI : ∀ k j, g32 (I k j)) {t : Nat} (ht : g_taste t) {z : Int} (hl : 0 ≤ I t 2 ∧ I t 2 ≤ 256) : g_Met w g_n I J R yX9_put cX9_put 2 none 0 0 0 [gvr w t, gvI z] (g_post none g_n (if I t 2 < 256 then g_up (g_up I (t + 1) (I t 2) z) t 2 (I t 2 + 1) else I) J R) := by
  refine g_intro (own := RX9) [some (gvr w t), some (gvI z)] (by decide +kernel) rfl (by decide) (Nat.le_of_ble_eq_true rfl) rfl (fun i v hv => g_args 0 i v hv rfl) (fun x hc hm => ?_)
  have ht5 := ht
  unfold g_taste at ht5
  refine g_aldn hc dX9_put_0 rfl ?_
  refine g_getI' hc lk_X9_16 (ta_0 ht) 2 rfl dX9_put_1 ?_
  refine g_sipush hc dX9_put_4 (by decide +kernel) ?_
  refine g_icmp_ge (tgt := 30) hc dX9_put_7 (by decide) (by first | exact hI _ _ | exact hxI2 _ _ | exact hIa _ _ | exact hIb _ _ | exact g_b32 | exact g_and32 | assumption | exact ⟨by omega, by omega⟩) (by first | exact hI _ _ | exact hxI2 _ _ | exact hIa _ _ | exact hIb _ _ | exact g_b32 | exact g_and32 | assumption | exact ⟨by omega, by omega⟩) (fun c1 => ?_) (fun c1 => ?_)
  · skip
    refine g_vret hc hm dX9_put_30 ?_
    first | (exfalso; omega) | exact ⟨rfl, rfl, by rw [if_pos (by assumption), hI4, hI3, g_up_k (by omega)], rfl, rfl⟩ | exact ⟨rfl, rfl, by rw [if_neg (by omega)], rfl, rfl⟩
  · skip
    refine g_aldn hc dX9_put_10 rfl ?_
    refine g_getRk hc lk_X9_9 (ta_0 ht) (rt_0 hR ht) dX9_put_11 ?_
    refine g_aldn hc dX9_put_14 rfl ?_
    refine g_getI' hc lk_X9_16 (ta_0 ht) 2 rfl dX9_put_15 ?_
    refine g_iload_n hc dX9_put_18 rfl ?_
    refine g_iast' hc (ta_1 ht) (by decide) (by omega) (by omega)  dX9_put_19 (fun I3 hI3 => ?_)
    have e1 : I3 t 2 = I t 2 := by rw [hI3, g_up_k (by omega)]
    refine g_aldn hc dX9_put_20 rfl ?_
    refine g_dup hc dX9_put_21 rfl ?_
    refine g_getI' hc lk_X9_16 (ta_0 ht) 2 rfl dX9_put_22 ?_
    refine g_iconst hc dX9_put_25 ?_
    refine g_iadd hc dX9_put_26 ?_
    refine g_putI' hc lk_X9_16 (ta_0 ht) 2 rfl dX9_put_27 (fun I4 hI4 => ?_)
    refine g_vret hc hm dX9_put_30 ?_
    first | (exfalso; omega) | exact ⟨rfl, rfl, by rw [if_pos (by assumption), hI4, hI3, g_up_k (by omega)], rfl, rfl⟩ | exact ⟨rfl, rfl, by rw [if_neg (by omega)], rfl, rfl⟩
theorem s_put (w : g_W) {I : g_I} {J : g_J} {R : g_R} {lb tx : Nat} {t : Nat} {s : g_S} (hR : g_rf w R lb tx) (hI : ∀ k j, g32 (I k j)) (hn : I 1 1 ≤ 240) (ht : g_taste t) (ho : t_ok (I 1 1) s) {z : Int} (hz : g32 z) : g_Met w g_n (t_M I t s) J R yX9_put cX9_put 2 none 0 0 0 [gvr w t, gvI z] (g_post none g_n (t_M I t (t_put z s)) J R) := by
  have hne := t_ne ht
  have e2 : t_M I t s t 2 = (s.2.2.length : Int) := by
    unfold t_M
    rw [g_ts_k (Ne.symm hne.2.2.1), g_rw_l]
  have hl := ho.2.2.1
  have h := c_X9_put w (I := t_M I t s) (J := J) hR (t_M32 hI hn ho) ht (z := z) (by rw [e2]; omega)
  rw [e2] at h
  have e3 : (if (s.2.2.length : Int) < 256 then g_up (g_up (t_M I t s) (t + 1) s.2.2.length z) t 2 ((s.2.2.length : Int) + 1) else t_M I t s) = t_M I t (t_put z s) := by
    unfold t_put t_M
    dsimp only
    by_cases hc : s.2.2.length < 256
    · rw [if_pos (by omega), if_pos hc, g_ts_p (Ne.symm hne.2.2.2), g_ts_p (Ne.symm hne.2.2.1), g_rw_put]
    · rw [if_neg (by omega), if_neg hc]
  rw [e3] at h
  exact h
end TSP
set_option maxHeartbeats 4000000 in
set_option maxRecDepth 100000 in
/-- X10_compares -/
theorem c_X10_compares (w : g_W) {I : g_I} {J : g_J} {R : g_R} {c : Int} (h1 : g32 c) : g_Met w g_n I J R yX10_compares cX10_compares 1 (some .boolean) 0 0 0 [(gvI c)] (g_post (some (gvI (g_b (t_cp c)))) g_n I J R) := by
  refine g_intro (own := RX10) [some (gvI c)] (by decide +kernel) rfl (by decide) (Nat.le_of_ble_eq_true rfl) rfl (fun i v hv => g_args 0 i v hv rfl) (fun x hc hm => ?_)
  refine g_iload_n hc dX10_compares_0 rfl ?_
  refine g_bipush hc dX10_compares_1 (by decide +kernel) ?_
  refine g_icmp_eq (tgt := 18) hc dX10_compares_3 (by decide) (by first | exact hI _ _ | exact hxI2 _ _ | exact hIa _ _ | exact hIb _ _ | exact g_b32 | exact g_and32 | assumption | exact ⟨by omega, by omega⟩) (by first | exact hI _ _ | exact hxI2 _ _ | exact hIa _ _ | exact hIb _ _ | exact g_b32 | exact g_and32 | assumption | exact ⟨by omega, by omega⟩) (fun c1 => ?_) (fun c1 => ?_)
  · skip
    refine g_iconst hc dX10_compares_18 ?_
    refine g_goto (tgt := 23) hc dX10_compares_19 (by decide) ?_
    refine g_zret hc hm (by first | exact g_b01 | omega) dX10_compares_23 ?_
    first | (exfalso; omega) | exact g_postE (g_b1 (by unfold t_cp; omega)) | exact g_postE (g_b0 (by unfold t_cp; omega))
  · skip
    refine g_iload_n hc dX10_compares_6 rfl ?_
    refine g_bipush hc dX10_compares_7 (by decide +kernel) ?_
    refine g_icmp_eq (tgt := 18) hc dX10_compares_9 (by decide) (by first | exact hI _ _ | exact hxI2 _ _ | exact hIa _ _ | exact hIb _ _ | exact g_b32 | exact g_and32 | assumption | exact ⟨by omega, by omega⟩) (by first | exact hI _ _ | exact hxI2 _ _ | exact hIa _ _ | exact hIb _ _ | exact g_b32 | exact g_and32 | assumption | exact ⟨by omega, by omega⟩) (fun c2 => ?_) (fun c2 => ?_)
    · skip
      refine g_iconst hc dX10_compares_18 ?_
      refine g_goto (tgt := 23) hc dX10_compares_19 (by decide) ?_
      refine g_zret hc hm (by first | exact g_b01 | omega) dX10_compares_23 ?_
      first | (exfalso; omega) | exact g_postE (g_b1 (by unfold t_cp; omega)) | exact g_postE (g_b0 (by unfold t_cp; omega))
    · skip
      refine g_iload_n hc dX10_compares_12 rfl ?_
      refine g_bipush hc dX10_compares_13 (by decide +kernel) ?_
      refine g_icmp_ne (tgt := 22) hc dX10_compares_15 (by decide) (by first | exact hI _ _ | exact hxI2 _ _ | exact hIa _ _ | exact hIb _ _ | exact g_b32 | exact g_and32 | assumption | exact ⟨by omega, by omega⟩) (by first | exact hI _ _ | exact hxI2 _ _ | exact hIa _ _ | exact hIb _ _ | exact g_b32 | exact g_and32 | assumption | exact ⟨by omega, by omega⟩) (fun c3 => ?_) (fun c3 => ?_)
      · skip
        refine g_iconst hc dX10_compares_22 ?_
        refine g_zret hc hm (by first | exact g_b01 | omega) dX10_compares_23 ?_
        first | (exfalso; omega) | exact g_postE (g_b1 (by unfold t_cp; omega)) | exact g_postE (g_b0 (by unfold t_cp; omega))
      · skip
        refine g_iconst hc dX10_compares_18 ?_
        refine g_goto (tgt := 23) hc dX10_compares_19 (by decide) ?_
        refine g_zret hc hm (by first | exact g_b01 | omega) dX10_compares_23 ?_
        first | (exfalso; omega) | exact g_postE (g_b1 (by unfold t_cp; omega)) | exact g_postE (g_b0 (by unfold t_cp; omega))
set_option maxHeartbeats 4000000 in
set_option maxRecDepth 100000 in
/-- X10_goesIn -/
theorem s_goes1 (w : g_W) {I : g_I} {J : g_J} {R : g_R} {lb tx : Nat} (hR : g_rf w R lb tx) (hI : ∀ k j, g32 (I k j)) (hn : I 1 1 ≤ 240) {t : Nat} (ht : g_taste t) {s : g_S} (hos : t_ok (I 1 1) s) {d : Int} (h1 : d < 6) (h0 : 0 ≤ d) (hlt : s.1 < I 1 1) : g_Met w g_n (t_M I t s) J R yX10_goesIn cX10_goesIn 2 (some .boolean) 2 0 0 [(gvr w 547), (gvI d)] (g_post (some (gvI 1)) g_n (t_M I t (t_adv s)) J R) := by
  refine g_intro (own := RX10) [some (gvr w 547), some (gvI d)] (by decide +kernel) rfl (by decide) (Nat.le_of_ble_eq_true rfl) rfl (fun i v hv => g_args 0 i v hv rfl) (fun x hc hm => ?_)
  refine g_iload_n hc dX10_goesIn_0 rfl ?_
  refine g_bipush hc dX10_goesIn_1 (by decide +kernel) ?_
  refine g_icmp_lt (tgt := 15) hc dX10_goesIn_3 (by decide) (by first | exact hI _ _ | exact hxI2 _ _ | exact hIa _ _ | exact hIb _ _ | exact g_b32 | exact g_and32 | assumption | exact ⟨by omega, by omega⟩) (by first | exact hI _ _ | exact hxI2 _ _ | exact hIa _ _ | exact hIb _ _ | exact g_b32 | exact g_and32 | assumption | exact ⟨by omega, by omega⟩) (fun c1 => ?_) (fun c1 => ?_)
  · skip
    refine g_aldn hc dX10_goesIn_15 rfl ?_
    refine g_getRk hc lk_X10_9 ca_547 (rc_547_0 hR) dX10_goesIn_16 ?_
    refine g_dup hc dX10_goesIn_19 rfl ?_
    refine g_getIe hc lk_X10_74 ca_1 2 rfl t_M_a dX10_goesIn_20 ?_
    refine g_iconst hc dX10_goesIn_23 ?_
    refine g_iadd hc dX10_goesIn_24 ?_
    refine g_putIe (I2 := t_M I t (t_adv s)) hc lk_X10_74 ca_1 2 rfl t_M_p dX10_goesIn_25 ?_
    generalize hss1_ : t_adv s = s1_
    have hos1_ : t_ok (I 1 1) s1_ := hss1_ ▸ t_adv_ok hos hlt
    refine g_iconst hc dX10_goesIn_28 ?_
    refine g_zret hc hm (by first | exact g_b01 | omega) dX10_goesIn_29 ?_
    exact ⟨rfl, rfl, by rw [← hss1_], rfl, rfl⟩
  · exfalso; omega
set_option maxHeartbeats 4000000 in
set_option maxRecDepth 100000 in
/-- X10_goesIn -/
theorem s_goes0 (w : g_W) {I : g_I} {J : g_J} {R : g_R} {lb tx : Nat} (hR : g_rf w R lb tx) (hI : ∀ k j, g32 (I k j)) (hn : I 1 1 ≤ 240) {t : Nat} (ht : g_taste t) {s : g_S} (hos : t_ok (I 1 1) s) {d : Int} (h1 : d = 6) : g_Met w g_n (t_M I t s) J R yX10_goesIn cX10_goesIn 2 (some .boolean) 2 0 0 [(gvr w 547), (gvI d)] (g_post (some (gvI 0)) g_n (t_M I t (t_fl (I 2) (I 1 1) s)) J R) := by
  refine g_intro (own := RX10) [some (gvr w 547), some (gvI d)] (by decide +kernel) rfl (by decide) (Nat.le_of_ble_eq_true rfl) rfl (fun i v hv => g_args 0 i v hv rfl) (fun x hc hm => ?_)
  refine g_iload_n hc dX10_goesIn_0 rfl ?_
  refine g_bipush hc dX10_goesIn_1 (by decide +kernel) ?_
  refine g_icmp_lt (tgt := 15) hc dX10_goesIn_3 (by decide) (by first | exact hI _ _ | exact hxI2 _ _ | exact hIa _ _ | exact hIb _ _ | exact g_b32 | exact g_and32 | assumption | exact ⟨by omega, by omega⟩) (by first | exact hI _ _ | exact hxI2 _ _ | exact hIa _ _ | exact hIb _ _ | exact g_b32 | exact g_and32 | assumption | exact ⟨by omega, by omega⟩) (fun c1 => ?_) (fun c1 => ?_)
  · exfalso; omega
  · skip
    refine g_aldn hc dX10_goesIn_6 rfl ?_
    refine g_getRk hc lk_X10_9 ca_547 (rc_547_0 hR) dX10_goesIn_7 ?_
    refine g_V0v hc (s_fail w hR hI hn ht hos) my_X8_fail mv_X8_fail ca_1 rfl rfl lm_X10_71 rfl (by decide) (Nat.le_of_ble_eq_true rfl) hm dX10_goesIn_10 ?_
    generalize hss1_ : t_fl (I 2) (I 1 1) s = s1_
    have hos1_ : t_ok (I 1 1) s1_ := hss1_ ▸ t_fl_ok hos hn
    refine g_iconst hc dX10_goesIn_13 ?_
    refine g_zret hc hm (by first | exact g_b01 | omega) dX10_goesIn_14 ?_
    exact ⟨rfl, rfl, by rw [← hss1_], rfl, rfl⟩
