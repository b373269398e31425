theorem t_cmp0 {B : Int → Int} {n : Int} {sum : g_S → g_S} {s : g_S} : t_cmp B n sum 0 s = if t_cp (t_sg B n (sum s)) then t_put (-(t_sg B n (sum s))) (sum (t_adv (t_sk B n (sum s)))) else t_fl B n (t_sk B n (sum s)) := rfl
theorem t_cmp1 {B : Int → Int} {n e : Int} {sum : g_S → g_S} {s : g_S} (h : ¬ e = 0) : t_cmp B n sum e s = if t_cp (t_sg B n s) then t_put (-(t_sg B n s)) (sum (t_adv (t_sk B n s))) else t_fl B n (t_sk B n s) := by
  unfold t_cmp
  rw [if_neg h]
set_option maxHeartbeats 4000000 in
set_option maxRecDepth 100000 in
/-- X10_readComparison -/
theorem s_cmp (w : g_W) {I : g_I} {J : g_J} {R : g_R} {lb tx : Nat} (hR : g_rf w R lb tx) (hI : ∀ k j, g32 (I k j)) (hn : I 1 1 ≤ 240) (hB : ∀ j, 0 ≤ I 2 j ∧ I 2 j ≤ 255) {t : Nat} (ht : g_taste t) {s : g_S} (hos : t_ok (I 1 1) s) {k : Nat} {d : Int} (hd : d = 6 - (k : Int)) (hk : k ≤ 6) {e : Int} (he : e = 0 ∨ e = 1) (hS : C_sum w k) : g_Met w g_n (t_M I t s) J R yX10_readComparison cX10_readComparison 5 none (9 + 3 * k) 0 0 [(gvr w 547), (gvr w t), (gvI d), (gvI e)] (g_post none g_n (t_M I t (t_cmp (I 2) (I 1 1) (t_suk (I 2) (I 1 1) k) e s)) J R) := by
  refine g_intro (own := RX10) [some (gvr w 547), some (gvr w t), some (gvI d), some (gvI e), none] (by decide +kernel) rfl (by decide) (Nat.le_of_ble_eq_true rfl) rfl (fun i v hv => g_args 1 i v hv rfl) (fun x hc hm => ?_)
  refine g_iload_n hc dX10_readComparison_0 rfl ?_
  refine g_if_ne (tgt := 10) hc dX10_readComparison_1 (by decide) (by first | exact hI _ _ | exact hxI2 _ _ | exact hIa _ _ | exact hIb _ _ | exact g_b32 | exact g_and32 | assumption | exact ⟨by omega, by omega⟩) (fun c1 => ?_) (fun c1 => ?_)
  · skip
    refine g_aldn hc dX10_readComparison_10 rfl ?_
    refine g_getRk hc lk_X10_9 ca_547 (rc_547_0 hR) dX10_readComparison_11 ?_
    have hsb := t_sg_b (B := I 2) (n := I 1 1) (s := s) hB
    refine g_V0r hc (s_sign w hR hI hn ht hos) my_X8_sign mv_X8_sign ca_1 rfl rfl lm_X10_42 rfl (by omega) (Nat.le_of_ble_eq_true rfl) hm dX10_readComparison_14 ?_
    generalize hss1_ : t_sk (I 2) (I 1 1) s = s1_
    have hos1_ : t_ok (I 1 1) s1_ := hss1_ ▸ t_sk_ok hos
    refine g_istore_4 hc dX10_readComparison_17 rfl ?_
    refine g_iload hc dX10_readComparison_19 rfl ?_
    refine g_S1r hc (c_X10_compares w (by first | exact hI _ _ | exact hxI2 _ _ | exact hIa _ _ | exact hIb _ _ | exact g_b32 | exact g_and32 | assumption | exact ⟨by omega, by omega⟩)) my_X10_compares ms_X10_compares lm_X10_49 rfl (by omega) (Nat.le_of_ble_eq_true rfl) hm dX10_readComparison_21 ?_
    refine g_ifb_ne (tgt := 42) hc dX10_readComparison_24 (by decide)  (fun c2 => ?_) (fun c2 => ?_)
    · skip
      refine g_aldn hc dX10_readComparison_42 rfl ?_
      refine g_getRk hc lk_X10_9 ca_547 (rc_547_0 hR) dX10_readComparison_43 ?_
      refine g_dup hc dX10_readComparison_46 rfl ?_
      refine g_getIe hc lk_X10_71 ca_1 2 rfl t_M_a dX10_readComparison_47 ?_
      refine g_iconst hc dX10_readComparison_50 ?_
      refine g_iadd hc dX10_readComparison_51 ?_
      refine g_putIe (I2 := t_M I t (t_adv s1_)) hc lk_X10_71 ca_1 2 rfl t_M_p dX10_readComparison_52 ?_
      generalize hss2_ : t_adv s1_ = s2_
      have hos2_ : t_ok (I 1 1) s2_ := hss2_ ▸ t_adv_ok hos1_ (by subst_vars; exact t_sg_in (by assumption) (by omega))
      refine g_aldn hc dX10_readComparison_55 rfl ?_
      refine g_aldn hc dX10_readComparison_56 rfl ?_
      refine g_iload_n hc dX10_readComparison_57 rfl ?_
      refine g_V2v hc (hS hR hI hn hB ht hos2_ (by omega)) my_X10_readSum mv_X10_readSum ca_547 rfl rfl lm_X10_45 rfl (by omega) (Nat.le_of_ble_eq_true rfl) hm dX10_readComparison_58 ?_
      generalize hss3_ : t_suk (I 2) (I 1 1) k s2_ = s3_
      have hos3_ : t_ok (I 1 1) s3_ := hss3_ ▸ t_suk_ok hn hos2_
      refine g_aldn hc dX10_readComparison_61 rfl ?_
      refine g_iload hc dX10_readComparison_62 rfl ?_
      refine g_ineg hc dX10_readComparison_64 ?_
      refine g_V1v hc (s_put w hR hI hn ht hos3_ (by first | exact hI _ _ | exact hxI2 _ _ | exact hIa _ _ | exact hIb _ _ | exact g_b32 | exact g_and32 | assumption | exact ⟨by omega, by omega⟩)) my_X9_put mv_X9_put (ta_0 ht) rfl rfl lm_X10_56 rfl (by omega) (Nat.le_of_ble_eq_true rfl) hm dX10_readComparison_65 ?_
      generalize hss4_ : t_put (-(t_sg (I 2) (I 1 1) s)) s3_ = s4_
      have hos4_ : t_ok (I 1 1) s4_ := hss4_ ▸ t_put_ok hos3_ (by first | exact hI _ _ | exact hxI2 _ _ | exact hIa _ _ | exact hIb _ _ | exact g_b32 | exact g_and32 | assumption | exact ⟨by omega, by omega⟩)
      refine g_vret hc hm dX10_readComparison_68 ?_
      exact ⟨rfl, rfl, by subst_vars; (first | rw [t_cmp0] | rw [t_cmp1 (by assumption)]); first | rw [if_pos (by assumption)] | rw [if_neg (by assumption)], rfl, rfl⟩
    · skip
      refine g_aldn hc dX10_readComparison_27 rfl ?_
      refine g_getRk hc lk_X10_9 ca_547 (rc_547_0 hR) dX10_readComparison_28 ?_
      refine g_aldn hc dX10_readComparison_31 rfl ?_
      refine g_getRk hc lk_X10_9 ca_547 (rc_547_0 hR) dX10_readComparison_32 ?_
      refine g_getIe hc lk_X10_71 ca_1 2 rfl t_M_a dX10_readComparison_35 ?_
      refine g_V1v hc (s_failAt w hR hI hn ht hos1_ (by first | exact hfx | (rw [← hss1_]; exact t_sk_fx (by assumption)))) my_X8_failAt mv_X8_failAt ca_1 rfl rfl lm_X10_74 rfl (by omega) (Nat.le_of_ble_eq_true rfl) hm dX10_readComparison_38 ?_
      generalize hss5_ : t_fl (I 2) (I 1 1) s1_ = s5_
      have hos5_ : t_ok (I 1 1) s5_ := hss5_ ▸ t_fl_ok hos1_ hn
      refine g_vret hc hm dX10_readComparison_41 ?_
      exact ⟨rfl, rfl, by subst_vars; (first | rw [t_cmp0] | rw [t_cmp1 (by assumption)]); first | rw [if_pos (by assumption)] | rw [if_neg (by assumption)], rfl, rfl⟩
  · skip
    refine g_aldn hc dX10_readComparison_4 rfl ?_
    refine g_aldn hc dX10_readComparison_5 rfl ?_
    refine g_iload_n hc dX10_readComparison_6 rfl ?_
    refine g_V2v hc (hS hR hI hn hB ht hos (by omega)) my_X10_readSum mv_X10_readSum ca_547 rfl rfl lm_X10_45 rfl (by omega) (Nat.le_of_ble_eq_true rfl) hm dX10_readComparison_7 ?_
    generalize hss6_ : t_suk (I 2) (I 1 1) k s = s6_
    have hos6_ : t_ok (I 1 1) s6_ := hss6_ ▸ t_suk_ok hn hos
    refine g_aldn hc dX10_readComparison_10 rfl ?_
    refine g_getRk hc lk_X10_9 ca_547 (rc_547_0 hR) dX10_readComparison_11 ?_
    have hsb := t_sg_b (B := I 2) (n := I 1 1) (s := s6_) hB
    refine g_V0r hc (s_sign w hR hI hn ht hos6_) my_X8_sign mv_X8_sign ca_1 rfl rfl lm_X10_42 rfl (by omega) (Nat.le_of_ble_eq_true rfl) hm dX10_readComparison_14 ?_
    generalize hss7_ : t_sk (I 2) (I 1 1) s6_ = s7_
    have hos7_ : t_ok (I 1 1) s7_ := hss7_ ▸ t_sk_ok hos6_
    refine g_istore_4 hc dX10_readComparison_17 rfl ?_
    refine g_iload hc dX10_readComparison_19 rfl ?_
    refine g_S1r hc (c_X10_compares w (by first | exact hI _ _ | exact hxI2 _ _ | exact hIa _ _ | exact hIb _ _ | exact g_b32 | exact g_and32 | assumption | exact ⟨by omega, by omega⟩)) my_X10_compares ms_X10_compares lm_X10_49 rfl (by omega) (Nat.le_of_ble_eq_true rfl) hm dX10_readComparison_21 ?_
    refine g_ifb_ne (tgt := 42) hc dX10_readComparison_24 (by decide)  (fun c3 => ?_) (fun c3 => ?_)
    · skip
      refine g_aldn hc dX10_readComparison_42 rfl ?_
      refine g_getRk hc lk_X10_9 ca_547 (rc_547_0 hR) dX10_readComparison_43 ?_
      refine g_dup hc dX10_readComparison_46 rfl ?_
      refine g_getIe hc lk_X10_71 ca_1 2 rfl t_M_a dX10_readComparison_47 ?_
      refine g_iconst hc dX10_readComparison_50 ?_
      refine g_iadd hc dX10_readComparison_51 ?_
      refine g_putIe (I2 := t_M I t (t_adv s7_)) hc lk_X10_71 ca_1 2 rfl t_M_p dX10_readComparison_52 ?_
      generalize hss8_ : t_adv s7_ = s8_
      have hos8_ : t_ok (I 1 1) s8_ := hss8_ ▸ t_adv_ok hos7_ (by subst_vars; exact t_sg_in (by assumption) (by omega))
      refine g_aldn hc dX10_readComparison_55 rfl ?_
      refine g_aldn hc dX10_readComparison_56 rfl ?_
      refine g_iload_n hc dX10_readComparison_57 rfl ?_
      refine g_V2v hc (hS hR hI hn hB ht hos8_ (by omega)) my_X10_readSum mv_X10_readSum ca_547 rfl rfl lm_X10_45 rfl (by omega) (Nat.le_of_ble_eq_true rfl) hm dX10_readComparison_58 ?_
      generalize hss9_ : t_suk (I 2) (I 1 1) k s8_ = s9_
      have hos9_ : t_ok (I 1 1) s9_ := hss9_ ▸ t_suk_ok hn hos8_
      refine g_aldn hc dX10_readComparison_61 rfl ?_
      refine g_iload hc dX10_readComparison_62 rfl ?_
      refine g_ineg hc dX10_readComparison_64 ?_
      refine g_V1v hc (s_put w hR hI hn ht hos9_ (by first | exact hI _ _ | exact hxI2 _ _ | exact hIa _ _ | exact hIb _ _ | exact g_b32 | exact g_and32 | assumption | exact ⟨by omega, by omega⟩)) my_X9_put mv_X9_put (ta_0 ht) rfl rfl lm_X10_56 rfl (by omega) (Nat.le_of_ble_eq_true rfl) hm dX10_readComparison_65 ?_
      generalize hss10_ : t_put (-(t_sg (I 2) (I 1 1) s6_)) s9_ = s10_
      have hos10_ : t_ok (I 1 1) s10_ := hss10_ ▸ t_put_ok hos9_ (by first | exact hI _ _ | exact hxI2 _ _ | exact hIa _ _ | exact hIb _ _ | exact g_b32 | exact g_and32 | assumption | exact ⟨by omega, by omega⟩)
      refine g_vret hc hm dX10_readComparison_68 ?_
      exact ⟨rfl, rfl, by subst_vars; (first | rw [t_cmp0] | rw [t_cmp1 (by assumption)]); first | rw [if_pos (by assumption)] | rw [if_neg (by assumption)], rfl, rfl⟩
    · skip
      refine g_aldn hc dX10_readComparison_27 rfl ?_
      refine g_getRk hc lk_X10_9 ca_547 (rc_547_0 hR) dX10_readComparison_28 ?_
      refine g_aldn hc dX10_readComparison_31 rfl ?_
      refine g_getRk hc lk_X10_9 ca_547 (rc_547_0 hR) dX10_readComparison_32 ?_
      refine g_getIe hc lk_X10_71 ca_1 2 rfl t_M_a dX10_readComparison_35 ?_
      refine g_V1v hc (s_failAt w hR hI hn ht hos7_ (by first | exact hfx | (rw [← hss7_]; exact t_sk_fx (by assumption)))) my_X8_failAt mv_X8_failAt ca_1 rfl rfl lm_X10_74 rfl (by omega) (Nat.le_of_ble_eq_true rfl) hm dX10_readComparison_38 ?_
      generalize hss11_ : t_fl (I 2) (I 1 1) s7_ = s11_
      have hos11_ : t_ok (I 1 1) s11_ := hss11_ ▸ t_fl_ok hos7_ hn
      refine g_vret hc hm dX10_readComparison_41 ?_
      exact ⟨rfl, rfl, by subst_vars; (first | rw [t_cmp0] | rw [t_cmp1 (by assumption)]); first | rw [if_pos (by assumption)] | rw [if_neg (by assumption)], rfl, rfl⟩
set_option maxHeartbeats 4000000 in
set_option maxRecDepth 100000 in
/-- X10_readUnit -/
theorem s_uni0 (w : g_W) {I : g_I} {J : g_J} {R : g_R} {lb tx : Nat} (hR : g_rf w R lb tx) (hI : ∀ k j, g32 (I k j)) (hn : I 1 1 ≤ 240) (hB : ∀ j, 0 ≤ I 2 j ∧ I 2 j ≤ 255) {t : Nat} (ht : g_taste t) {s : g_S} (hos : t_ok (I 1 1) s) {d : Int} (hd : d = 6) {e : Int} (he : e = 0 ∨ e = 1) : g_Met w g_n (t_M I t s) J R yX10_readUnit cX10_readUnit 5 none (10 + 3 * 0) 0 0 [(gvr w 547), (gvr w t), (gvI d), (gvI e)] (g_post none g_n (t_M I t (t_unk (I 2) (I 1 1) 0 e s)) J R) := by
  refine g_intro (own := RX10) [some (gvr w 547), some (gvr w t), some (gvI d), some (gvI e), none] (by decide +kernel) rfl (by decide) (Nat.le_of_ble_eq_true rfl) rfl (fun i v hv => g_args 1 i v hv rfl) (fun x hc hm => ?_)
  refine g_aldn hc dX10_readUnit_0 rfl ?_
  refine g_getRk hc lk_X10_9 ca_547 (rc_547_0 hR) dX10_readUnit_1 ?_
  refine g_V0r hc (s_sign w hR hI hn ht hos) my_X8_sign mv_X8_sign ca_1 rfl rfl lm_X10_42 rfl (by omega) (Nat.le_of_ble_eq_true rfl) hm dX10_readUnit_4 ?_
  generalize hss1_ : t_sk (I 2) (I 1 1) s = s1_
  have hos1_ : t_ok (I 1 1) s1_ := hss1_ ▸ t_sk_ok hos
  refine g_istore_4 hc dX10_readUnit_7 rfl ?_
  refine g_iload_n hc dX10_readUnit_9 rfl ?_
  refine g_if_ne (tgt := 46) hc dX10_readUnit_10 (by decide) (by first | exact hI _ _ | exact hxI2 _ _ | exact hIa _ _ | exact hIb _ _ | exact g_b32 | exact g_and32 | assumption | exact ⟨by omega, by omega⟩) (fun c1 => ?_) (fun c1 => ?_)
  · skip
    refine g_iload_n hc dX10_readUnit_46 rfl ?_
    refine g_if_ne (tgt := 86) hc dX10_readUnit_47 (by decide) (by first | exact hI _ _ | exact hxI2 _ _ | exact hIa _ _ | exact hIb _ _ | exact g_b32 | exact g_and32 | assumption | exact ⟨by omega, by omega⟩) (fun c2 => ?_) (fun c2 => ?_)
    · skip
      refine g_aldn hc dX10_readUnit_86 rfl ?_
      refine g_aldn hc dX10_readUnit_87 rfl ?_
      refine g_iload_n hc dX10_readUnit_88 rfl ?_
      refine g_iload_n hc dX10_readUnit_89 rfl ?_
      refine g_V3v hc (s_cmp w hR hI hn hB ht hos1_ (k := 0) (by omega) (by decide) he (k_suk w (by decide))) my_X10_readComparison mv_X10_readComparison ca_547 rfl rfl lm_X10_68 rfl (by omega) (Nat.le_of_ble_eq_true rfl) hm dX10_readUnit_90 ?_
      generalize hss2_ : t_cmp (I 2) (I 1 1) (t_suk (I 2) (I 1 1) 0) e s1_ = s2_
      have hos2_ : t_ok (I 1 1) s2_ := hss2_ ▸ t_cmp_ok hn (fun s h => t_suk_ok hn h) hos1_
      refine g_vret hc hm dX10_readUnit_93 ?_
      exact ⟨rfl, rfl, by unfold t_unk t_unit; first | (rw [if_pos ⟨by omega, by omega⟩]; subst_vars; rfl) | (rw [if_neg (by omega), if_pos ⟨by omega, by omega⟩]; subst_vars; rfl) | (rw [if_neg (by omega), if_neg (by omega)]; subst_vars; rfl), rfl, rfl⟩
    · skip
      refine g_iload hc dX10_readUnit_50 rfl ?_
      refine g_bipush hc dX10_readUnit_52 (by decide +kernel) ?_
      refine g_icmp_ne (tgt := 86) hc dX10_readUnit_54 (by decide) (by rw [t_sg]; exact g_sgn32 hI) (by exact ⟨by decide, by decide⟩) (fun c3 => ?_) (fun c3 => ?_)
      · skip
        refine g_aldn hc dX10_readUnit_86 rfl ?_
        refine g_aldn hc dX10_readUnit_87 rfl ?_
        refine g_iload_n hc dX10_readUnit_88 rfl ?_
        refine g_iload_n hc dX10_readUnit_89 rfl ?_
        refine g_V3v hc (s_cmp w hR hI hn hB ht hos1_ (k := 0) (by omega) (by decide) he (k_suk w (by decide))) my_X10_readComparison mv_X10_readComparison ca_547 rfl rfl lm_X10_68 rfl (by omega) (Nat.le_of_ble_eq_true rfl) hm dX10_readUnit_90 ?_
        generalize hss3_ : t_cmp (I 2) (I 1 1) (t_suk (I 2) (I 1 1) 0) e s1_ = s3_
        have hos3_ : t_ok (I 1 1) s3_ := hss3_ ▸ t_cmp_ok hn (fun s h => t_suk_ok hn h) hos1_
        refine g_vret hc hm dX10_readUnit_93 ?_
        exact ⟨rfl, rfl, by unfold t_unk t_unit; first | (rw [if_pos ⟨by omega, by omega⟩]; subst_vars; rfl) | (rw [if_neg (by omega), if_pos ⟨by omega, by omega⟩]; subst_vars; rfl) | (rw [if_neg (by omega), if_neg (by omega)]; subst_vars; rfl), rfl, rfl⟩
      · skip
        have hlt : s1_.1 < I 1 1 := by subst_vars; exact t_sg_in hos (by omega)
        refine g_aldn hc dX10_readUnit_57 rfl ?_
        refine g_iload_n hc dX10_readUnit_58 rfl ?_
        refine g_V1r hc (s_goes0 w hR hI hn hB ht hos1_ (by omega) (by rw [← hss1_]; exact t_sk_fx (by assumption))) my_X10_goesIn mv_X10_goesIn ca_547 rfl rfl lm_X10_65 rfl (by omega) (Nat.le_of_ble_eq_true rfl) hm dX10_readUnit_59 ?_
        generalize hss4_ : t_fl (I 2) (I 1 1) s1_ = s4_
        have hos4_ : t_ok (I 1 1) s4_ := hss4_ ▸ t_fl_ok hos1_ hn
        refine g_if_eq (tgt := 93) hc dX10_readUnit_62 (by decide) (show g32 _ from ⟨by decide, by decide⟩) (fun c4 => ?_) (fun c4 => ?_)
        · skip
          refine g_vret hc hm dX10_readUnit_93 ?_
          exact ⟨rfl, rfl, by unfold t_unk t_unit; first | (rw [if_pos ⟨by omega, by omega⟩]; subst_vars; rfl) | (rw [if_neg (by omega), if_pos ⟨by omega, by omega⟩]; subst_vars; rfl) | (rw [if_neg (by omega), if_neg (by omega)]; subst_vars; rfl), rfl, rfl⟩
        · exfalso; omega
  · skip
    refine g_iload hc dX10_readUnit_13 rfl ?_
    refine g_bipush hc dX10_readUnit_15 (by decide +kernel) ?_
    refine g_icmp_ne (tgt := 46) hc dX10_readUnit_17 (by decide) (by rw [t_sg]; exact g_sgn32 hI) (by exact ⟨by decide, by decide⟩) (fun c5 => ?_) (fun c5 => ?_)
    · skip
      refine g_iload_n hc dX10_readUnit_46 rfl ?_
      refine g_if_ne (tgt := 86) hc dX10_readUnit_47 (by decide) (by first | exact hI _ _ | exact hxI2 _ _ | exact hIa _ _ | exact hIb _ _ | exact g_b32 | exact g_and32 | assumption | exact ⟨by omega, by omega⟩) (fun c6 => ?_) (fun c6 => ?_)
      · skip
        refine g_aldn hc dX10_readUnit_86 rfl ?_
        refine g_aldn hc dX10_readUnit_87 rfl ?_
        refine g_iload_n hc dX10_readUnit_88 rfl ?_
        refine g_iload_n hc dX10_readUnit_89 rfl ?_
        refine g_V3v hc (s_cmp w hR hI hn hB ht hos1_ (k := 0) (by omega) (by decide) he (k_suk w (by decide))) my_X10_readComparison mv_X10_readComparison ca_547 rfl rfl lm_X10_68 rfl (by omega) (Nat.le_of_ble_eq_true rfl) hm dX10_readUnit_90 ?_
        generalize hss5_ : t_cmp (I 2) (I 1 1) (t_suk (I 2) (I 1 1) 0) e s1_ = s5_
        have hos5_ : t_ok (I 1 1) s5_ := hss5_ ▸ t_cmp_ok hn (fun s h => t_suk_ok hn h) hos1_
        refine g_vret hc hm dX10_readUnit_93 ?_
        exact ⟨rfl, rfl, by unfold t_unk t_unit; first | (rw [if_pos ⟨by omega, by omega⟩]; subst_vars; rfl) | (rw [if_neg (by omega), if_pos ⟨by omega, by omega⟩]; subst_vars; rfl) | (rw [if_neg (by omega), if_neg (by omega)]; subst_vars; rfl), rfl, rfl⟩
      · skip
        refine g_iload hc dX10_readUnit_50 rfl ?_
        refine g_bipush hc dX10_readUnit_52 (by decide +kernel) ?_
        refine g_icmp_ne (tgt := 86) hc dX10_readUnit_54 (by decide) (by rw [t_sg]; exact g_sgn32 hI) (by exact ⟨by decide, by decide⟩) (fun c7 => ?_) (fun c7 => ?_)
        · skip
          refine g_aldn hc dX10_readUnit_86 rfl ?_
          refine g_aldn hc dX10_readUnit_87 rfl ?_
          refine g_iload_n hc dX10_readUnit_88 rfl ?_
          refine g_iload_n hc dX10_readUnit_89 rfl ?_
          refine g_V3v hc (s_cmp w hR hI hn hB ht hos1_ (k := 0) (by omega) (by decide) he (k_suk w (by decide))) my_X10_readComparison mv_X10_readComparison ca_547 rfl rfl lm_X10_68 rfl (by omega) (Nat.le_of_ble_eq_true rfl) hm dX10_readUnit_90 ?_
          generalize hss6_ : t_cmp (I 2) (I 1 1) (t_suk (I 2) (I 1 1) 0) e s1_ = s6_
          have hos6_ : t_ok (I 1 1) s6_ := hss6_ ▸ t_cmp_ok hn (fun s h => t_suk_ok hn h) hos1_
          refine g_vret hc hm dX10_readUnit_93 ?_
          exact ⟨rfl, rfl, by unfold t_unk t_unit; first | (rw [if_pos ⟨by omega, by omega⟩]; subst_vars; rfl) | (rw [if_neg (by omega), if_pos ⟨by omega, by omega⟩]; subst_vars; rfl) | (rw [if_neg (by omega), if_neg (by omega)]; subst_vars; rfl), rfl, rfl⟩
        · skip
          have hlt : s1_.1 < I 1 1 := by subst_vars; exact t_sg_in hos (by omega)
          refine g_aldn hc dX10_readUnit_57 rfl ?_
          refine g_iload_n hc dX10_readUnit_58 rfl ?_
          refine g_V1r hc (s_goes0 w hR hI hn hB ht hos1_ (by omega) (by rw [← hss1_]; exact t_sk_fx (by assumption))) my_X10_goesIn mv_X10_goesIn ca_547 rfl rfl lm_X10_65 rfl (by omega) (Nat.le_of_ble_eq_true rfl) hm dX10_readUnit_59 ?_
          generalize hss7_ : t_fl (I 2) (I 1 1) s1_ = s7_
          have hos7_ : t_ok (I 1 1) s7_ := hss7_ ▸ t_fl_ok hos1_ hn
          refine g_if_eq (tgt := 93) hc dX10_readUnit_62 (by decide) (show g32 _ from ⟨by decide, by decide⟩) (fun c8 => ?_) (fun c8 => ?_)
          · skip
            refine g_vret hc hm dX10_readUnit_93 ?_
            exact ⟨rfl, rfl, by unfold t_unk t_unit; first | (rw [if_pos ⟨by omega, by omega⟩]; subst_vars; rfl) | (rw [if_neg (by omega), if_pos ⟨by omega, by omega⟩]; subst_vars; rfl) | (rw [if_neg (by omega), if_neg (by omega)]; subst_vars; rfl), rfl, rfl⟩
          · exfalso; omega
    · skip
      have hlt : s1_.1 < I 1 1 := by subst_vars; exact t_sg_in hos (by omega)
      refine g_aldn hc dX10_readUnit_20 rfl ?_
      refine g_iload_n hc dX10_readUnit_21 rfl ?_
      refine g_V1r hc (s_goes0 w hR hI hn hB ht hos1_ (by omega) (by rw [← hss1_]; exact t_sk_fx (by assumption))) my_X10_goesIn mv_X10_goesIn ca_547 rfl rfl lm_X10_65 rfl (by omega) (Nat.le_of_ble_eq_true rfl) hm dX10_readUnit_22 ?_
      generalize hss8_ : t_fl (I 2) (I 1 1) s1_ = s8_
      have hos8_ : t_ok (I 1 1) s8_ := hss8_ ▸ t_fl_ok hos1_ hn
      refine g_if_eq (tgt := 93) hc dX10_readUnit_25 (by decide) (show g32 _ from ⟨by decide, by decide⟩) (fun c9 => ?_) (fun c9 => ?_)
      · skip
        refine g_vret hc hm dX10_readUnit_93 ?_
        exact ⟨rfl, rfl, by unfold t_unk t_unit; first | (rw [if_pos ⟨by omega, by omega⟩]; subst_vars; rfl) | (rw [if_neg (by omega), if_pos ⟨by omega, by omega⟩]; subst_vars; rfl) | (rw [if_neg (by omega), if_neg (by omega)]; subst_vars; rfl), rfl, rfl⟩
      · exfalso; omega
set_option maxHeartbeats 4000000 in
set_option maxRecDepth 100000 in
/-- X10_readUnit -/
theorem s_uniS (w : g_W) {I : g_I} {J : g_J} {R : g_R} {lb tx : Nat} (hR : g_rf w R lb tx) (hI : ∀ k j, g32 (I k j)) (hn : I 1 1 ≤ 240) (hB : ∀ j, 0 ≤ I 2 j ∧ I 2 j ≤ 255) {t : Nat} (ht : g_taste t) {s : g_S} (hos : t_ok (I 1 1) s) {k : Nat} {d : Int} (hd : d = 6 - ((k + 1 : Nat) : Int)) (hk : k < 6) {e : Int} (he : e = 0 ∨ e = 1) (hU : C_uni w k) (hC : C_con w k) : g_Met w g_n (t_M I t s) J R yX10_readUnit cX10_readUnit 5 none (10 + 3 * (k + 1)) 0 0 [(gvr w 547), (gvr w t), (gvI d), (gvI e)] (g_post none g_n (t_M I t (t_unk (I 2) (I 1 1) (k + 1) e s)) J R) := by
  refine g_intro (own := RX10) [some (gvr w 547), some (gvr w t), some (gvI d), some (gvI e), none] (by decide +kernel) rfl (by decide) (Nat.le_of_ble_eq_true rfl) rfl (fun i v hv => g_args 1 i v hv rfl) (fun x hc hm => ?_)
  refine g_aldn hc dX10_readUnit_0 rfl ?_
  refine g_getRk hc lk_X10_9 ca_547 (rc_547_0 hR) dX10_readUnit_1 ?_
  refine g_V0r hc (s_sign w hR hI hn ht hos) my_X8_sign mv_X8_sign ca_1 rfl rfl lm_X10_42 rfl (by omega) (Nat.le_of_ble_eq_true rfl) hm dX10_readUnit_4 ?_
  generalize hss1_ : t_sk (I 2) (I 1 1) s = s1_
  have hos1_ : t_ok (I 1 1) s1_ := hss1_ ▸ t_sk_ok hos
  refine g_istore_4 hc dX10_readUnit_7 rfl ?_
  refine g_iload_n hc dX10_readUnit_9 rfl ?_
  refine g_if_ne (tgt := 46) hc dX10_readUnit_10 (by decide) (by first | exact hI _ _ | exact hxI2 _ _ | exact hIa _ _ | exact hIb _ _ | exact g_b32 | exact g_and32 | assumption | exact ⟨by omega, by omega⟩) (fun c1 => ?_) (fun c1 => ?_)
  · skip
    refine g_iload_n hc dX10_readUnit_46 rfl ?_
    refine g_if_ne (tgt := 86) hc dX10_readUnit_47 (by decide) (by first | exact hI _ _ | exact hxI2 _ _ | exact hIa _ _ | exact hIb _ _ | exact g_b32 | exact g_and32 | assumption | exact ⟨by omega, by omega⟩) (fun c2 => ?_) (fun c2 => ?_)
    · skip
      refine g_aldn hc dX10_readUnit_86 rfl ?_
      refine g_aldn hc dX10_readUnit_87 rfl ?_
      refine g_iload_n hc dX10_readUnit_88 rfl ?_
      refine g_iload_n hc dX10_readUnit_89 rfl ?_
      refine g_V3v hc (s_cmp w hR hI hn hB ht hos1_ (k := (k + 1)) (by omega) (by omega) he (k_suk w (by omega))) my_X10_readComparison mv_X10_readComparison ca_547 rfl rfl lm_X10_68 rfl (by omega) (Nat.le_of_ble_eq_true rfl) hm dX10_readUnit_90 ?_
      generalize hss2_ : t_cmp (I 2) (I 1 1) (t_suk (I 2) (I 1 1) (k + 1)) e s1_ = s2_
      have hos2_ : t_ok (I 1 1) s2_ := hss2_ ▸ t_cmp_ok hn (fun s h => t_suk_ok hn h) hos1_
      refine g_vret hc hm dX10_readUnit_93 ?_
      exact ⟨rfl, rfl, by unfold t_unk t_unit; first | (rw [if_pos ⟨by omega, by omega⟩]; subst_vars; rfl) | (rw [if_neg (by omega), if_pos ⟨by omega, by omega⟩]; subst_vars; rfl) | (rw [if_neg (by omega), if_neg (by omega)]; subst_vars; rfl), rfl, rfl⟩
    · skip
      refine g_iload hc dX10_readUnit_50 rfl ?_
      refine g_bipush hc dX10_readUnit_52 (by decide +kernel) ?_
      refine g_icmp_ne (tgt := 86) hc dX10_readUnit_54 (by decide) (by rw [t_sg]; exact g_sgn32 hI) (by exact ⟨by decide, by decide⟩) (fun c3 => ?_) (fun c3 => ?_)
      · skip
        refine g_aldn hc dX10_readUnit_86 rfl ?_
        refine g_aldn hc dX10_readUnit_87 rfl ?_
        refine g_iload_n hc dX10_readUnit_88 rfl ?_
        refine g_iload_n hc dX10_readUnit_89 rfl ?_
        refine g_V3v hc (s_cmp w hR hI hn hB ht hos1_ (k := (k + 1)) (by omega) (by omega) he (k_suk w (by omega))) my_X10_readComparison mv_X10_readComparison ca_547 rfl rfl lm_X10_68 rfl (by omega) (Nat.le_of_ble_eq_true rfl) hm dX10_readUnit_90 ?_
        generalize hss3_ : t_cmp (I 2) (I 1 1) (t_suk (I 2) (I 1 1) (k + 1)) e s1_ = s3_
        have hos3_ : t_ok (I 1 1) s3_ := hss3_ ▸ t_cmp_ok hn (fun s h => t_suk_ok hn h) hos1_
        refine g_vret hc hm dX10_readUnit_93 ?_
        exact ⟨rfl, rfl, by unfold t_unk t_unit; first | (rw [if_pos ⟨by omega, by omega⟩]; subst_vars; rfl) | (rw [if_neg (by omega), if_pos ⟨by omega, by omega⟩]; subst_vars; rfl) | (rw [if_neg (by omega), if_neg (by omega)]; subst_vars; rfl), rfl, rfl⟩
      · skip
        have hlt : s1_.1 < I 1 1 := by subst_vars; exact t_sg_in hos (by omega)
        refine g_aldn hc dX10_readUnit_57 rfl ?_
        refine g_iload_n hc dX10_readUnit_58 rfl ?_
        refine g_V1r hc (s_goes1 w hR hI hn hB ht hos1_ (by omega) (by omega) hlt) my_X10_goesIn mv_X10_goesIn ca_547 rfl rfl lm_X10_65 rfl (by omega) (Nat.le_of_ble_eq_true rfl) hm dX10_readUnit_59 ?_
        generalize hss4_ : t_adv s1_ = s4_
        have hos4_ : t_ok (I 1 1) s4_ := hss4_ ▸ t_adv_ok hos1_ hlt
        refine g_if_eq (tgt := 93) hc dX10_readUnit_62 (by decide) (show g32 _ from ⟨by decide, by decide⟩) (fun c4 => ?_) (fun c4 => ?_)
        · exfalso; omega
        · skip
          refine g_aldn hc dX10_readUnit_65 rfl ?_
          refine g_aldn hc dX10_readUnit_66 rfl ?_
          refine g_iload_n hc dX10_readUnit_67 rfl ?_
          refine g_iconst hc dX10_readUnit_68 ?_
          refine g_iadd hc dX10_readUnit_69 ?_
          refine g_iconst hc dX10_readUnit_70 ?_
          refine g_V3v hc (hC hR hI hn hB ht hos4_ (by omega) (by decide)) my_X10_readCondition mv_X10_readCondition ca_547 rfl rfl lm_X10_52 rfl (by omega) (Nat.le_of_ble_eq_true rfl) hm dX10_readUnit_71 ?_
          generalize hss5_ : t_cok (I 2) (I 1 1) k 0 s4_ = s5_
          have hos5_ : t_ok (I 1 1) s5_ := hss5_ ▸ t_cok_ok hn hos4_
          refine g_aldn hc dX10_readUnit_74 rfl ?_
          refine g_getRk hc lk_X10_9 ca_547 (rc_547_0 hR) dX10_readUnit_75 ?_
          refine g_bipush hc dX10_readUnit_78 (by decide +kernel) ?_
          refine g_V1v hc (s_want w hR hI hn ht hos5_ (by exact ⟨by decide, by decide⟩) (by decide)) my_X8_want mv_X8_want ca_1 rfl rfl lm_X10_38 rfl (by omega) (Nat.le_of_ble_eq_true rfl) hm dX10_readUnit_80 ?_
          generalize hss6_ : t_wn (I 2) (I 1 1) 41 s5_ = s6_
          have hos6_ : t_ok (I 1 1) s6_ := hss6_ ▸ t_wn_ok hos5_ hn (by decide)
          refine g_goto (tgt := 93) hc dX10_readUnit_83 (by decide) ?_
          refine g_vret hc hm dX10_readUnit_93 ?_
          exact ⟨rfl, rfl, by unfold t_unk t_unit; first | (rw [if_pos ⟨by omega, by omega⟩]; subst_vars; rfl) | (rw [if_neg (by omega), if_pos ⟨by omega, by omega⟩]; subst_vars; rfl) | (rw [if_neg (by omega), if_neg (by omega)]; subst_vars; rfl), rfl, rfl⟩
  · skip
    refine g_iload hc dX10_readUnit_13 rfl ?_
    refine g_bipush hc dX10_readUnit_15 (by decide +kernel) ?_
    refine g_icmp_ne (tgt := 46) hc dX10_readUnit_17 (by decide) (by rw [t_sg]; exact g_sgn32 hI) (by exact ⟨by decide, by decide⟩) (fun c5 => ?_) (fun c5 => ?_)
    · skip
      refine g_iload_n hc dX10_readUnit_46 rfl ?_
      refine g_if_ne (tgt := 86) hc dX10_readUnit_47 (by decide) (by first | exact hI _ _ | exact hxI2 _ _ | exact hIa _ _ | exact hIb _ _ | exact g_b32 | exact g_and32 | assumption | exact ⟨by omega, by omega⟩) (fun c6 => ?_) (fun c6 => ?_)
      · skip
        refine g_aldn hc dX10_readUnit_86 rfl ?_
        refine g_aldn hc dX10_readUnit_87 rfl ?_
        refine g_iload_n hc dX10_readUnit_88 rfl ?_
        refine g_iload_n hc dX10_readUnit_89 rfl ?_
        refine g_V3v hc (s_cmp w hR hI hn hB ht hos1_ (k := (k + 1)) (by omega) (by omega) he (k_suk w (by omega))) my_X10_readComparison mv_X10_readComparison ca_547 rfl rfl lm_X10_68 rfl (by omega) (Nat.le_of_ble_eq_true rfl) hm dX10_readUnit_90 ?_
        generalize hss7_ : t_cmp (I 2) (I 1 1) (t_suk (I 2) (I 1 1) (k + 1)) e s1_ = s7_
        have hos7_ : t_ok (I 1 1) s7_ := hss7_ ▸ t_cmp_ok hn (fun s h => t_suk_ok hn h) hos1_
        refine g_vret hc hm dX10_readUnit_93 ?_
        exact ⟨rfl, rfl, by unfold t_unk t_unit; first | (rw [if_pos ⟨by omega, by omega⟩]; subst_vars; rfl) | (rw [if_neg (by omega), if_pos ⟨by omega, by omega⟩]; subst_vars; rfl) | (rw [if_neg (by omega), if_neg (by omega)]; subst_vars; rfl), rfl, rfl⟩
      · skip
        refine g_iload hc dX10_readUnit_50 rfl ?_
        refine g_bipush hc dX10_readUnit_52 (by decide +kernel) ?_
        refine g_icmp_ne (tgt := 86) hc dX10_readUnit_54 (by decide) (by rw [t_sg]; exact g_sgn32 hI) (by exact ⟨by decide, by decide⟩) (fun c7 => ?_) (fun c7 => ?_)
        · skip
          refine g_aldn hc dX10_readUnit_86 rfl ?_
          refine g_aldn hc dX10_readUnit_87 rfl ?_
          refine g_iload_n hc dX10_readUnit_88 rfl ?_
          refine g_iload_n hc dX10_readUnit_89 rfl ?_
          refine g_V3v hc (s_cmp w hR hI hn hB ht hos1_ (k := (k + 1)) (by omega) (by omega) he (k_suk w (by omega))) my_X10_readComparison mv_X10_readComparison ca_547 rfl rfl lm_X10_68 rfl (by omega) (Nat.le_of_ble_eq_true rfl) hm dX10_readUnit_90 ?_
          generalize hss8_ : t_cmp (I 2) (I 1 1) (t_suk (I 2) (I 1 1) (k + 1)) e s1_ = s8_
          have hos8_ : t_ok (I 1 1) s8_ := hss8_ ▸ t_cmp_ok hn (fun s h => t_suk_ok hn h) hos1_
          refine g_vret hc hm dX10_readUnit_93 ?_
          exact ⟨rfl, rfl, by unfold t_unk t_unit; first | (rw [if_pos ⟨by omega, by omega⟩]; subst_vars; rfl) | (rw [if_neg (by omega), if_pos ⟨by omega, by omega⟩]; subst_vars; rfl) | (rw [if_neg (by omega), if_neg (by omega)]; subst_vars; rfl), rfl, rfl⟩
        · skip
          have hlt : s1_.1 < I 1 1 := by subst_vars; exact t_sg_in hos (by omega)
          refine g_aldn hc dX10_readUnit_57 rfl ?_
          refine g_iload_n hc dX10_readUnit_58 rfl ?_
          refine g_V1r hc (s_goes1 w hR hI hn hB ht hos1_ (by omega) (by omega) hlt) my_X10_goesIn mv_X10_goesIn ca_547 rfl rfl lm_X10_65 rfl (by omega) (Nat.le_of_ble_eq_true rfl) hm dX10_readUnit_59 ?_
          generalize hss9_ : t_adv s1_ = s9_
          have hos9_ : t_ok (I 1 1) s9_ := hss9_ ▸ t_adv_ok hos1_ hlt
          refine g_if_eq (tgt := 93) hc dX10_readUnit_62 (by decide) (show g32 _ from ⟨by decide, by decide⟩) (fun c8 => ?_) (fun c8 => ?_)
          · exfalso; omega
          · skip
            refine g_aldn hc dX10_readUnit_65 rfl ?_
            refine g_aldn hc dX10_readUnit_66 rfl ?_
            refine g_iload_n hc dX10_readUnit_67 rfl ?_
            refine g_iconst hc dX10_readUnit_68 ?_
            refine g_iadd hc dX10_readUnit_69 ?_
            refine g_iconst hc dX10_readUnit_70 ?_
            refine g_V3v hc (hC hR hI hn hB ht hos9_ (by omega) (by decide)) my_X10_readCondition mv_X10_readCondition ca_547 rfl rfl lm_X10_52 rfl (by omega) (Nat.le_of_ble_eq_true rfl) hm dX10_readUnit_71 ?_
            generalize hss10_ : t_cok (I 2) (I 1 1) k 0 s9_ = s10_
            have hos10_ : t_ok (I 1 1) s10_ := hss10_ ▸ t_cok_ok hn hos9_
            refine g_aldn hc dX10_readUnit_74 rfl ?_
            refine g_getRk hc lk_X10_9 ca_547 (rc_547_0 hR) dX10_readUnit_75 ?_
            refine g_bipush hc dX10_readUnit_78 (by decide +kernel) ?_
            refine g_V1v hc (s_want w hR hI hn ht hos10_ (by exact ⟨by decide, by decide⟩) (by decide)) my_X8_want mv_X8_want ca_1 rfl rfl lm_X10_38 rfl (by omega) (Nat.le_of_ble_eq_true rfl) hm dX10_readUnit_80 ?_
            generalize hss11_ : t_wn (I 2) (I 1 1) 41 s10_ = s11_
            have hos11_ : t_ok (I 1 1) s11_ := hss11_ ▸ t_wn_ok hos10_ hn (by decide)
            refine g_goto (tgt := 93) hc dX10_readUnit_83 (by decide) ?_
            refine g_vret hc hm dX10_readUnit_93 ?_
            exact ⟨rfl, rfl, by unfold t_unk t_unit; first | (rw [if_pos ⟨by omega, by omega⟩]; subst_vars; rfl) | (rw [if_neg (by omega), if_pos ⟨by omega, by omega⟩]; subst_vars; rfl) | (rw [if_neg (by omega), if_neg (by omega)]; subst_vars; rfl), rfl, rfl⟩
    · skip
      have hlt : s1_.1 < I 1 1 := by subst_vars; exact t_sg_in hos (by omega)
      refine g_aldn hc dX10_readUnit_20 rfl ?_
      refine g_iload_n hc dX10_readUnit_21 rfl ?_
      refine g_V1r hc (s_goes1 w hR hI hn hB ht hos1_ (by omega) (by omega) hlt) my_X10_goesIn mv_X10_goesIn ca_547 rfl rfl lm_X10_65 rfl (by omega) (Nat.le_of_ble_eq_true rfl) hm dX10_readUnit_22 ?_
      generalize hss12_ : t_adv s1_ = s12_
      have hos12_ : t_ok (I 1 1) s12_ := hss12_ ▸ t_adv_ok hos1_ hlt
      refine g_if_eq (tgt := 93) hc dX10_readUnit_25 (by decide) (show g32 _ from ⟨by decide, by decide⟩) (fun c9 => ?_) (fun c9 => ?_)
      · exfalso; omega
      · skip
        refine g_aldn hc dX10_readUnit_28 rfl ?_
        refine g_aldn hc dX10_readUnit_29 rfl ?_
        refine g_iload_n hc dX10_readUnit_30 rfl ?_
        refine g_iconst hc dX10_readUnit_31 ?_
        refine g_iadd hc dX10_readUnit_32 ?_
        refine g_iconst hc dX10_readUnit_33 ?_
        refine g_V3v hc (hU hR hI hn hB ht hos12_ (by omega) (by decide)) my_X10_readUnit mv_X10_readUnit ca_547 rfl rfl lm_X10_62 rfl (by omega) (Nat.le_of_ble_eq_true rfl) hm dX10_readUnit_34 ?_
        generalize hss13_ : t_unk (I 2) (I 1 1) k 0 s12_ = s13_
        have hos13_ : t_ok (I 1 1) s13_ := hss13_ ▸ t_unk_ok hn k 0 _ hos12_
        refine g_aldn hc dX10_readUnit_37 rfl ?_
        refine g_bipush hc dX10_readUnit_38 (by decide +kernel) ?_
        refine g_V1v hc (s_put w hR hI hn ht hos13_ (by first | exact hI _ _ | exact hxI2 _ _ | exact hIa _ _ | exact hIb _ _ | exact g_b32 | exact g_and32 | assumption | exact ⟨by omega, by omega⟩)) my_X9_put mv_X9_put (ta_0 ht) rfl rfl lm_X10_56 rfl (by omega) (Nat.le_of_ble_eq_true rfl) hm dX10_readUnit_40 ?_
        generalize hss14_ : t_put (-33) s13_ = s14_
        have hos14_ : t_ok (I 1 1) s14_ := hss14_ ▸ t_put_ok hos13_ (by first | exact hI _ _ | exact hxI2 _ _ | exact hIa _ _ | exact hIb _ _ | exact g_b32 | exact g_and32 | assumption | exact ⟨by omega, by omega⟩)
        refine g_goto (tgt := 93) hc dX10_readUnit_43 (by decide) ?_
        refine g_vret hc hm dX10_readUnit_93 ?_
        exact ⟨rfl, rfl, by unfold t_unk t_unit; first | (rw [if_pos ⟨by omega, by omega⟩]; subst_vars; rfl) | (rw [if_neg (by omega), if_pos ⟨by omega, by omega⟩]; subst_vars; rfl) | (rw [if_neg (by omega), if_neg (by omega)]; subst_vars; rfl), rfl, rfl⟩
set_option maxHeartbeats 4000000 in
set_option maxRecDepth 100000 in
/-- X10_readTruth -/
theorem s_truth (w : g_W) {I : g_I} {J : g_J} {R : g_R} {lb tx : Nat} (hR : g_rf w R lb tx) (hI : ∀ k j, g32 (I k j)) (hn : I 1 1 ≤ 240) (hB : ∀ j, 0 ≤ I 2 j ∧ I 2 j ≤ 255) {t : Nat} (ht : g_taste t) {s : g_S} (hos : t_ok (I 1 1) s) {k : Nat} {d : Int} (hd : d = 6 - (k : Int)) (hk : k ≤ 6) {e : Int} (he : e = 0 ∨ e = 1) (hU : C_uni w k) : g_Met w g_n (t_M I t s) J R yX10_readTruth cX10_readTruth 5 none (11 + 3 * k) 0 0 [(gvr w 547), (gvr w t), (gvI d), (gvI e)] (g_post none g_n (t_M I t (t_trk (I 2) (I 1 1) k e s)) J R) := by
  refine g_intro (own := RX10) [some (gvr w 547), some (gvr w t), some (gvI d), some (gvI e), none] (by decide +kernel) rfl (by decide) (Nat.le_of_ble_eq_true rfl) rfl (fun i v hv => g_args 1 i v hv rfl) (fun x hc hm => ?_)
  refine g_aldn hc dX10_readTruth_0 rfl ?_
  refine g_aldn hc dX10_readTruth_1 rfl ?_
  refine g_iload_n hc dX10_readTruth_2 rfl ?_
  refine g_iload_n hc dX10_readTruth_3 rfl ?_
  refine g_V3v hc (hU hR hI hn hB ht hos (by omega) (by omega)) my_X10_readUnit mv_X10_readUnit ca_547 rfl rfl lm_X10_62 rfl (by omega) (Nat.le_of_ble_eq_true rfl) hm dX10_readTruth_4 ?_
  generalize hss1_ : t_unk (I 2) (I 1 1) k e s = s1_
  have hos1_ : t_ok (I 1 1) s1_ := hss1_ ▸ t_unk_ok hn k _ _ hos
  refine g_iconst hc dX10_readTruth_7 ?_
  refine g_istore_4 hc dX10_readTruth_8 rfl ?_
  have lp_10 : ∀ (fu : Nat) (i : Int) (sm : g_S), 0 ≤ i ∧ i ≤ 240 → t_trk (I 2) (I 1 1) k e s = t_lq (I 2) (I 1 1) 38 (t_unk (I 2) (I 1 1) k 0) (240 - i).toNat sm → t_ok (I 1 1) sm → 240 - i < (fu : Int) → G w x (g_post none g_n (t_M I t (t_trk (I 2) (I 1 1) k e s)) J R) 0 0 g_n (t_M I t sm) J R 10 [some (gvr w 547), some (gvr w t), some (gvI d), some (gvI e), some (gvI i)] [] := by
    intro fu
    induction fu with
    | zero => intro i sm h3 h4 hosm hfu; exfalso; omega
    | succ fu ih =>
      intro i sm h3 h4 hosm hfu
      have ih_10 := ih
      refine g_iload hc dX10_readTruth_10 rfl ?_
      refine g_sipush hc dX10_readTruth_12 (by decide +kernel) ?_
      refine g_icmp_ge (tgt := 49) hc dX10_readTruth_15 (by decide) (by first | exact hI _ _ | exact hxI2 _ _ | exact hIa _ _ | exact hIb _ _ | exact g_b32 | exact g_and32 | assumption | exact ⟨by omega, by omega⟩) (by first | exact hI _ _ | exact hxI2 _ _ | exact hIa _ _ | exact hIb _ _ | exact g_b32 | exact g_and32 | assumption | exact ⟨by omega, by omega⟩) (fun c1 => ?_) (fun c1 => ?_)
      · skip
        refine g_vret hc hm dX10_readTruth_49 ?_
        first | (exfalso; omega) | exact ⟨rfl, rfl, by rw [h4, show (240 - i).toNat = 0 by omega, t_lq], rfl, rfl⟩ | exact ⟨rfl, rfl, by rw [h4, show (240 - i).toNat = (240 - (i + 1)).toNat + 1 by omega, t_lq, if_neg (by assumption)]; subst_vars; rfl, rfl, rfl⟩
      · skip
        refine g_aldn hc dX10_readTruth_18 rfl ?_
        refine g_getRk hc lk_X10_9 ca_547 (rc_547_0 hR) dX10_readTruth_19 ?_
        refine g_bipush hc dX10_readTruth_22 (by decide +kernel) ?_
        refine g_V1r hc (s_takes w hR hI hn ht hosm (by exact ⟨by decide, by decide⟩)) my_X8_takes mv_X8_takes ca_1 rfl rfl lm_X10_30 rfl (by omega) (Nat.le_of_ble_eq_true rfl) hm dX10_readTruth_24 ?_
        generalize hss2_ : t_tk (I 2) (I 1 1) 38 sm = s2_
        have hos2_ : t_ok (I 1 1) s2_ := hss2_ ▸ t_tk_ok hosm (by decide)
        refine g_ifb_eq (tgt := 49) hc dX10_readTruth_27 (by decide)  (fun c2 => ?_) (fun c2 => ?_)
        · skip
          refine g_vret hc hm dX10_readTruth_49 ?_
          first | (exfalso; omega) | exact ⟨rfl, rfl, by rw [h4, show (240 - i).toNat = 0 by omega, t_lq], rfl, rfl⟩ | exact ⟨rfl, rfl, by rw [h4, show (240 - i).toNat = (240 - (i + 1)).toNat + 1 by omega, t_lq, if_neg (by assumption)]; subst_vars; rfl, rfl, rfl⟩
        · skip
          refine g_aldn hc dX10_readTruth_30 rfl ?_
          refine g_aldn hc dX10_readTruth_31 rfl ?_
          refine g_iload_n hc dX10_readTruth_32 rfl ?_
          refine g_iconst hc dX10_readTruth_33 ?_
          refine g_V3v hc (hU hR hI hn hB ht hos2_ (by omega) (by omega)) my_X10_readUnit mv_X10_readUnit ca_547 rfl rfl lm_X10_62 rfl (by omega) (Nat.le_of_ble_eq_true rfl) hm dX10_readTruth_34 ?_
          generalize hss3_ : t_unk (I 2) (I 1 1) k 0 s2_ = s3_
          have hos3_ : t_ok (I 1 1) s3_ := hss3_ ▸ t_unk_ok hn k _ _ hos2_
          refine g_aldn hc dX10_readTruth_37 rfl ?_
          refine g_bipush hc dX10_readTruth_38 (by decide +kernel) ?_
          refine g_V1v hc (s_put w hR hI hn ht hos3_ (by first | exact hI _ _ | exact hxI2 _ _ | exact hIa _ _ | exact hIb _ _ | exact g_b32 | exact g_and32 | assumption | exact ⟨by omega, by omega⟩)) my_X9_put mv_X9_put (ta_0 ht) rfl rfl lm_X10_56 rfl (by omega) (Nat.le_of_ble_eq_true rfl) hm dX10_readTruth_40 ?_
          generalize hss4_ : t_put (-38) s3_ = s4_
          have hos4_ : t_ok (I 1 1) s4_ := hss4_ ▸ t_put_ok hos3_ (by first | exact hI _ _ | exact hxI2 _ _ | exact hIa _ _ | exact hIb _ _ | exact g_b32 | exact g_and32 | assumption | exact ⟨by omega, by omega⟩)
          refine g_iinc_4 hc dX10_readTruth_43 rfl ?_
          refine g_goto (tgt := 10) hc dX10_readTruth_46 (by decide) ?_
          refine ih_10 _ _ ?_ ?_ ?_ ?_
          · omega
          · rw [h4, show (240 - i).toNat = (240 - (i + 1)).toNat + 1 by omega, t_lq, if_pos (by assumption)]; subst_vars; rfl
          · exact hos4_
          · omega
  refine lp_10 241 _ _ ?_ ?_ ?_ (?_)
  · omega
  · subst_vars; rw [Int.sub_zero]; rfl
  · exact hos1_
  · omega
set_option maxHeartbeats 4000000 in
set_option maxRecDepth 100000 in
/-- X10_readCondition -/
theorem s_cond (w : g_W) {I : g_I} {J : g_J} {R : g_R} {lb tx : Nat} (hR : g_rf w R lb tx) (hI : ∀ k j, g32 (I k j)) (hn : I 1 1 ≤ 240) (hB : ∀ j, 0 ≤ I 2 j ∧ I 2 j ≤ 255) {t : Nat} (ht : g_taste t) {s : g_S} (hos : t_ok (I 1 1) s) {k : Nat} {d : Int} (hd : d = 6 - (k : Int)) (hk : k ≤ 6) {e : Int} (he : e = 0 ∨ e = 1) (hT : C_tru w k) : g_Met w g_n (t_M I t s) J R yX10_readCondition cX10_readCondition 5 none (12 + 3 * k) 0 0 [(gvr w 547), (gvr w t), (gvI d), (gvI e)] (g_post none g_n (t_M I t (t_cok (I 2) (I 1 1) k e s)) J R) := by
  refine g_intro (own := RX10) [some (gvr w 547), some (gvr w t), some (gvI d), some (gvI e), none] (by decide +kernel) rfl (by decide) (Nat.le_of_ble_eq_true rfl) rfl (fun i v hv => g_args 1 i v hv rfl) (fun x hc hm => ?_)
  refine g_aldn hc dX10_readCondition_0 rfl ?_
  refine g_aldn hc dX10_readCondition_1 rfl ?_
  refine g_iload_n hc dX10_readCondition_2 rfl ?_
  refine g_iload_n hc dX10_readCondition_3 rfl ?_
  refine g_V3v hc (hT hR hI hn hB ht hos (by omega) (by omega)) my_X10_readTruth mv_X10_readTruth ca_547 rfl rfl lm_X10_59 rfl (by omega) (Nat.le_of_ble_eq_true rfl) hm dX10_readCondition_4 ?_
  generalize hss1_ : t_trk (I 2) (I 1 1) k e s = s1_
  have hos1_ : t_ok (I 1 1) s1_ := hss1_ ▸ t_trk_ok hn hos
  refine g_iconst hc dX10_readCondition_7 ?_
  refine g_istore_4 hc dX10_readCondition_8 rfl ?_
  have lp_10 : ∀ (fu : Nat) (i : Int) (sm : g_S), 0 ≤ i ∧ i ≤ 240 → t_cok (I 2) (I 1 1) k e s = t_lq (I 2) (I 1 1) 124 (t_trk (I 2) (I 1 1) k 0) (240 - i).toNat sm → t_ok (I 1 1) sm → 240 - i < (fu : Int) → G w x (g_post none g_n (t_M I t (t_cok (I 2) (I 1 1) k e s)) J R) 0 0 g_n (t_M I t sm) J R 10 [some (gvr w 547), some (gvr w t), some (gvI d), some (gvI e), some (gvI i)] [] := by
    intro fu
    induction fu with
    | zero => intro i sm h3 h4 hosm hfu; exfalso; omega
    | succ fu ih =>
      intro i sm h3 h4 hosm hfu
      have ih_10 := ih
      refine g_iload hc dX10_readCondition_10 rfl ?_
      refine g_sipush hc dX10_readCondition_12 (by decide +kernel) ?_
      refine g_icmp_ge (tgt := 49) hc dX10_readCondition_15 (by decide) (by first | exact hI _ _ | exact hxI2 _ _ | exact hIa _ _ | exact hIb _ _ | exact g_b32 | exact g_and32 | assumption | exact ⟨by omega, by omega⟩) (by first | exact hI _ _ | exact hxI2 _ _ | exact hIa _ _ | exact hIb _ _ | exact g_b32 | exact g_and32 | assumption | exact ⟨by omega, by omega⟩) (fun c1 => ?_) (fun c1 => ?_)
      · skip
        refine g_vret hc hm dX10_readCondition_49 ?_
        first | (exfalso; omega) | exact ⟨rfl, rfl, by rw [h4, show (240 - i).toNat = 0 by omega, t_lq], rfl, rfl⟩ | exact ⟨rfl, rfl, by rw [h4, show (240 - i).toNat = (240 - (i + 1)).toNat + 1 by omega, t_lq, if_neg (by assumption)]; subst_vars; rfl, rfl, rfl⟩
      · skip
        refine g_aldn hc dX10_readCondition_18 rfl ?_
        refine g_getRk hc lk_X10_9 ca_547 (rc_547_0 hR) dX10_readCondition_19 ?_
        refine g_bipush hc dX10_readCondition_22 (by decide +kernel) ?_
        refine g_V1r hc (s_takes w hR hI hn ht hosm (by exact ⟨by decide, by decide⟩)) my_X8_takes mv_X8_takes ca_1 rfl rfl lm_X10_30 rfl (by omega) (Nat.le_of_ble_eq_true rfl) hm dX10_readCondition_24 ?_
        generalize hss2_ : t_tk (I 2) (I 1 1) 124 sm = s2_
        have hos2_ : t_ok (I 1 1) s2_ := hss2_ ▸ t_tk_ok hosm (by decide)
        refine g_ifb_eq (tgt := 49) hc dX10_readCondition_27 (by decide)  (fun c2 => ?_) (fun c2 => ?_)
        · skip
          refine g_vret hc hm dX10_readCondition_49 ?_
          first | (exfalso; omega) | exact ⟨rfl, rfl, by rw [h4, show (240 - i).toNat = 0 by omega, t_lq], rfl, rfl⟩ | exact ⟨rfl, rfl, by rw [h4, show (240 - i).toNat = (240 - (i + 1)).toNat + 1 by omega, t_lq, if_neg (by assumption)]; subst_vars; rfl, rfl, rfl⟩
        · skip
          refine g_aldn hc dX10_readCondition_30 rfl ?_
          refine g_aldn hc dX10_readCondition_31 rfl ?_
          refine g_iload_n hc dX10_readCondition_32 rfl ?_
          refine g_iconst hc dX10_readCondition_33 ?_
          refine g_V3v hc (hT hR hI hn hB ht hos2_ (by omega) (by omega)) my_X10_readTruth mv_X10_readTruth ca_547 rfl rfl lm_X10_59 rfl (by omega) (Nat.le_of_ble_eq_true rfl) hm dX10_readCondition_34 ?_
          generalize hss3_ : t_trk (I 2) (I 1 1) k 0 s2_ = s3_
          have hos3_ : t_ok (I 1 1) s3_ := hss3_ ▸ t_trk_ok hn hos2_
          refine g_aldn hc dX10_readCondition_37 rfl ?_
          refine g_bipush hc dX10_readCondition_38 (by decide +kernel) ?_
          refine g_V1v hc (s_put w hR hI hn ht hos3_ (by first | exact hI _ _ | exact hxI2 _ _ | exact hIa _ _ | exact hIb _ _ | exact g_b32 | exact g_and32 | assumption | exact ⟨by omega, by omega⟩)) my_X9_put mv_X9_put (ta_0 ht) rfl rfl lm_X10_56 rfl (by omega) (Nat.le_of_ble_eq_true rfl) hm dX10_readCondition_40 ?_
          generalize hss4_ : t_put (-124) s3_ = s4_
          have hos4_ : t_ok (I 1 1) s4_ := hss4_ ▸ t_put_ok hos3_ (by first | exact hI _ _ | exact hxI2 _ _ | exact hIa _ _ | exact hIb _ _ | exact g_b32 | exact g_and32 | assumption | exact ⟨by omega, by omega⟩)
          refine g_iinc_4 hc dX10_readCondition_43 rfl ?_
          refine g_goto (tgt := 10) hc dX10_readCondition_46 (by decide) ?_
          refine ih_10 _ _ ?_ ?_ ?_ ?_
          · omega
          · rw [h4, show (240 - i).toNat = (240 - (i + 1)).toNat + 1 by omega, t_lq, if_pos (by assumption)]; subst_vars; rfl
          · exact hos4_
          · omega
  refine lp_10 241 _ _ ?_ ?_ ?_ (?_)
  · omega
  · subst_vars; rw [Int.sub_zero]; rfl
  · exact hos1_
  · omega
theorem k_tru {w : g_W} {k : Nat} (hk : k ≤ 6) (h : C_uni w k) : C_tru w k := by
  intro I J R lb tx hR hI hn hB t ht s hos d hd e he
  exact s_truth w hR hI hn hB ht hos hd hk he h
theorem k_con {w : g_W} {k : Nat} (hk : k ≤ 6) (h : C_tru w k) : C_con w k := by
  intro I J R lb tx hR hI hn hB t ht s hos d hd e he
  exact s_cond w hR hI hn hB ht hos hd hk he h
theorem k_uni0 (w : g_W) : C_uni w 0 := by
  intro I J R lb tx hR hI hn hB t ht s hos d hd e he
  exact s_uni0 w hR hI hn hB ht hos (by omega) he
theorem k_uniS {w : g_W} {k : Nat} (hk : k < 6) (h : C_uni w k) (h2 : C_con w k) : C_uni w (k + 1) := by
  intro I J R lb tx hR hI hn hB t ht s hos d hd e he
  exact s_uniS w hR hI hn hB ht hos hd hk he h h2
theorem k_uni (w : g_W) (k : Nat) (hk : k ≤ 6) : C_uni w k := by
  induction k with
  | zero => exact k_uni0 w
  | succ k ih => exact k_uniS (by omega) (ih (by omega)) (k_con (by omega) (k_tru (by omega) (ih (by omega))))
theorem k_cok (w : g_W) {k : Nat} (hk : k ≤ 6) : C_con w k := k_con hk (k_tru hk (k_uni w k hk))
