set_option maxHeartbeats 4000000 in
set_option maxRecDepth 100000 in
/-- X8_sign -/
theorem c_X8_sign (w : g_W) {I : g_I} {J : g_J} {R : g_R} {lb tx : Nat} (hR : g_rf w R lb tx) (hI : ∀ k j, g32 (I k j)) {a q : Int} (ha : 0 ≤ a ∧ a ≤ I 1 1) (hn : I 1 1 ≤ 240) (hq : -1 ≤ q ∧ q ≤ 240)  : g_Met w g_n (g_ts I a q) J R yX8_sign cX8_sign 1 (some .int) 0 0 0 [(gvr w 1)] (g_post (some (gvI (g_sgn (I 2) (I 1 1) a))) g_n (g_ts I (g_pos (I 2) (I 1 1) a) q) J R) := by
  refine g_intro (own := RX8) [some (gvr w 1)] (by decide +kernel) rfl (by decide) (Nat.le_of_ble_eq_true rfl) rfl (fun i v hv => g_args 0 i v hv rfl) (fun x hc hm => ?_)
  have hIa := g_ts32 (a := a) (q := q) hI ⟨by omega, by omega⟩ ⟨by omega, by omega⟩
  have lp_0 : ∀ (fu : Nat) (e : Int), 0 ≤ e → e ≤ I 1 1 → g_pos (I 2) (I 1 1) a = g_pos (I 2) (I 1 1) e → I 1 1 - e < (fu : Int) → G w x (g_post (some (gvI (g_sgn (I 2) (I 1 1) a))) g_n (g_ts I (g_pos (I 2) (I 1 1) a) q) J R) 0 0 g_n (g_ts I e q) J R 0 [some (gvr w 1)] [] := by
    intro fu
    induction fu with
    | zero => intro e h3 h4 h5 hfu; exfalso; omega
    | succ fu ih =>
      intro e h3 h4 h5 hfu
      have ih_0 := ih
      refine g_aldn hc dX8_sign_0 rfl ?_
      refine g_getIe hc lk_X8_19 ca_1 2 rfl g_ts_a dX8_sign_1 ?_
      refine g_aldn hc dX8_sign_4 rfl ?_
      refine g_getIe hc lk_X8_15 ca_1 1 rfl g_ts_n dX8_sign_5 ?_
      refine g_icmp_ge (tgt := 38) hc dX8_sign_8 (by decide) (by first | exact hI _ _ | exact hxI2 _ _ | exact hIa _ _ | exact hIb _ _ | exact g_b32 | exact g_and32 | assumption | exact ⟨by omega, by omega⟩) (by first | exact hI _ _ | exact hxI2 _ _ | exact hIa _ _ | exact hIb _ _ | exact g_b32 | exact g_and32 | assumption | exact ⟨by omega, by omega⟩) (fun c1 => ?_) (fun c1 => ?_)
      · skip
        have hd : g_pos (I 2) (I 1 1) a = e := by first | rw [h5, g_pos_n (by omega) (by assumption)] | rw [h5, g_pos_e (by omega)]
        refine g_aldn hc dX8_sign_38 rfl ?_
        refine g_getIe hc lk_X8_19 ca_1 2 rfl g_ts_a dX8_sign_39 ?_
        refine g_aldn hc dX8_sign_42 rfl ?_
        refine g_getIe hc lk_X8_15 ca_1 1 rfl g_ts_n dX8_sign_43 ?_
        refine g_icmp_ge (tgt := 61) hc dX8_sign_46 (by decide) (by first | exact hI _ _ | exact hxI2 _ _ | exact hIa _ _ | exact hIb _ _ | exact g_b32 | exact g_and32 | assumption | exact ⟨by omega, by omega⟩) (by first | exact hI _ _ | exact hxI2 _ _ | exact hIa _ _ | exact hIb _ _ | exact g_b32 | exact g_and32 | assumption | exact ⟨by omega, by omega⟩) (fun c2 => ?_) (fun c2 => ?_)
        · skip
          refine g_iconst hc dX8_sign_61 ?_
          refine g_iret hc hm dX8_sign_62 ?_
          first | (exfalso; omega) | exact ⟨by rw [g_sgn, hd, if_pos (by omega)], rfl, by rw [hd], rfl, rfl⟩ | exact ⟨by rw [g_sgn, hd, if_neg (by omega)], rfl, by rw [hd], rfl, rfl⟩ | (exfalso; omega)
        · skip
          refine g_aldn hc dX8_sign_49 rfl ?_
          refine g_getRk hc lk_X8_9 ca_1 (rc_1_0 hR) dX8_sign_50 ?_
          refine g_aldn hc dX8_sign_53 rfl ?_
          refine g_getIe hc lk_X8_19 ca_1 2 rfl g_ts_a dX8_sign_54 ?_
          refine g_ialde hc ca_2 (by decide) (by omega) (by omega) (g_ts_k (by decide)) dX8_sign_57 ?_
          refine g_goto (tgt := 62) hc dX8_sign_58 (by decide) ?_
          refine g_iret hc hm dX8_sign_62 ?_
          first | (exfalso; omega) | exact ⟨by rw [g_sgn, hd, if_pos (by omega)], rfl, by rw [hd], rfl, rfl⟩ | exact ⟨by rw [g_sgn, hd, if_neg (by omega)], rfl, by rw [hd], rfl, rfl⟩ | (exfalso; omega)
      · skip
        refine g_aldn hc dX8_sign_11 rfl ?_
        refine g_getRk hc lk_X8_9 ca_1 (rc_1_0 hR) dX8_sign_12 ?_
        refine g_aldn hc dX8_sign_15 rfl ?_
        refine g_getIe hc lk_X8_19 ca_1 2 rfl g_ts_a dX8_sign_16 ?_
        refine g_ialde hc ca_2 (by decide) (by omega) (by omega) (g_ts_k (by decide)) dX8_sign_19 ?_
        refine g_bipush hc dX8_sign_20 (by decide +kernel) ?_
        refine g_icmp_ne (tgt := 38) hc dX8_sign_22 (by decide) (by first | exact hI _ _ | exact hxI2 _ _ | exact hIa _ _ | exact hIb _ _ | exact g_b32 | exact g_and32 | assumption | exact ⟨by omega, by omega⟩) (by first | exact hI _ _ | exact hxI2 _ _ | exact hIa _ _ | exact hIb _ _ | exact g_b32 | exact g_and32 | assumption | exact ⟨by omega, by omega⟩) (fun c3 => ?_) (fun c3 => ?_)
        · skip
          have hd : g_pos (I 2) (I 1 1) a = e := by first | rw [h5, g_pos_n (by omega) (by assumption)] | rw [h5, g_pos_e (by omega)]
          refine g_aldn hc dX8_sign_38 rfl ?_
          refine g_getIe hc lk_X8_19 ca_1 2 rfl g_ts_a dX8_sign_39 ?_
          refine g_aldn hc dX8_sign_42 rfl ?_
          refine g_getIe hc lk_X8_15 ca_1 1 rfl g_ts_n dX8_sign_43 ?_
          refine g_icmp_ge (tgt := 61) hc dX8_sign_46 (by decide) (by first | exact hI _ _ | exact hxI2 _ _ | exact hIa _ _ | exact hIb _ _ | exact g_b32 | exact g_and32 | assumption | exact ⟨by omega, by omega⟩) (by first | exact hI _ _ | exact hxI2 _ _ | exact hIa _ _ | exact hIb _ _ | exact g_b32 | exact g_and32 | assumption | exact ⟨by omega, by omega⟩) (fun c4 => ?_) (fun c4 => ?_)
          · skip
            refine g_iconst hc dX8_sign_61 ?_
            refine g_iret hc hm dX8_sign_62 ?_
            first | (exfalso; omega) | exact ⟨by rw [g_sgn, hd, if_pos (by omega)], rfl, by rw [hd], rfl, rfl⟩ | exact ⟨by rw [g_sgn, hd, if_neg (by omega)], rfl, by rw [hd], rfl, rfl⟩ | (exfalso; omega)
          · skip
            refine g_aldn hc dX8_sign_49 rfl ?_
            refine g_getRk hc lk_X8_9 ca_1 (rc_1_0 hR) dX8_sign_50 ?_
            refine g_aldn hc dX8_sign_53 rfl ?_
            refine g_getIe hc lk_X8_19 ca_1 2 rfl g_ts_a dX8_sign_54 ?_
            refine g_ialde hc ca_2 (by decide) (by omega) (by omega) (g_ts_k (by decide)) dX8_sign_57 ?_
            refine g_goto (tgt := 62) hc dX8_sign_58 (by decide) ?_
            refine g_iret hc hm dX8_sign_62 ?_
            first | (exfalso; omega) | exact ⟨by rw [g_sgn, hd, if_pos (by omega)], rfl, by rw [hd], rfl, rfl⟩ | exact ⟨by rw [g_sgn, hd, if_neg (by omega)], rfl, by rw [hd], rfl, rfl⟩ | (exfalso; omega)
        · skip
          refine g_aldn hc dX8_sign_25 rfl ?_
          refine g_dup hc dX8_sign_26 rfl ?_
          refine g_getIe hc lk_X8_19 ca_1 2 rfl g_ts_a dX8_sign_27 ?_
          refine g_iconst hc dX8_sign_30 ?_
          refine g_iadd hc dX8_sign_31 ?_
          refine g_putIe (I2 := (g_ts I (e + 1) q)) hc lk_X8_19 ca_1 2 rfl g_ts_pa dX8_sign_32 ?_
          refine g_goto (tgt := 0) hc dX8_sign_35 (by decide) ?_
          refine ih_0 _ ?_ ?_ ?_ ?_
          · omega
          · omega
          · rw [h5, g_pos_b (by omega) (by assumption)]
          · omega
  refine lp_0 (I 1 1 - a + 1).toNat _ ?_ ?_ ?_ (?_)
  · omega
  · omega
  · rfl
  · omega
set_option maxHeartbeats 4000000 in
set_option maxRecDepth 100000 in
/-- X8_failAt -/
theorem c_X8_failAt (w : g_W) {I : g_I} {J : g_J} {R : g_R} {lb tx : Nat} (hR : g_rf w R lb tx) (hI : ∀ k j, g32 (I k j)) {a q : Int} (ha : 0 ≤ a ∧ a ≤ I 1 1) (hn : I 1 1 ≤ 240) (hq : -1 ≤ q ∧ q ≤ 240) {p : Int} (hp : 0 ≤ p ∧ p ≤ 240) : g_Met w g_n (g_ts I a q) J R yX8_failAt cX8_failAt 2 none 0 0 0 [(gvr w 1), (gvI p)] (g_post none g_n (g_ts I (I 1 1) (g_q1 q p)) J R) := by
  refine g_intro (own := RX8) [some (gvr w 1), some (gvI p)] (by decide +kernel) rfl (by decide) (Nat.le_of_ble_eq_true rfl) rfl (fun i v hv => g_args 0 i v hv rfl) (fun x hc hm => ?_)
  have hIa := g_ts32 (a := a) (q := q) hI ⟨by omega, by omega⟩ ⟨by omega, by omega⟩
  refine g_aldn hc dX8_failAt_0 rfl ?_
  refine g_getIe hc lk_X8_22 ca_1 3 rfl g_ts_q dX8_failAt_1 ?_
  refine g_iconst hc dX8_failAt_4 ?_
  refine g_icmp_ne (tgt := 13) hc dX8_failAt_5 (by decide) (by first | exact hI _ _ | exact hxI2 _ _ | exact hIa _ _ | exact hIb _ _ | exact g_b32 | exact g_and32 | assumption | exact ⟨by omega, by omega⟩) (by first | exact hI _ _ | exact hxI2 _ _ | exact hIa _ _ | exact hIb _ _ | exact g_b32 | exact g_and32 | assumption | exact ⟨by omega, by omega⟩) (fun c1 => ?_) (fun c1 => ?_)
  · skip
    refine g_aldn hc dX8_failAt_13 rfl ?_
    refine g_aldn hc dX8_failAt_14 rfl ?_
    refine g_getIe hc lk_X8_15 ca_1 1 rfl g_ts_n dX8_failAt_15 ?_
    refine g_putIe (I2 := (g_ts I (I 1 1) q)) hc lk_X8_19 ca_1 2 rfl g_ts_pa dX8_failAt_18 ?_
    refine g_vret hc hm dX8_failAt_21 ?_
    first | (exfalso; omega) | exact ⟨rfl, rfl, by rw [g_q1, if_pos (by assumption)], rfl, rfl⟩ | exact ⟨rfl, rfl, by rw [g_q1, if_neg (by assumption)], rfl, rfl⟩
  · skip
    refine g_aldn hc dX8_failAt_8 rfl ?_
    refine g_iload_n hc dX8_failAt_9 rfl ?_
    refine g_putIe (I2 := (g_ts I a p)) hc lk_X8_22 ca_1 3 rfl g_ts_pq dX8_failAt_10 ?_
    refine g_aldn hc dX8_failAt_13 rfl ?_
    refine g_aldn hc dX8_failAt_14 rfl ?_
    refine g_getIe hc lk_X8_15 ca_1 1 rfl g_ts_n dX8_failAt_15 ?_
    refine g_putIe (I2 := (g_ts I (I 1 1) p)) hc lk_X8_19 ca_1 2 rfl g_ts_pa dX8_failAt_18 ?_
    refine g_vret hc hm dX8_failAt_21 ?_
    first | (exfalso; omega) | exact ⟨rfl, rfl, by rw [g_q1, if_pos (by assumption)], rfl, rfl⟩ | exact ⟨rfl, rfl, by rw [g_q1, if_neg (by assumption)], rfl, rfl⟩
set_option maxHeartbeats 4000000 in
set_option maxRecDepth 100000 in
/-- X8_takes -/
theorem c_X8_takes (w : g_W) {I : g_I} {J : g_J} {R : g_R} {lb tx : Nat} (hR : g_rf w R lb tx) (hI : ∀ k j, g32 (I k j)) {a q : Int} (ha : 0 ≤ a ∧ a ≤ I 1 1) (hn : I 1 1 ≤ 240) (hq : -1 ≤ q ∧ q ≤ 240) {c : Int} (h1 : g32 c) : g_Met w g_n (g_ts I a q) J R yX8_takes cX8_takes 2 (some .boolean) 1 0 0 [(gvr w 1), (gvI c)] (g_post (some (gvI (g_b (g_sgn (I 2) (I 1 1) a = c)))) g_n (g_ts I (if g_sgn (I 2) (I 1 1) a = c then g_pos (I 2) (I 1 1) a + 1 else g_pos (I 2) (I 1 1) a) q) J R) := by
  refine g_intro (own := RX8) [some (gvr w 1), some (gvI c)] (by decide +kernel) rfl (by decide) (Nat.le_of_ble_eq_true rfl) rfl (fun i v hv => g_args 0 i v hv rfl) (fun x hc hm => ?_)
  have hIa := g_ts32 (a := a) (q := q) hI ⟨by omega, by omega⟩ ⟨by omega, by omega⟩
  have h24 := hn
  refine g_aldn hc dX8_takes_0 rfl ?_
  refine g_V0r hc (c_X8_sign w (I := I) (a := a) (q := q) hR hI (by omega) (by omega) (by omega)) my_X8_sign mv_X8_sign ca_1 rfl rfl lm_X8_25 rfl (by decide) (Nat.le_of_ble_eq_true rfl) hm dX8_takes_1 ?_
  have hp1 := g_pos_in (B := I 2) (len := I 1 1) (a := a) (by omega)
  refine g_iload_n hc dX8_takes_4 rfl ?_
  refine g_icmp_eq (tgt := 10) hc dX8_takes_5 (by decide) (by unfold g_sgn; split <;> first | exact hI _ _ | exact ⟨by decide, by decide⟩) h1 (fun c1 => ?_) (fun c1 => ?_)
  · skip
    refine g_aldn hc dX8_takes_10 rfl ?_
    refine g_dup hc dX8_takes_11 rfl ?_
    refine g_getIe hc lk_X8_19 ca_1 2 rfl g_ts_a dX8_takes_12 ?_
    refine g_iconst hc dX8_takes_15 ?_
    refine g_iadd hc dX8_takes_16 ?_
    refine g_putIe (I2 := (g_ts I ((g_pos (I 2) (I 1 1) a) + 1) q)) hc lk_X8_19 ca_1 2 rfl g_ts_pa dX8_takes_17 ?_
    refine g_iconst hc dX8_takes_20 ?_
    refine g_zret hc hm (by first | exact g_b01 | omega) dX8_takes_21 ?_
    first | (exfalso; omega) | exact ⟨by rw [g_b1 (by assumption)], rfl, by rw [if_pos (by assumption)], rfl, rfl⟩ | exact ⟨by rw [g_b0 (by assumption)], rfl, by rw [if_neg (by assumption)], rfl, rfl⟩
  · skip
    refine g_iconst hc dX8_takes_8 ?_
    refine g_zret hc hm (by first | exact g_b01 | omega) dX8_takes_9 ?_
    first | (exfalso; omega) | exact ⟨by rw [g_b1 (by assumption)], rfl, by rw [if_pos (by assumption)], rfl, rfl⟩ | exact ⟨by rw [g_b0 (by assumption)], rfl, by rw [if_neg (by assumption)], rfl, rfl⟩
set_option maxHeartbeats 4000000 in
set_option maxRecDepth 100000 in
/-- X8_isDigit -/
theorem c_X8_isDigit (w : g_W) {I : g_I} {J : g_J} {R : g_R} {lb tx : Nat} (hR : g_rf w R lb tx) (hI : ∀ k j, g32 (I k j)) {a q : Int} (ha : 0 ≤ a ∧ a ≤ I 1 1) (hn : I 1 1 ≤ 240) (hq : -1 ≤ q ∧ q ≤ 240)  : g_Met w g_n (g_ts I a q) J R yX8_isDigit cX8_isDigit 1 (some .boolean) 0 0 0 [(gvr w 1)] (g_post (some (gvI (g_b (a < I 1 1 ∧ 48 ≤ I 2 a ∧ I 2 a ≤ 57)))) g_n (g_ts I a q) J R) := by
  refine g_intro (own := RX8) [some (gvr w 1)] (by decide +kernel) rfl (by decide) (Nat.le_of_ble_eq_true rfl) rfl (fun i v hv => g_args 0 i v hv rfl) (fun x hc hm => ?_)
  have hIa := g_ts32 (a := a) (q := q) hI ⟨by omega, by omega⟩ ⟨by omega, by omega⟩
  refine g_aldn hc dX8_isDigit_0 rfl ?_
  refine g_getIe hc lk_X8_19 ca_1 2 rfl g_ts_a dX8_isDigit_1 ?_
  refine g_aldn hc dX8_isDigit_4 rfl ?_
  refine g_getIe hc lk_X8_15 ca_1 1 rfl g_ts_n dX8_isDigit_5 ?_
  refine g_icmp_ge (tgt := 43) hc dX8_isDigit_8 (by decide) (by first | exact hI _ _ | exact hxI2 _ _ | exact hIa _ _ | exact hIb _ _ | exact g_b32 | exact g_and32 | assumption | exact ⟨by omega, by omega⟩) (by first | exact hI _ _ | exact hxI2 _ _ | exact hIa _ _ | exact hIb _ _ | exact g_b32 | exact g_and32 | assumption | exact ⟨by omega, by omega⟩) (fun c1 => ?_) (fun c1 => ?_)
  · skip
    refine g_iconst hc dX8_isDigit_43 ?_
    refine g_zret hc hm (by first | exact g_b01 | omega) dX8_isDigit_44 ?_
    first | (exfalso; omega) | exact ⟨rfl, rfl, rfl, rfl, rfl⟩ | exact ⟨by rw [g_b1 (by omega)], rfl, rfl, rfl, rfl⟩ | exact ⟨by rw [g_b0 (by omega)], rfl, rfl, rfl, rfl⟩
  · skip
    refine g_aldn hc dX8_isDigit_11 rfl ?_
    refine g_getRk hc lk_X8_9 ca_1 (rc_1_0 hR) dX8_isDigit_12 ?_
    refine g_aldn hc dX8_isDigit_15 rfl ?_
    refine g_getIe hc lk_X8_19 ca_1 2 rfl g_ts_a dX8_isDigit_16 ?_
    refine g_ialde hc ca_2 (by decide) (by omega) (by omega) (g_ts_k (by decide)) dX8_isDigit_19 ?_
    refine g_bipush hc dX8_isDigit_20 (by decide +kernel) ?_
    refine g_icmp_lt (tgt := 43) hc dX8_isDigit_22 (by decide) (by first | exact hI _ _ | exact hxI2 _ _ | exact hIa _ _ | exact hIb _ _ | exact g_b32 | exact g_and32 | assumption | exact ⟨by omega, by omega⟩) (by first | exact hI _ _ | exact hxI2 _ _ | exact hIa _ _ | exact hIb _ _ | exact g_b32 | exact g_and32 | assumption | exact ⟨by omega, by omega⟩) (fun c2 => ?_) (fun c2 => ?_)
    · skip
      refine g_iconst hc dX8_isDigit_43 ?_
      refine g_zret hc hm (by first | exact g_b01 | omega) dX8_isDigit_44 ?_
      first | (exfalso; omega) | exact ⟨rfl, rfl, rfl, rfl, rfl⟩ | exact ⟨by rw [g_b1 (by omega)], rfl, rfl, rfl, rfl⟩ | exact ⟨by rw [g_b0 (by omega)], rfl, rfl, rfl, rfl⟩
    · skip
      refine g_aldn hc dX8_isDigit_25 rfl ?_
      refine g_getRk hc lk_X8_9 ca_1 (rc_1_0 hR) dX8_isDigit_26 ?_
      refine g_aldn hc dX8_isDigit_29 rfl ?_
      refine g_getIe hc lk_X8_19 ca_1 2 rfl g_ts_a dX8_isDigit_30 ?_
      refine g_ialde hc ca_2 (by decide) (by omega) (by omega) (g_ts_k (by decide)) dX8_isDigit_33 ?_
      refine g_bipush hc dX8_isDigit_34 (by decide +kernel) ?_
      refine g_icmp_gt (tgt := 43) hc dX8_isDigit_36 (by decide) (by first | exact hI _ _ | exact hxI2 _ _ | exact hIa _ _ | exact hIb _ _ | exact g_b32 | exact g_and32 | assumption | exact ⟨by omega, by omega⟩) (by first | exact hI _ _ | exact hxI2 _ _ | exact hIa _ _ | exact hIb _ _ | exact g_b32 | exact g_and32 | assumption | exact ⟨by omega, by omega⟩) (fun c3 => ?_) (fun c3 => ?_)
      · skip
        refine g_iconst hc dX8_isDigit_43 ?_
        refine g_zret hc hm (by first | exact g_b01 | omega) dX8_isDigit_44 ?_
        first | (exfalso; omega) | exact ⟨rfl, rfl, rfl, rfl, rfl⟩ | exact ⟨by rw [g_b1 (by omega)], rfl, rfl, rfl, rfl⟩ | exact ⟨by rw [g_b0 (by omega)], rfl, rfl, rfl, rfl⟩
      · skip
        refine g_iconst hc dX8_isDigit_39 ?_
        refine g_goto (tgt := 44) hc dX8_isDigit_40 (by decide) ?_
        refine g_zret hc hm (by first | exact g_b01 | omega) dX8_isDigit_44 ?_
        first | (exfalso; omega) | exact ⟨rfl, rfl, rfl, rfl, rfl⟩ | exact ⟨by rw [g_b1 (by omega)], rfl, rfl, rfl, rfl⟩ | exact ⟨by rw [g_b0 (by omega)], rfl, rfl, rfl, rfl⟩
theorem g_tkin {B : Int → Int} {len a c : Int} (h : a ≤ len) (hc : c ≠ -1) : a ≤ (if g_sgn B len a = c then g_pos B len a + 1 else g_pos B len a) ∧ (if g_sgn B len a = c then g_pos B len a + 1 else g_pos B len a) ≤ len := by
  have h1 := g_pos_in (B := B) h
  split
  · rename_i e
    unfold g_sgn at e
    split at e
    · omega
    · exact absurd e.symm hc
  · exact h1
/-- a number with up to so many digits: what it is, how far one is then, the first fault -/
def g_numr (B : Int → Int) (n a q digits least most : Int) : Int × Int × Int :=
  if g_pos B n a < n ∧ 48 ≤ B (g_pos B n a) ∧ B (g_pos B n a) ≤ 57 then
    (if (g_dg B n digits.toNat (g_pos B n a) 0).2 < n ∧ 48 ≤ B (g_dg B n digits.toNat (g_pos B n a) 0).2 ∧ B (g_dg B n digits.toNat (g_pos B n a) 0).2 ≤ 57 then ((g_dg B n digits.toNat (g_pos B n a) 0).1, n, g_q1 q (g_dg B n digits.toNat (g_pos B n a) 0).2)
    else if (g_dg B n digits.toNat (g_pos B n a) 0).1 < least ∨ most < (g_dg B n digits.toNat (g_pos B n a) 0).1 then ((g_dg B n digits.toNat (g_pos B n a) 0).1, n, g_q1 q ((g_dg B n digits.toNat (g_pos B n a) 0).2 - 1))
    else ((g_dg B n digits.toNat (g_pos B n a) 0).1, (g_dg B n digits.toNat (g_pos B n a) 0).2, q))
  else (least, n, g_q1 q (g_pos B n a))
theorem g_numr_d {B : Int → Int} {n a q digits least most v e : Int} (h : g_pos B n a < n ∧ 48 ≤ B (g_pos B n a) ∧ B (g_pos B n a) ≤ 57) (hd : g_dg B n digits.toNat (g_pos B n a) 0 = (v, e)) :
    g_numr B n a q digits least most = if e < n ∧ 48 ≤ B e ∧ B e ≤ 57 then (v, n, g_q1 q e) else if v < least ∨ most < v then (v, n, g_q1 q (e - 1)) else (v, e, q) := by
  unfold g_numr
  rw [if_pos h, hd]
set_option maxHeartbeats 4000000 in
set_option maxRecDepth 100000 in
/-- X8_number -/
theorem c_X8_number (w : g_W) {I : g_I} {J : g_J} {R : g_R} {lb tx : Nat} (hR : g_rf w R lb tx) (hI : ∀ k j, g32 (I k j)) {a q : Int} (ha : 0 ≤ a ∧ a ≤ I 1 1) (hn : I 1 1 ≤ 240) (hq : -1 ≤ q ∧ q ≤ 240) {digits least most : Int} (h1 : 1 ≤ digits ∧ digits ≤ 4) (h2 : g32 least) (h6 : g32 most) : g_Met w g_n (g_ts I a q) J R yX8_number cX8_number 6 (some .int) 1 0 0 [(gvr w 1), (gvI digits), (gvI least), (gvI most)] (g_post (some (gvI ((g_numr (I 2) (I 1 1) a q digits least most).1))) g_n (g_ts I ((g_numr (I 2) (I 1 1) a q digits least most).2.1) ((g_numr (I 2) (I 1 1) a q digits least most).2.2)) J R) := by
  refine g_intro (own := RX8) [some (gvr w 1), some (gvI digits), some (gvI least), some (gvI most), none, none] (by decide +kernel) rfl (by decide) (Nat.le_of_ble_eq_true rfl) rfl (fun i v hv => g_args 2 i v hv rfl) (fun x hc hm => ?_)
  have hIa := g_ts32 (a := a) (q := q) hI ⟨by omega, by omega⟩ ⟨by omega, by omega⟩
  refine g_aldn hc dX8_number_0 rfl ?_
  refine g_V0r hc (c_X8_sign w (I := I) (a := a) (q := q) hR hI (by omega) (by omega) (by omega)) my_X8_sign mv_X8_sign ca_1 rfl rfl lm_X8_25 rfl (by decide) (Nat.le_of_ble_eq_true rfl) hm dX8_number_1 ?_
  have hp1 := g_pos_in (B := I 2) (len := I 1 1) (a := a) (by omega)
  refine g_pop hc dX8_number_4 rfl ?_
  refine g_aldn hc dX8_number_5 rfl ?_
  refine g_V0r hc (c_X8_isDigit w (I := I) (a := (g_pos (I 2) (I 1 1) a)) (q := q) hR hI (by omega) (by omega) (by omega)) my_X8_isDigit mv_X8_isDigit ca_1 rfl rfl lm_X8_33 rfl (by decide) (Nat.le_of_ble_eq_true rfl) hm dX8_number_6 ?_
  refine g_ifb_ne (tgt := 22) hc dX8_number_9 (by decide)  (fun c1 => ?_) (fun c1 => ?_)
  · skip
    have hdig : g_pos (I 2) (I 1 1) a < I 1 1 ∧ 48 ≤ I 2 (g_pos (I 2) (I 1 1) a) ∧ I 2 (g_pos (I 2) (I 1 1) a) ≤ 57 := by assumption
    refine g_iconst hc dX8_number_22 ?_
    refine g_istore_4 hc dX8_number_23 rfl ?_
    refine g_iconst hc dX8_number_25 ?_
    refine g_istore_5 hc dX8_number_26 rfl ?_
    have lp_28 : ∀ (fu : Nat) (v i e : Int), 0 ≤ i → i ≤ digits → (g_pos (I 2) (I 1 1) a + i = e ∧ e ≤ I 1 1) → ((i ≤ 0 → v ≤ 0) ∧ (i ≤ 1 → v ≤ 9) ∧ (i ≤ 2 → v ≤ 99) ∧ (i ≤ 3 → v ≤ 999) ∧ 0 ≤ v ∧ v ≤ 9999) → g_dg (I 2) (I 1 1) digits.toNat (g_pos (I 2) (I 1 1) a) 0 = g_dg (I 2) (I 1 1) (digits - i).toNat e v → digits - i < (fu : Int) → G w x (g_post (some (gvI ((g_numr (I 2) (I 1 1) a q digits least most).1))) g_n (g_ts I ((g_numr (I 2) (I 1 1) a q digits least most).2.1) ((g_numr (I 2) (I 1 1) a q digits least most).2.2)) J R) 0 0 g_n (g_ts I e q) J R 28 [some (gvr w 1), some (gvI digits), some (gvI least), some (gvI most), some (gvI v), some (gvI i)] [] := by
      intro fu
      induction fu with
      | zero => intro v i e h3 h4 h5 h7 h8 hfu; exfalso; omega
      | succ fu ih =>
        intro v i e h3 h4 h5 h7 h8 hfu
        have ih_28 := ih
        refine g_iload hc dX8_number_28 rfl ?_
        refine g_iload_n hc dX8_number_30 rfl ?_
        refine g_icmp_ge (tgt := 77) hc dX8_number_31 (by decide) (by first | exact hI _ _ | exact hxI2 _ _ | exact hIa _ _ | exact hIb _ _ | exact g_b32 | exact g_and32 | assumption | exact ⟨by omega, by omega⟩) (by first | exact hI _ _ | exact hxI2 _ _ | exact hIa _ _ | exact hIb _ _ | exact g_b32 | exact g_and32 | assumption | exact ⟨by omega, by omega⟩) (fun c2 => ?_) (fun c2 => ?_)
        · skip
          have hdone : g_dg (I 2) (I 1 1) digits.toNat (g_pos (I 2) (I 1 1) a) 0 = (v, e) := by first | (rw [h8, show (digits - i).toNat = 0 by omega, g_dg]) | (rw [h8, show (digits - i).toNat = (digits - (i + 1)).toNat + 1 by omega, g_dg, if_neg (by assumption)])
          refine g_aldn hc dX8_number_77 rfl ?_
          refine g_V0r hc (c_X8_isDigit w (I := I) (a := e) (q := q) hR hI (by omega) (by omega) (by omega)) my_X8_isDigit mv_X8_isDigit ca_1 rfl rfl lm_X8_33 rfl (by decide) (Nat.le_of_ble_eq_true rfl) hm dX8_number_78 ?_
          refine g_ifb_eq (tgt := 95) hc dX8_number_81 (by decide)  (fun c3 => ?_) (fun c3 => ?_)
          · skip
            refine g_iload hc dX8_number_95 rfl ?_
            refine g_iload_n hc dX8_number_97 rfl ?_
            refine g_icmp_lt (tgt := 107) hc dX8_number_98 (by decide) (by first | exact hI _ _ | exact hxI2 _ _ | exact hIa _ _ | exact hIb _ _ | exact g_b32 | exact g_and32 | assumption | exact ⟨by omega, by omega⟩) (by first | exact hI _ _ | exact hxI2 _ _ | exact hIa _ _ | exact hIb _ _ | exact g_b32 | exact g_and32 | assumption | exact ⟨by omega, by omega⟩) (fun c4 => ?_) (fun c4 => ?_)
            · skip
              have hne : g_pos (I 2) (I 1 1) a < e := by
                by_cases z : g_pos (I 2) (I 1 1) a < e
                · exact z
                · exfalso
                  have ei : i = 0 := by omega
                  have ee : e = g_pos (I 2) (I 1 1) a := by omega
                  subst ee
                  first | omega | (exact absurd hdig (by assumption))
              refine g_aldn hc dX8_number_107 rfl ?_
              refine g_aldn hc dX8_number_108 rfl ?_
              refine g_getIe hc lk_X8_19 ca_1 2 rfl g_ts_a dX8_number_109 ?_
              refine g_iconst hc dX8_number_112 ?_
              refine g_isub hc dX8_number_113 ?_
              refine g_V1v hc (c_X8_failAt w (I := I) (a := e) (q := q) hR hI (by omega) (by omega) (by omega) (by omega)) my_X8_failAt mv_X8_failAt ca_1 rfl rfl lm_X8_29 rfl (by decide) (Nat.le_of_ble_eq_true rfl) hm dX8_number_114 ?_
              have hp4 := g_q1_in (q := q) (p := (e - 1)) (by omega) (by omega)
              refine g_iload hc dX8_number_117 rfl ?_
              refine g_iret hc hm dX8_number_119 ?_
              have hr := g_numr_d (q := q) (least := least) (most := most) hdig hdone
              first | (rw [if_pos (by assumption)] at hr; exact ⟨by rw [hr], rfl, by rw [hr], rfl, rfl⟩) | (rw [if_neg (by assumption), if_pos (by omega)] at hr; exact ⟨by rw [hr], rfl, by rw [hr], rfl, rfl⟩) | (rw [if_neg (by assumption), if_neg (by omega)] at hr; exact ⟨by rw [hr], rfl, by rw [hr], rfl, rfl⟩)
            · skip
              refine g_iload hc dX8_number_101 rfl ?_
              refine g_iload_n hc dX8_number_103 rfl ?_
              refine g_icmp_le (tgt := 117) hc dX8_number_104 (by decide) (by first | exact hI _ _ | exact hxI2 _ _ | exact hIa _ _ | exact hIb _ _ | exact g_b32 | exact g_and32 | assumption | exact ⟨by omega, by omega⟩) (by first | exact hI _ _ | exact hxI2 _ _ | exact hIa _ _ | exact hIb _ _ | exact g_b32 | exact g_and32 | assumption | exact ⟨by omega, by omega⟩) (fun c5 => ?_) (fun c5 => ?_)
              · skip
                refine g_iload hc dX8_number_117 rfl ?_
                refine g_iret hc hm dX8_number_119 ?_
                have hr := g_numr_d (q := q) (least := least) (most := most) hdig hdone
                first | (rw [if_pos (by assumption)] at hr; exact ⟨by rw [hr], rfl, by rw [hr], rfl, rfl⟩) | (rw [if_neg (by assumption), if_pos (by omega)] at hr; exact ⟨by rw [hr], rfl, by rw [hr], rfl, rfl⟩) | (rw [if_neg (by assumption), if_neg (by omega)] at hr; exact ⟨by rw [hr], rfl, by rw [hr], rfl, rfl⟩)
              · skip
                have hne : g_pos (I 2) (I 1 1) a < e := by
                  by_cases z : g_pos (I 2) (I 1 1) a < e
                  · exact z
                  · exfalso
                    have ei : i = 0 := by omega
                    have ee : e = g_pos (I 2) (I 1 1) a := by omega
                    subst ee
                    first | omega | (exact absurd hdig (by assumption))
                refine g_aldn hc dX8_number_107 rfl ?_
                refine g_aldn hc dX8_number_108 rfl ?_
                refine g_getIe hc lk_X8_19 ca_1 2 rfl g_ts_a dX8_number_109 ?_
                refine g_iconst hc dX8_number_112 ?_
                refine g_isub hc dX8_number_113 ?_
                refine g_V1v hc (c_X8_failAt w (I := I) (a := e) (q := q) hR hI (by omega) (by omega) (by omega) (by omega)) my_X8_failAt mv_X8_failAt ca_1 rfl rfl lm_X8_29 rfl (by decide) (Nat.le_of_ble_eq_true rfl) hm dX8_number_114 ?_
                have hp5 := g_q1_in (q := q) (p := (e - 1)) (by omega) (by omega)
                refine g_iload hc dX8_number_117 rfl ?_
                refine g_iret hc hm dX8_number_119 ?_
                have hr := g_numr_d (q := q) (least := least) (most := most) hdig hdone
                first | (rw [if_pos (by assumption)] at hr; exact ⟨by rw [hr], rfl, by rw [hr], rfl, rfl⟩) | (rw [if_neg (by assumption), if_pos (by omega)] at hr; exact ⟨by rw [hr], rfl, by rw [hr], rfl, rfl⟩) | (rw [if_neg (by assumption), if_neg (by omega)] at hr; exact ⟨by rw [hr], rfl, by rw [hr], rfl, rfl⟩)
          · skip
            refine g_aldn hc dX8_number_84 rfl ?_
            refine g_aldn hc dX8_number_85 rfl ?_
            refine g_getIe hc lk_X8_19 ca_1 2 rfl g_ts_a dX8_number_86 ?_
            refine g_V1v hc (c_X8_failAt w (I := I) (a := e) (q := q) hR hI (by omega) (by omega) (by omega) (by omega)) my_X8_failAt mv_X8_failAt ca_1 rfl rfl lm_X8_29 rfl (by decide) (Nat.le_of_ble_eq_true rfl) hm dX8_number_89 ?_
            have hp6 := g_q1_in (q := q) (p := e) (by omega) (by omega)
            refine g_goto (tgt := 117) hc dX8_number_92 (by decide) ?_
            refine g_iload hc dX8_number_117 rfl ?_
            refine g_iret hc hm dX8_number_119 ?_
            have hr := g_numr_d (q := q) (least := least) (most := most) hdig hdone
            first | (rw [if_pos (by assumption)] at hr; exact ⟨by rw [hr], rfl, by rw [hr], rfl, rfl⟩) | (rw [if_neg (by assumption), if_pos (by omega)] at hr; exact ⟨by rw [hr], rfl, by rw [hr], rfl, rfl⟩) | (rw [if_neg (by assumption), if_neg (by omega)] at hr; exact ⟨by rw [hr], rfl, by rw [hr], rfl, rfl⟩)
        · skip
          refine g_aldn hc dX8_number_34 rfl ?_
          refine g_V0r hc (c_X8_isDigit w (I := I) (a := e) (q := q) hR hI (by omega) (by omega) (by omega)) my_X8_isDigit mv_X8_isDigit ca_1 rfl rfl lm_X8_33 rfl (by decide) (Nat.le_of_ble_eq_true rfl) hm dX8_number_35 ?_
          refine g_ifb_eq (tgt := 77) hc dX8_number_38 (by decide)  (fun c6 => ?_) (fun c6 => ?_)
          · skip
            have hdone : g_dg (I 2) (I 1 1) digits.toNat (g_pos (I 2) (I 1 1) a) 0 = (v, e) := by first | (rw [h8, show (digits - i).toNat = 0 by omega, g_dg]) | (rw [h8, show (digits - i).toNat = (digits - (i + 1)).toNat + 1 by omega, g_dg, if_neg (by assumption)])
            refine g_aldn hc dX8_number_77 rfl ?_
            refine g_V0r hc (c_X8_isDigit w (I := I) (a := e) (q := q) hR hI (by omega) (by omega) (by omega)) my_X8_isDigit mv_X8_isDigit ca_1 rfl rfl lm_X8_33 rfl (by decide) (Nat.le_of_ble_eq_true rfl) hm dX8_number_78 ?_
            refine g_ifb_eq (tgt := 95) hc dX8_number_81 (by decide)  (fun c7 => ?_) (fun c7 => ?_)
            · skip
              refine g_iload hc dX8_number_95 rfl ?_
              refine g_iload_n hc dX8_number_97 rfl ?_
              refine g_icmp_lt (tgt := 107) hc dX8_number_98 (by decide) (by first | exact hI _ _ | exact hxI2 _ _ | exact hIa _ _ | exact hIb _ _ | exact g_b32 | exact g_and32 | assumption | exact ⟨by omega, by omega⟩) (by first | exact hI _ _ | exact hxI2 _ _ | exact hIa _ _ | exact hIb _ _ | exact g_b32 | exact g_and32 | assumption | exact ⟨by omega, by omega⟩) (fun c8 => ?_) (fun c8 => ?_)
              · skip
                have hne : g_pos (I 2) (I 1 1) a < e := by
                  by_cases z : g_pos (I 2) (I 1 1) a < e
                  · exact z
                  · exfalso
                    have ei : i = 0 := by omega
                    have ee : e = g_pos (I 2) (I 1 1) a := by omega
                    subst ee
                    first | omega | (exact absurd hdig (by assumption))
                refine g_aldn hc dX8_number_107 rfl ?_
                refine g_aldn hc dX8_number_108 rfl ?_
                refine g_getIe hc lk_X8_19 ca_1 2 rfl g_ts_a dX8_number_109 ?_
                refine g_iconst hc dX8_number_112 ?_
                refine g_isub hc dX8_number_113 ?_
                refine g_V1v hc (c_X8_failAt w (I := I) (a := e) (q := q) hR hI (by omega) (by omega) (by omega) (by omega)) my_X8_failAt mv_X8_failAt ca_1 rfl rfl lm_X8_29 rfl (by decide) (Nat.le_of_ble_eq_true rfl) hm dX8_number_114 ?_
                have hp9 := g_q1_in (q := q) (p := (e - 1)) (by omega) (by omega)
                refine g_iload hc dX8_number_117 rfl ?_
                refine g_iret hc hm dX8_number_119 ?_
                have hr := g_numr_d (q := q) (least := least) (most := most) hdig hdone
                first | (rw [if_pos (by assumption)] at hr; exact ⟨by rw [hr], rfl, by rw [hr], rfl, rfl⟩) | (rw [if_neg (by assumption), if_pos (by omega)] at hr; exact ⟨by rw [hr], rfl, by rw [hr], rfl, rfl⟩) | (rw [if_neg (by assumption), if_neg (by omega)] at hr; exact ⟨by rw [hr], rfl, by rw [hr], rfl, rfl⟩)
              · skip
                refine g_iload hc dX8_number_101 rfl ?_
                refine g_iload_n hc dX8_number_103 rfl ?_
                refine g_icmp_le (tgt := 117) hc dX8_number_104 (by decide) (by first | exact hI _ _ | exact hxI2 _ _ | exact hIa _ _ | exact hIb _ _ | exact g_b32 | exact g_and32 | assumption | exact ⟨by omega, by omega⟩) (by first | exact hI _ _ | exact hxI2 _ _ | exact hIa _ _ | exact hIb _ _ | exact g_b32 | exact g_and32 | assumption | exact ⟨by omega, by omega⟩) (fun c9 => ?_) (fun c9 => ?_)
                · skip
                  refine g_iload hc dX8_number_117 rfl ?_
                  refine g_iret hc hm dX8_number_119 ?_
                  have hr := g_numr_d (q := q) (least := least) (most := most) hdig hdone
                  first | (rw [if_pos (by assumption)] at hr; exact ⟨by rw [hr], rfl, by rw [hr], rfl, rfl⟩) | (rw [if_neg (by assumption), if_pos (by omega)] at hr; exact ⟨by rw [hr], rfl, by rw [hr], rfl, rfl⟩) | (rw [if_neg (by assumption), if_neg (by omega)] at hr; exact ⟨by rw [hr], rfl, by rw [hr], rfl, rfl⟩)
                · skip
                  have hne : g_pos (I 2) (I 1 1) a < e := by
                    by_cases z : g_pos (I 2) (I 1 1) a < e
                    · exact z
                    · exfalso
                      have ei : i = 0 := by omega
                      have ee : e = g_pos (I 2) (I 1 1) a := by omega
                      subst ee
                      first | omega | (exact absurd hdig (by assumption))
                  refine g_aldn hc dX8_number_107 rfl ?_
                  refine g_aldn hc dX8_number_108 rfl ?_
                  refine g_getIe hc lk_X8_19 ca_1 2 rfl g_ts_a dX8_number_109 ?_
                  refine g_iconst hc dX8_number_112 ?_
                  refine g_isub hc dX8_number_113 ?_
                  refine g_V1v hc (c_X8_failAt w (I := I) (a := e) (q := q) hR hI (by omega) (by omega) (by omega) (by omega)) my_X8_failAt mv_X8_failAt ca_1 rfl rfl lm_X8_29 rfl (by decide) (Nat.le_of_ble_eq_true rfl) hm dX8_number_114 ?_
                  have hp10 := g_q1_in (q := q) (p := (e - 1)) (by omega) (by omega)
                  refine g_iload hc dX8_number_117 rfl ?_
                  refine g_iret hc hm dX8_number_119 ?_
                  have hr := g_numr_d (q := q) (least := least) (most := most) hdig hdone
                  first | (rw [if_pos (by assumption)] at hr; exact ⟨by rw [hr], rfl, by rw [hr], rfl, rfl⟩) | (rw [if_neg (by assumption), if_pos (by omega)] at hr; exact ⟨by rw [hr], rfl, by rw [hr], rfl, rfl⟩) | (rw [if_neg (by assumption), if_neg (by omega)] at hr; exact ⟨by rw [hr], rfl, by rw [hr], rfl, rfl⟩)
            · skip
              refine g_aldn hc dX8_number_84 rfl ?_
              refine g_aldn hc dX8_number_85 rfl ?_
              refine g_getIe hc lk_X8_19 ca_1 2 rfl g_ts_a dX8_number_86 ?_
              refine g_V1v hc (c_X8_failAt w (I := I) (a := e) (q := q) hR hI (by omega) (by omega) (by omega) (by omega)) my_X8_failAt mv_X8_failAt ca_1 rfl rfl lm_X8_29 rfl (by decide) (Nat.le_of_ble_eq_true rfl) hm dX8_number_89 ?_
              have hp11 := g_q1_in (q := q) (p := e) (by omega) (by omega)
              refine g_goto (tgt := 117) hc dX8_number_92 (by decide) ?_
              refine g_iload hc dX8_number_117 rfl ?_
              refine g_iret hc hm dX8_number_119 ?_
              have hr := g_numr_d (q := q) (least := least) (most := most) hdig hdone
              first | (rw [if_pos (by assumption)] at hr; exact ⟨by rw [hr], rfl, by rw [hr], rfl, rfl⟩) | (rw [if_neg (by assumption), if_pos (by omega)] at hr; exact ⟨by rw [hr], rfl, by rw [hr], rfl, rfl⟩) | (rw [if_neg (by assumption), if_neg (by omega)] at hr; exact ⟨by rw [hr], rfl, by rw [hr], rfl, rfl⟩)
          · skip
            have hb2 := hI 2 e
            have hda : e < I 1 1 ∧ 48 ≤ I 2 e ∧ I 2 e ≤ 57 := by assumption
            refine g_bipush hc dX8_number_41 (by decide +kernel) ?_
            refine g_iload hc dX8_number_43 rfl ?_
            refine g_imul hc dX8_number_45 ?_
            refine g_aldn hc dX8_number_46 rfl ?_
            refine g_getRk hc lk_X8_9 ca_1 (rc_1_0 hR) dX8_number_47 ?_
            refine g_aldn hc dX8_number_50 rfl ?_
            refine g_getIe hc lk_X8_19 ca_1 2 rfl g_ts_a dX8_number_51 ?_
            refine g_ialde hc ca_2 (by decide) (by omega) (by omega) (g_ts_k (by decide)) dX8_number_54 ?_
            refine g_iadd hc dX8_number_55 ?_
            refine g_bipush hc dX8_number_56 (by decide +kernel) ?_
            refine g_isub hc dX8_number_58 ?_
            refine g_istore_4 hc dX8_number_59 rfl ?_
            refine g_aldn hc dX8_number_61 rfl ?_
            refine g_dup hc dX8_number_62 rfl ?_
            refine g_getIe hc lk_X8_19 ca_1 2 rfl g_ts_a dX8_number_63 ?_
            refine g_iconst hc dX8_number_66 ?_
            refine g_iadd hc dX8_number_67 ?_
            refine g_putIe (I2 := (g_ts I (e + 1) q)) hc lk_X8_19 ca_1 2 rfl g_ts_pa dX8_number_68 ?_
            refine g_iinc_5 hc dX8_number_71 rfl ?_
            refine g_goto (tgt := 28) hc dX8_number_74 (by decide) ?_
            refine ih_28 _ _ _ ?_ ?_ ?_ ?_ ?_ ?_
            · omega
            · omega
            · omega
            · omega
            · rw [h8, show (digits - i).toNat = (digits - (i + 1)).toNat + 1 by omega, g_dg, if_pos (by assumption)]
            · omega
    refine lp_28 (digits + 1).toNat _ _ _ ?_ ?_ ?_ ?_ ?_ (?_)
    · omega
    · omega
    · omega
    · omega
    · rw [Int.sub_zero]
    · omega
  · skip
    refine g_aldn hc dX8_number_12 rfl ?_
    refine g_aldn hc dX8_number_13 rfl ?_
    refine g_getIe hc lk_X8_19 ca_1 2 rfl g_ts_a dX8_number_14 ?_
    refine g_V1v hc (c_X8_failAt w (I := I) (a := (g_pos (I 2) (I 1 1) a)) (q := q) hR hI (by omega) (by omega) (by omega) (by omega)) my_X8_failAt mv_X8_failAt ca_1 rfl rfl lm_X8_29 rfl (by decide) (Nat.le_of_ble_eq_true rfl) hm dX8_number_17 ?_
    have hp12 := g_q1_in (q := q) (p := (g_pos (I 2) (I 1 1) a)) (by omega) (by omega)
    refine g_iload_n hc dX8_number_20 rfl ?_
    refine g_iret hc hm dX8_number_21 ?_
    exact ⟨by rw [g_numr, if_neg (by assumption)], rfl, by rw [g_numr, if_neg (by assumption)], rfl, rfl⟩
set_option maxHeartbeats 4000000 in
set_option maxRecDepth 100000 in
/-- X8_finish -/
theorem c_X8_finish (w : g_W) {I : g_I} {J : g_J} {R : g_R} {lb tx : Nat} (hR : g_rf w R lb tx) (hI : ∀ k j, g32 (I k j)) {a q : Int} (ha : 0 ≤ a ∧ a ≤ I 1 1) (hn : I 1 1 ≤ 240) (hq : -1 ≤ q ∧ q ≤ 240)  : g_Met w g_n (g_ts I a q) J R yX8_finish cX8_finish 1 (some .int) 2 0 0 [(gvr w 1)] (g_post (some (gvI ((if g_sgn (I 2) (I 1 1) a = -1 then q else g_q1 q (g_pos (I 2) (I 1 1) (g_pos (I 2) (I 1 1) a)))))) g_n (g_ts I (if g_sgn (I 2) (I 1 1) a = -1 then g_pos (I 2) (I 1 1) a else I 1 1) (if g_sgn (I 2) (I 1 1) a = -1 then q else g_q1 q (g_pos (I 2) (I 1 1) (g_pos (I 2) (I 1 1) a)))) J R) := by
  refine g_intro (own := RX8) [some (gvr w 1)] (by decide +kernel) rfl (by decide) (Nat.le_of_ble_eq_true rfl) rfl (fun i v hv => g_args 0 i v hv rfl) (fun x hc hm => ?_)
  have hIa := g_ts32 (a := a) (q := q) hI ⟨by omega, by omega⟩ ⟨by omega, by omega⟩
  refine g_aldn hc dX8_finish_0 rfl ?_
  refine g_V0r hc (c_X8_sign w (I := I) (a := a) (q := q) hR hI (by omega) (by omega) (by omega)) my_X8_sign mv_X8_sign ca_1 rfl rfl lm_X8_25 rfl (by decide) (Nat.le_of_ble_eq_true rfl) hm dX8_finish_1 ?_
  have hp1 := g_pos_in (B := I 2) (len := I 1 1) (a := a) (by omega)
  refine g_iconst hc dX8_finish_4 ?_
  refine g_icmp_eq (tgt := 16) hc dX8_finish_5 (by decide) (by unfold g_sgn; split <;> first | exact hI _ _ | exact ⟨by decide, by decide⟩) ⟨by decide, by decide⟩ (fun c1 => ?_) (fun c1 => ?_)
  · skip
    refine g_aldn hc dX8_finish_16 rfl ?_
    refine g_getIe hc lk_X8_22 ca_1 3 rfl g_ts_q dX8_finish_17 ?_
    refine g_iret hc hm dX8_finish_20 ?_
    first | (exfalso; omega) | exact ⟨by rw [if_pos (by assumption)], rfl, by rw [if_pos (by assumption), if_pos (by assumption)], rfl, rfl⟩ | exact ⟨by rw [if_neg (by assumption), g_pos_pos (by omega)], rfl, by rw [if_neg (by assumption), if_neg (by assumption), g_pos_pos (by omega)], rfl, rfl⟩
  · skip
    refine g_aldn hc dX8_finish_8 rfl ?_
    refine g_aldn hc dX8_finish_9 rfl ?_
    refine g_getIe hc lk_X8_19 ca_1 2 rfl g_ts_a dX8_finish_10 ?_
    refine g_V1v hc (c_X8_failAt w (I := I) (a := (g_pos (I 2) (I 1 1) a)) (q := q) hR hI (by omega) (by omega) (by omega) (by omega)) my_X8_failAt mv_X8_failAt ca_1 rfl rfl lm_X8_29 rfl (by decide) (Nat.le_of_ble_eq_true rfl) hm dX8_finish_13 ?_
    have hp2 := g_q1_in (q := q) (p := (g_pos (I 2) (I 1 1) a)) (by omega) (by omega)
    refine g_aldn hc dX8_finish_16 rfl ?_
    refine g_getIe hc lk_X8_22 ca_1 3 rfl g_ts_q dX8_finish_17 ?_
    refine g_iret hc hm dX8_finish_20 ?_
    first | (exfalso; omega) | exact ⟨by rw [if_pos (by assumption)], rfl, by rw [if_pos (by assumption), if_pos (by assumption)], rfl, rfl⟩ | exact ⟨by rw [if_neg (by assumption), g_pos_pos (by omega)], rfl, by rw [if_neg (by assumption), if_neg (by assumption), g_pos_pos (by omega)], rfl, rfl⟩
set_option maxHeartbeats 4000000 in
set_option maxRecDepth 100000 in
/-- X8_want -/
theorem c_X8_want (w : g_W) {I : g_I} {J : g_J} {R : g_R} {lb tx : Nat} (hR : g_rf w R lb tx) (hI : ∀ k j, g32 (I k j)) {a q : Int} (ha : 0 ≤ a ∧ a ≤ I 1 1) (hn : I 1 1 ≤ 240) (hq : -1 ≤ q ∧ q ≤ 240) {c : Int} (h1 : g32 c) (h0 : c ≠ -1) : g_Met w g_n (g_ts I a q) J R yX8_want cX8_want 2 none 2 0 0 [(gvr w 1), (gvI c)] (g_post none g_n (g_ts I (if g_sgn (I 2) (I 1 1) a = c then g_pos (I 2) (I 1 1) a + 1 else I 1 1) (if g_sgn (I 2) (I 1 1) a = c then q else g_q1 q (g_pos (I 2) (I 1 1) (g_pos (I 2) (I 1 1) a)))) J R) := by
  refine g_intro (own := RX8) [some (gvr w 1), some (gvI c)] (by decide +kernel) rfl (by decide) (Nat.le_of_ble_eq_true rfl) rfl (fun i v hv => g_args 0 i v hv rfl) (fun x hc hm => ?_)
  have hIa := g_ts32 (a := a) (q := q) hI ⟨by omega, by omega⟩ ⟨by omega, by omega⟩
  have htk := g_tkin (B := I 2) (len := I 1 1) (a := a) (c := c) (by omega) h0
  refine g_aldn hc dX8_want_0 rfl ?_
  refine g_V0r hc (c_X8_sign w (I := I) (a := a) (q := q) hR hI (by omega) (by omega) (by omega)) my_X8_sign mv_X8_sign ca_1 rfl rfl lm_X8_25 rfl (by decide) (Nat.le_of_ble_eq_true rfl) hm dX8_want_1 ?_
  have hp1 := g_pos_in (B := I 2) (len := I 1 1) (a := a) (by omega)
  refine g_iload_n hc dX8_want_4 rfl ?_
  refine g_icmp_ne (tgt := 21) hc dX8_want_5 (by decide) (by unfold g_sgn; split <;> first | exact hI _ _ | exact ⟨by decide, by decide⟩) h1 (fun c1 => ?_) (fun c1 => ?_)
  · skip
    refine g_aldn hc dX8_want_21 rfl ?_
    refine g_aldn hc dX8_want_22 rfl ?_
    refine g_getIe hc lk_X8_19 ca_1 2 rfl g_ts_a dX8_want_23 ?_
    refine g_V1v hc (c_X8_failAt w (I := I) (a := (g_pos (I 2) (I 1 1) a)) (q := q) hR hI (by omega) (by omega) (by omega) (by omega)) my_X8_failAt mv_X8_failAt ca_1 rfl rfl lm_X8_29 rfl (by decide) (Nat.le_of_ble_eq_true rfl) hm dX8_want_26 ?_
    have hp2 := g_q1_in (q := q) (p := (g_pos (I 2) (I 1 1) a)) (by omega) (by omega)
    refine g_vret hc hm dX8_want_29 ?_
    first | (exfalso; omega) | exact ⟨rfl, rfl, by rw [if_pos (by assumption), if_pos (by assumption)], rfl, rfl⟩ | exact ⟨rfl, rfl, by rw [if_neg (by assumption), if_neg (by assumption), g_pos_pos (by omega)], rfl, rfl⟩
  · skip
    refine g_aldn hc dX8_want_8 rfl ?_
    refine g_dup hc dX8_want_9 rfl ?_
    refine g_getIe hc lk_X8_19 ca_1 2 rfl g_ts_a dX8_want_10 ?_
    refine g_iconst hc dX8_want_13 ?_
    refine g_iadd hc dX8_want_14 ?_
    refine g_putIe (I2 := (g_ts I ((g_pos (I 2) (I 1 1) a) + 1) q)) hc lk_X8_19 ca_1 2 rfl g_ts_pa dX8_want_15 ?_
    refine g_goto (tgt := 29) hc dX8_want_18 (by decide) ?_
    refine g_vret hc hm dX8_want_29 ?_
    first | (exfalso; omega) | exact ⟨rfl, rfl, by rw [if_pos (by assumption), if_pos (by assumption)], rfl, rfl⟩ | exact ⟨rfl, rfl, by rw [if_neg (by assumption), if_neg (by assumption), g_pos_pos (by omega)], rfl, rfl⟩
