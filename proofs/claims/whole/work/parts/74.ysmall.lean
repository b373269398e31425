theorem y_sg32 {n a : Int} {M : g_I} {tx : Nat} {o : Int} (h : a ≤ n) (hB : ∀ j, -128 ≤ M tx j ∧ M tx j ≤ 127) : g32 (g_sgn (q_by M tx o) n a) := by
  unfold g_sgn
  split
  · exact g_and32
  · exact ⟨by decide, by decide⟩
theorem y_bb {M : g_I} {tx : Nat} {o j : Int} (hB : ∀ j, -128 ≤ M tx j ∧ M tx j ≤ 127) : q_by M tx o j = if M tx (o + j) < 0 then M tx (o + j) + 256 else M tx (o + j) := y_by (hB _)
theorem y_sgb {M : g_I} {tx : Nat} {o n a : Int} (hB : ∀ j, -128 ≤ M tx j ∧ M tx j ≤ 127) : -1 ≤ g_sgn (q_by M tx o) n a ∧ g_sgn (q_by M tx o) n a ≤ 255 := by
  unfold g_sgn
  split
  · rw [y_bb hB]; have := hB (o + g_pos (q_by M tx o) n a); split <;> omega
  · omega
theorem y_lk1 {B : Int → Int} {n i a : Int} (h : g_pos B n i = g_pos B n a) (h1 : i < n) (h2 : ¬ B i = 32) : g_sgn B n a = B i ∧ g_pos B n a = i := by
  rw [g_pos_n h1 h2] at h
  unfold g_sgn
  rw [← h, if_pos h1]
  exact ⟨rfl, rfl⟩
theorem y_lk2 {B : Int → Int} {n i a : Int} (h : g_pos B n i = g_pos B n a) (h1 : n ≤ i) : g_sgn B n a = -1 ∧ g_pos B n a = i := by
  rw [g_pos_e h1] at h
  unfold g_sgn
  rw [← h, if_neg (by omega)]
  exact ⟨rfl, rfl⟩
theorem y_sgp {B : Int → Int} {n a : Int} (h : ¬ g_sgn B n a = -1) : g_pos B n a < n := by
  unfold g_sgn at h
  by_cases e : g_pos B n a < n
  · exact e
  · rw [if_neg e] at h; exact absurd rfl h
set_option maxHeartbeats 4000000 in
set_option maxRecDepth 100000 in
/-- X13_look -/
theorem c_X13_look (w : g_W) {J : g_J} {R : g_R} {lb tx ln : Nat} (hR : g_rf w R lb tx) {M : g_I} {o n : Int} {Lf : Int → Int} (he : y_env M tx ln o n Lf) {a q d : Int} (ha : 0 ≤ a ∧ a ≤ n) (hq : -1 ≤ q ∧ q ≤ 240) (hd : 0 ≤ d ∧ d ≤ 6) : g_Met w g_n (y_M M a q d) J R yX13_look cX13_look 1 (some .int) 0 0 0 [(gvr w 703)] (g_post (some (gvI (g_sgn (q_by M tx o) n a))) g_n (y_M M (g_pos (q_by M tx o) n a) q d) J R) := by
  refine g_intro (own := RX13) [some (gvr w 703)] (by decide +kernel) rfl (by decide) (Nat.le_of_ble_eq_true rfl) rfl (fun i v hv => g_args 0 i v hv rfl) (fun x hc hm => ?_)
  obtain ⟨⟨he1, he2⟩, ⟨he3, he4, he5⟩, he6, hB, hI, hLt, hat, hx3⟩ := id he
  have lp_0 : ∀ (fu : Nat) (i : Int), 0 ≤ i ∧ i ≤ n → g_pos (q_by M tx o) n i = g_pos (q_by M tx o) n a → n - i < (fu : Int) → G w x (g_post (some (gvI (g_sgn (q_by M tx o) n a))) g_n (y_M M (g_pos (q_by M tx o) n a) q d) J R) 0 0 g_n (y_M M i q d) J R 0 [some (gvr w 703)] [] := by
    intro fu
    induction fu with
    | zero => intro i h3 h4 hfu; exfalso; omega
    | succ fu ih =>
      intro i h3 h4 hfu
      have ih_0 := ih
      refine g_aldn hc dX13_look_0 rfl ?_
      refine g_getIe hc lk_X13_125 ca_703 10 rfl (y_M_a) dX13_look_1 ?_
      refine g_aldn hc dX13_look_4 rfl ?_
      refine g_getIe hc lk_X13_128 ca_703 9 rfl ((y_M_j (by decide)).trans he2) dX13_look_5 ?_
      refine g_icmp_ge (tgt := 43) hc dX13_look_8 (by decide) (by first | exact hI _ _ | exact y_sg32 (by omega) hB | exact g_b32 | exact g_and32 | assumption | exact ⟨by omega, by omega⟩) (by first | exact hI _ _ | exact y_sg32 (by omega) hB | exact g_b32 | exact g_and32 | assumption | exact ⟨by omega, by omega⟩) (fun c1 => ?_) (fun c1 => ?_)
      · skip
        refine g_aldn hc dX13_look_43 rfl ?_
        refine g_getIe hc lk_X13_125 ca_703 10 rfl (y_M_a) dX13_look_44 ?_
        refine g_aldn hc dX13_look_47 rfl ?_
        refine g_getIe hc lk_X13_128 ca_703 9 rfl ((y_M_j (by decide)).trans he2) dX13_look_48 ?_
        refine g_icmp_ge (tgt := 75) hc dX13_look_51 (by decide) (by first | exact hI _ _ | exact y_sg32 (by omega) hB | exact g_b32 | exact g_and32 | assumption | exact ⟨by omega, by omega⟩) (by first | exact hI _ _ | exact y_sg32 (by omega) hB | exact g_b32 | exact g_and32 | assumption | exact ⟨by omega, by omega⟩) (fun c2 => ?_) (fun c2 => ?_)
        · skip
          refine g_iconst hc dX13_look_75 ?_
          refine g_iret hc hm dX13_look_76 ?_
          first | (exfalso; omega) | (exfalso; omega) | (obtain ⟨e1, e2⟩ := y_lk2 h4 (by omega); exact ⟨by rw [e1], rfl, by rw [e2], rfl, rfl⟩)
        · skip
          refine g_aldn hc dX13_look_54 rfl ?_
          refine g_getRvk hc lk_X13_23 ca_703 (rc_703_5 hR) dX13_look_55 ?_
          refine g_aldn hc dX13_look_58 rfl ?_
          refine g_getIe hc lk_X13_131 ca_703 8 rfl ((y_M_j (by decide)).trans he1) dX13_look_59 ?_
          refine g_aldn hc dX13_look_62 rfl ?_
          refine g_getIe hc lk_X13_125 ca_703 10 rfl (y_M_a) dX13_look_63 ?_
          refine g_iadd hc dX13_look_66 ?_
          refine g_balde hc hat (Nat.lt_of_le_of_lt he5 (by decide)) (by omega) (by omega) (congrFun (y_M_k hx3) _) dX13_look_67 ?_
          refine g_sipush hc dX13_look_68 (by decide +kernel) ?_
          refine g_iand hc dX13_look_71 ?_
          refine g_goto (tgt := 76) hc dX13_look_72 (by decide) ?_
          refine g_iret hc hm dX13_look_76 ?_
          first | (exfalso; omega) | (exfalso; omega) | (obtain ⟨e1, e2⟩ := y_lk1 h4 (by omega) hbn; exact ⟨by rw [e1], rfl, by rw [e2], rfl, rfl⟩)
      · skip
        refine g_aldn hc dX13_look_11 rfl ?_
        refine g_getRvk hc lk_X13_23 ca_703 (rc_703_5 hR) dX13_look_12 ?_
        refine g_aldn hc dX13_look_15 rfl ?_
        refine g_getIe hc lk_X13_131 ca_703 8 rfl ((y_M_j (by decide)).trans he1) dX13_look_16 ?_
        refine g_aldn hc dX13_look_19 rfl ?_
        refine g_getIe hc lk_X13_125 ca_703 10 rfl (y_M_a) dX13_look_20 ?_
        refine g_iadd hc dX13_look_23 ?_
        refine g_balde hc hat (Nat.lt_of_le_of_lt he5 (by decide)) (by omega) (by omega) (congrFun (y_M_k hx3) _) dX13_look_24 ?_
        refine g_bipush hc dX13_look_25 (by decide +kernel) ?_
        refine g_icmp_ne (tgt := 43) hc dX13_look_27 (by decide) (by first | exact hI _ _ | exact y_sg32 (by omega) hB | exact g_b32 | exact g_and32 | assumption | exact ⟨by omega, by omega⟩) (by first | exact hI _ _ | exact y_sg32 (by omega) hB | exact g_b32 | exact g_and32 | assumption | exact ⟨by omega, by omega⟩) (fun c3 => ?_) (fun c3 => ?_)
        · skip
          have hbn : ¬ q_by M tx o i = 32 := by have h9 := hB (o + i); rw [y_bb hB]; split <;> omega
          refine g_aldn hc dX13_look_43 rfl ?_
          refine g_getIe hc lk_X13_125 ca_703 10 rfl (y_M_a) dX13_look_44 ?_
          refine g_aldn hc dX13_look_47 rfl ?_
          refine g_getIe hc lk_X13_128 ca_703 9 rfl ((y_M_j (by decide)).trans he2) dX13_look_48 ?_
          refine g_icmp_ge (tgt := 75) hc dX13_look_51 (by decide) (by first | exact hI _ _ | exact y_sg32 (by omega) hB | exact g_b32 | exact g_and32 | assumption | exact ⟨by omega, by omega⟩) (by first | exact hI _ _ | exact y_sg32 (by omega) hB | exact g_b32 | exact g_and32 | assumption | exact ⟨by omega, by omega⟩) (fun c4 => ?_) (fun c4 => ?_)
          · skip
            refine g_iconst hc dX13_look_75 ?_
            refine g_iret hc hm dX13_look_76 ?_
            first | (exfalso; omega) | (exfalso; omega) | (obtain ⟨e1, e2⟩ := y_lk2 h4 (by omega); exact ⟨by rw [e1], rfl, by rw [e2], rfl, rfl⟩)
          · skip
            refine g_aldn hc dX13_look_54 rfl ?_
            refine g_getRvk hc lk_X13_23 ca_703 (rc_703_5 hR) dX13_look_55 ?_
            refine g_aldn hc dX13_look_58 rfl ?_
            refine g_getIe hc lk_X13_131 ca_703 8 rfl ((y_M_j (by decide)).trans he1) dX13_look_59 ?_
            refine g_aldn hc dX13_look_62 rfl ?_
            refine g_getIe hc lk_X13_125 ca_703 10 rfl (y_M_a) dX13_look_63 ?_
            refine g_iadd hc dX13_look_66 ?_
            refine g_balde hc hat (Nat.lt_of_le_of_lt he5 (by decide)) (by omega) (by omega) (congrFun (y_M_k hx3) _) dX13_look_67 ?_
            refine g_sipush hc dX13_look_68 (by decide +kernel) ?_
            refine g_iand hc dX13_look_71 ?_
            refine g_goto (tgt := 76) hc dX13_look_72 (by decide) ?_
            refine g_iret hc hm dX13_look_76 ?_
            first | (exfalso; omega) | (exfalso; omega) | (obtain ⟨e1, e2⟩ := y_lk1 h4 (by omega) hbn; exact ⟨by rw [e1], rfl, by rw [e2], rfl, rfl⟩)
        · skip
          have hbb : q_by M tx o i = 32 := by have h9 := hB (o + i); rw [y_bb hB]; split <;> omega
          refine g_aldn hc dX13_look_30 rfl ?_
          refine g_dup hc dX13_look_31 rfl ?_
          refine g_getIe hc lk_X13_125 ca_703 10 rfl (y_M_a) dX13_look_32 ?_
          refine g_iconst hc dX13_look_35 ?_
          refine g_iadd hc dX13_look_36 ?_
          refine g_putIe (I2 := (y_M M (i + 1) q d)) hc lk_X13_125 ca_703 10 rfl y_M_pa dX13_look_37 ?_
          refine g_goto (tgt := 0) hc dX13_look_40 (by decide) ?_
          refine ih_0 _ ?_ ?_ ?_
          · omega
          · rw [← h4, g_pos_b (by omega) hbb]
          · omega
  refine lp_0 241 _ ?_ ?_ (?_)
  · exact ha
  · rfl
  · omega
set_option maxHeartbeats 4000000 in
set_option maxRecDepth 100000 in
/-- X13_fails -/
theorem c_X13_fails (w : g_W) {J : g_J} {R : g_R} {lb tx ln : Nat} (hR : g_rf w R lb tx) {M : g_I} {o n : Int} {Lf : Int → Int} (he : y_env M tx ln o n Lf) {a q d : Int} (ha : 0 ≤ a ∧ a ≤ n) (hq : -1 ≤ q ∧ q ≤ 240) (hd : 0 ≤ d ∧ d ≤ 6) : g_Met w g_n (y_M M a q d) J R yX13_fails cX13_fails 1 (some .boolean) 0 0 0 [(gvr w 703)] (g_post (some (gvI (0))) g_n (y_M M a (g_q1 q a) d) J R) := by
  refine g_intro (own := RX13) [some (gvr w 703)] (by decide +kernel) rfl (by decide) (Nat.le_of_ble_eq_true rfl) rfl (fun i v hv => g_args 0 i v hv rfl) (fun x hc hm => ?_)
  obtain ⟨⟨he1, he2⟩, ⟨he3, he4, he5⟩, he6, hB, hI, hLt, hat, hx3⟩ := id he
  refine g_aldn hc dX13_fails_0 rfl ?_
  refine g_getIe hc lk_X13_134 ca_703 11 rfl (y_M_q) dX13_fails_1 ?_
  refine g_iconst hc dX13_fails_4 ?_
  refine g_icmp_ne (tgt := 16) hc dX13_fails_5 (by decide) (by first | exact hI _ _ | exact y_sg32 (by omega) hB | exact g_b32 | exact g_and32 | assumption | exact ⟨by omega, by omega⟩) (by first | exact hI _ _ | exact y_sg32 (by omega) hB | exact g_b32 | exact g_and32 | assumption | exact ⟨by omega, by omega⟩) (fun c1 => ?_) (fun c1 => ?_)
  · skip
    refine g_iconst hc dX13_fails_16 ?_
    refine g_zret hc hm (by first | exact g_b01 | omega) dX13_fails_17 ?_
    first | (exfalso; omega) | exact ⟨rfl, rfl, by rw [g_q1, if_pos (by omega)], rfl, rfl⟩ | exact ⟨rfl, rfl, by rw [g_q1, if_neg (by omega)], rfl, rfl⟩
  · skip
    refine g_aldn hc dX13_fails_8 rfl ?_
    refine g_aldn hc dX13_fails_9 rfl ?_
    refine g_getIe hc lk_X13_125 ca_703 10 rfl (y_M_a) dX13_fails_10 ?_
    refine g_putIe (I2 := (y_M M a a d)) hc lk_X13_134 ca_703 11 rfl y_M_pq dX13_fails_13 ?_
    refine g_iconst hc dX13_fails_16 ?_
    refine g_zret hc hm (by first | exact g_b01 | omega) dX13_fails_17 ?_
    first | (exfalso; omega) | exact ⟨rfl, rfl, by rw [g_q1, if_pos (by omega)], rfl, rfl⟩ | exact ⟨rfl, rfl, by rw [g_q1, if_neg (by omega)], rfl, rfl⟩
set_option maxHeartbeats 4000000 in
set_option maxRecDepth 100000 in
/-- X13_takes -/
theorem c_X13_takes (w : g_W) {J : g_J} {R : g_R} {lb tx ln : Nat} (hR : g_rf w R lb tx) {M : g_I} {o n : Int} {Lf : Int → Int} (he : y_env M tx ln o n Lf) {a q d : Int} (ha : 0 ≤ a ∧ a ≤ n) (hq : -1 ≤ q ∧ q ≤ 240) (hd : 0 ≤ d ∧ d ≤ 6) {c : Int} (h1 : g32 c) : g_Met w g_n (y_M M a q d) J R yX13_takes cX13_takes 2 (some .boolean) 1 0 0 [(gvr w 703), (gvI c)] (g_post (some (gvI (g_b (q = -1 ∧ g_sgn (q_by M tx o) n a = c)))) g_n (y_M M (if q = -1 then (if g_sgn (q_by M tx o) n a = c then g_pos (q_by M tx o) n a + 1 else g_pos (q_by M tx o) n a) else a) (if q = -1 then (if g_sgn (q_by M tx o) n a = c then -1 else g_pos (q_by M tx o) n a) else q) d) J R) := by
  refine g_intro (own := RX13) [some (gvr w 703), some (gvI c)] (by decide +kernel) rfl (by decide) (Nat.le_of_ble_eq_true rfl) rfl (fun i v hv => g_args 0 i v hv rfl) (fun x hc hm => ?_)
  obtain ⟨⟨he1, he2⟩, ⟨he3, he4, he5⟩, he6, hB, hI, hLt, hat, hx3⟩ := id he
  refine g_aldn hc dX13_takes_0 rfl ?_
  refine g_getIe hc lk_X13_134 ca_703 11 rfl (y_M_q) dX13_takes_1 ?_
  refine g_iconst hc dX13_takes_4 ?_
  refine g_icmp_ne (tgt := 16) hc dX13_takes_5 (by decide) (by first | exact hI _ _ | exact y_sg32 (by omega) hB | exact g_b32 | exact g_and32 | assumption | exact ⟨by omega, by omega⟩) (by first | exact hI _ _ | exact y_sg32 (by omega) hB | exact g_b32 | exact g_and32 | assumption | exact ⟨by omega, by omega⟩) (fun c1 => ?_) (fun c1 => ?_)
  · skip
    have hqq := c1
    refine g_aldn hc dX13_takes_16 rfl ?_
    refine g_V0r hc (c_X13_fails w hR he (by omega) (by omega) (by omega)) my_X13_fails mv_X13_fails ca_703 rfl rfl lm_X13_140 rfl (by decide) (Nat.le_of_ble_eq_true rfl) hm dX13_takes_17 ?_
    refine g_zret hc hm (by first | exact g_b01 | omega) dX13_takes_20 ?_
    exact ⟨by rw [g_b0 (fun z => absurd z.1 hqq)], rfl, by rw [if_neg hqq, if_neg hqq, g_q1, if_neg hqq], rfl, rfl⟩
  · skip
    have hqq : q = -1 := c1
    refine g_aldn hc dX13_takes_8 rfl ?_
    refine g_V0r hc (c_X13_look w hR he (by omega) (by omega) (by omega)) my_X13_look mv_X13_look ca_703 rfl rfl lm_X13_144 rfl (by decide) (Nat.le_of_ble_eq_true rfl) hm dX13_takes_9 ?_
    have hp := g_pos_in (B := (q_by M tx o)) ha.2
    refine g_iload_n hc dX13_takes_12 rfl ?_
    refine g_icmp_eq (tgt := 21) hc dX13_takes_13 (by decide) (y_sg32 (by omega) hB) h1 (fun c2 => ?_) (fun c2 => ?_)
    · skip
      have hss := c2
      refine g_aldn hc dX13_takes_21 rfl ?_
      refine g_dup hc dX13_takes_22 rfl ?_
      refine g_getIe hc lk_X13_125 ca_703 10 rfl (y_M_a) dX13_takes_23 ?_
      refine g_iconst hc dX13_takes_26 ?_
      refine g_iadd hc dX13_takes_27 ?_
      refine g_putIe (I2 := (y_M M ((g_pos (q_by M tx o) n a) + 1) q d)) hc lk_X13_125 ca_703 10 rfl y_M_pa dX13_takes_28 ?_
      refine g_iconst hc dX13_takes_31 ?_
      refine g_zret hc hm (by first | exact g_b01 | omega) dX13_takes_32 ?_
      exact ⟨by rw [g_b1 ⟨hqq, hss⟩], rfl, by rw [if_pos hqq, if_pos hqq, if_pos hss, if_pos hss, hqq], rfl, rfl⟩
    · skip
      have hss := c2
      refine g_aldn hc dX13_takes_16 rfl ?_
      refine g_V0r hc (c_X13_fails w hR he (by omega) (by omega) (by omega)) my_X13_fails mv_X13_fails ca_703 rfl rfl lm_X13_140 rfl (by decide) (Nat.le_of_ble_eq_true rfl) hm dX13_takes_17 ?_
      refine g_zret hc hm (by first | exact g_b01 | omega) dX13_takes_20 ?_
      exact ⟨by rw [g_b0 (fun z => absurd z.2 hss)], rfl, by rw [if_pos hqq, if_pos hqq, if_neg hss, if_neg hss, g_q1, if_pos hqq], rfl, rfl⟩
set_option maxHeartbeats 4000000 in
set_option maxRecDepth 100000 in
/-- X13_goesIn -/
theorem c_X13_goesIn (w : g_W) {J : g_J} {R : g_R} {lb tx ln : Nat} (hR : g_rf w R lb tx) {M : g_I} {o n : Int} {Lf : Int → Int} (he : y_env M tx ln o n Lf) {a q d : Int} (ha : 0 ≤ a ∧ a ≤ n) (hq : -1 ≤ q ∧ q ≤ 240) (hd : 0 ≤ d ∧ d ≤ 6) : g_Met w g_n (y_M M a q d) J R yX13_goesIn cX13_goesIn 1 (some .boolean) 1 0 0 [(gvr w 703)] (g_post (some (gvI (g_b (¬ d = 6)))) g_n (y_M M (if d = 6 then a else a + 1) (if d = 6 then g_q1 q a else q) (if d = 6 then d else d + 1)) J R) := by
  refine g_intro (own := RX13) [some (gvr w 703)] (by decide +kernel) rfl (by decide) (Nat.le_of_ble_eq_true rfl) rfl (fun i v hv => g_args 0 i v hv rfl) (fun x hc hm => ?_)
  obtain ⟨⟨he1, he2⟩, ⟨he3, he4, he5⟩, he6, hB, hI, hLt, hat, hx3⟩ := id he
  refine g_aldn hc dX13_goesIn_0 rfl ?_
  refine g_getIe hc lk_X13_137 ca_703 12 rfl (y_M_d) dX13_goesIn_1 ?_
  refine g_bipush hc dX13_goesIn_4 (by decide +kernel) ?_
  refine g_icmp_ne (tgt := 14) hc dX13_goesIn_6 (by decide) (by first | exact hI _ _ | exact y_sg32 (by omega) hB | exact g_b32 | exact g_and32 | assumption | exact ⟨by omega, by omega⟩) (by first | exact hI _ _ | exact y_sg32 (by omega) hB | exact g_b32 | exact g_and32 | assumption | exact ⟨by omega, by omega⟩) (fun c1 => ?_) (fun c1 => ?_)
  · skip
    refine g_aldn hc dX13_goesIn_14 rfl ?_
    refine g_dup hc dX13_goesIn_15 rfl ?_
    refine g_getIe hc lk_X13_137 ca_703 12 rfl (y_M_d) dX13_goesIn_16 ?_
    refine g_iconst hc dX13_goesIn_19 ?_
    refine g_iadd hc dX13_goesIn_20 ?_
    refine g_putIe (I2 := (y_M M a q (d + 1))) hc lk_X13_137 ca_703 12 rfl y_M_pd dX13_goesIn_21 ?_
    refine g_aldn hc dX13_goesIn_24 rfl ?_
    refine g_dup hc dX13_goesIn_25 rfl ?_
    refine g_getIe hc lk_X13_125 ca_703 10 rfl (y_M_a) dX13_goesIn_26 ?_
    refine g_iconst hc dX13_goesIn_29 ?_
    refine g_iadd hc dX13_goesIn_30 ?_
    refine g_putIe (I2 := (y_M M (a + 1) q (d + 1))) hc lk_X13_125 ca_703 10 rfl y_M_pa dX13_goesIn_31 ?_
    refine g_iconst hc dX13_goesIn_34 ?_
    refine g_zret hc hm (by first | exact g_b01 | omega) dX13_goesIn_35 ?_
    exact ⟨by rw [g_b1 (by omega)], rfl, by rw [if_neg (by omega), if_neg (by omega), if_neg (by omega)], rfl, rfl⟩
  · skip
    refine g_aldn hc dX13_goesIn_9 rfl ?_
    refine g_V0r hc (c_X13_fails w hR he (by omega) (by omega) (by omega)) my_X13_fails mv_X13_fails ca_703 rfl rfl lm_X13_140 rfl (by decide) (Nat.le_of_ble_eq_true rfl) hm dX13_goesIn_10 ?_
    refine g_zret hc hm (by first | exact g_b01 | omega) dX13_goesIn_13 ?_
    exact ⟨by rw [g_b0 (fun z => z (by omega))], rfl, by rw [if_pos (by omega), if_pos (by omega), if_pos (by omega)], rfl, rfl⟩
set_option maxHeartbeats 4000000 in
set_option maxRecDepth 100000 in
/-- X13_isDigit -/
theorem c_X13_isDigit (w : g_W) {J : g_J} {R : g_R} {lb tx ln : Nat} (hR : g_rf w R lb tx) {M : g_I} {o n : Int} {Lf : Int → Int} (he : y_env M tx ln o n Lf) {a q d : Int} (ha : 0 ≤ a ∧ a ≤ n) (hq : -1 ≤ q ∧ q ≤ 240) (hd : 0 ≤ d ∧ d ≤ 6) : g_Met w g_n (y_M M a q d) J R yX13_isDigit cX13_isDigit 1 (some .boolean) 0 0 0 [(gvr w 703)] (g_post (some (gvI (g_b (a < n ∧ 48 ≤ (q_by M tx o) a ∧ (q_by M tx o) a ≤ 57)))) g_n (y_M M a q d) J R) := by
  refine g_intro (own := RX13) [some (gvr w 703)] (by decide +kernel) rfl (by decide) (Nat.le_of_ble_eq_true rfl) rfl (fun i v hv => g_args 0 i v hv rfl) (fun x hc hm => ?_)
  obtain ⟨⟨he1, he2⟩, ⟨he3, he4, he5⟩, he6, hB, hI, hLt, hat, hx3⟩ := id he
  refine g_aldn hc dX13_isDigit_0 rfl ?_
  refine g_getIe hc lk_X13_125 ca_703 10 rfl (y_M_a) dX13_isDigit_1 ?_
  refine g_aldn hc dX13_isDigit_4 rfl ?_
  refine g_getIe hc lk_X13_128 ca_703 9 rfl ((y_M_j (by decide)).trans he2) dX13_isDigit_5 ?_
  refine g_icmp_ge (tgt := 53) hc dX13_isDigit_8 (by decide) (by first | exact hI _ _ | exact y_sg32 (by omega) hB | exact g_b32 | exact g_and32 | assumption | exact ⟨by omega, by omega⟩) (by first | exact hI _ _ | exact y_sg32 (by omega) hB | exact g_b32 | exact g_and32 | assumption | exact ⟨by omega, by omega⟩) (fun c1 => ?_) (fun c1 => ?_)
  · skip
    refine g_iconst hc dX13_isDigit_53 ?_
    refine g_zret hc hm (by first | exact g_b01 | omega) dX13_isDigit_54 ?_
    first | (exfalso; omega) | (exfalso; omega) | exact ⟨by rw [g_b1 (by rw [hbb, if_neg (by omega)]; omega)], rfl, rfl, rfl, rfl⟩ | exact ⟨by rw [g_b0 (fun z => by rw [hbb] at z; split at z <;> omega)], rfl, rfl, rfl, rfl⟩ | exact ⟨by rw [g_b0 (fun z => by omega)], rfl, rfl, rfl, rfl⟩
  · skip
    refine g_aldn hc dX13_isDigit_11 rfl ?_
    refine g_getRvk hc lk_X13_23 ca_703 (rc_703_5 hR) dX13_isDigit_12 ?_
    refine g_aldn hc dX13_isDigit_15 rfl ?_
    refine g_getIe hc lk_X13_131 ca_703 8 rfl ((y_M_j (by decide)).trans he1) dX13_isDigit_16 ?_
    refine g_aldn hc dX13_isDigit_19 rfl ?_
    refine g_getIe hc lk_X13_125 ca_703 10 rfl (y_M_a) dX13_isDigit_20 ?_
    refine g_iadd hc dX13_isDigit_23 ?_
    refine g_balde hc hat (Nat.lt_of_le_of_lt he5 (by decide)) (by omega) (by omega) (congrFun (y_M_k hx3) _) dX13_isDigit_24 ?_
    have hbb := y_bb (o := o) (j := a) hB
    have hbr := hB (o + a)
    refine g_bipush hc dX13_isDigit_25 (by decide +kernel) ?_
    refine g_icmp_lt (tgt := 53) hc dX13_isDigit_27 (by decide) (by first | exact hI _ _ | exact y_sg32 (by omega) hB | exact g_b32 | exact g_and32 | assumption | exact ⟨by omega, by omega⟩) (by first | exact hI _ _ | exact y_sg32 (by omega) hB | exact g_b32 | exact g_and32 | assumption | exact ⟨by omega, by omega⟩) (fun c2 => ?_) (fun c2 => ?_)
    · skip
      refine g_iconst hc dX13_isDigit_53 ?_
      refine g_zret hc hm (by first | exact g_b01 | omega) dX13_isDigit_54 ?_
      first | (exfalso; omega) | (exfalso; omega) | exact ⟨by rw [g_b1 (by rw [hbb, if_neg (by omega)]; omega)], rfl, rfl, rfl, rfl⟩ | exact ⟨by rw [g_b0 (fun z => by rw [hbb] at z; split at z <;> omega)], rfl, rfl, rfl, rfl⟩ | exact ⟨by rw [g_b0 (fun z => by omega)], rfl, rfl, rfl, rfl⟩
    · skip
      refine g_aldn hc dX13_isDigit_30 rfl ?_
      refine g_getRvk hc lk_X13_23 ca_703 (rc_703_5 hR) dX13_isDigit_31 ?_
      refine g_aldn hc dX13_isDigit_34 rfl ?_
      refine g_getIe hc lk_X13_131 ca_703 8 rfl ((y_M_j (by decide)).trans he1) dX13_isDigit_35 ?_
      refine g_aldn hc dX13_isDigit_38 rfl ?_
      refine g_getIe hc lk_X13_125 ca_703 10 rfl (y_M_a) dX13_isDigit_39 ?_
      refine g_iadd hc dX13_isDigit_42 ?_
      refine g_balde hc hat (Nat.lt_of_le_of_lt he5 (by decide)) (by omega) (by omega) (congrFun (y_M_k hx3) _) dX13_isDigit_43 ?_
      refine g_bipush hc dX13_isDigit_44 (by decide +kernel) ?_
      refine g_icmp_gt (tgt := 53) hc dX13_isDigit_46 (by decide) (by first | exact hI _ _ | exact y_sg32 (by omega) hB | exact g_b32 | exact g_and32 | assumption | exact ⟨by omega, by omega⟩) (by first | exact hI _ _ | exact y_sg32 (by omega) hB | exact g_b32 | exact g_and32 | assumption | exact ⟨by omega, by omega⟩) (fun c3 => ?_) (fun c3 => ?_)
      · skip
        refine g_iconst hc dX13_isDigit_53 ?_
        refine g_zret hc hm (by first | exact g_b01 | omega) dX13_isDigit_54 ?_
        first | (exfalso; omega) | (exfalso; omega) | exact ⟨by rw [g_b1 (by rw [hbb, if_neg (by omega)]; omega)], rfl, rfl, rfl, rfl⟩ | exact ⟨by rw [g_b0 (fun z => by rw [hbb] at z; split at z <;> omega)], rfl, rfl, rfl, rfl⟩ | exact ⟨by rw [g_b0 (fun z => by omega)], rfl, rfl, rfl, rfl⟩
      · skip
        refine g_iconst hc dX13_isDigit_49 ?_
        refine g_goto (tgt := 54) hc dX13_isDigit_50 (by decide) ?_
        refine g_zret hc hm (by first | exact g_b01 | omega) dX13_isDigit_54 ?_
        first | (exfalso; omega) | (exfalso; omega) | exact ⟨by rw [g_b1 (by rw [hbb, if_neg (by omega)]; omega)], rfl, rfl, rfl, rfl⟩ | exact ⟨by rw [g_b0 (fun z => by rw [hbb] at z; split at z <;> omega)], rfl, rfl, rfl, rfl⟩ | exact ⟨by rw [g_b0 (fun z => by omega)], rfl, rfl, rfl, rfl⟩
set_option maxHeartbeats 4000000 in
set_option maxRecDepth 100000 in
/-- X13_within -/
theorem c_X13_within (w : g_W) {I : g_I} {J : g_J} {R : g_R} {v : Int} (h1 : g64 v) : g_Met w g_n I J R yX13_within cX13_within 2 (some .int) 1 0 0 [(gvL v)] (g_post (some (gvI (max (-1000000) (min 1000000 v)))) g_n I J R) := by
  refine g_intro (own := RX13) [some (gvL v), none] (by decide +kernel) rfl (by decide) (Nat.le_of_ble_eq_true rfl) rfl (fun i v hv => g_args 0 i v hv rfl) (fun x hc hm => ?_)
  obtain ⟨h2, h3⟩ := h1
  refine g_ldc2 (k := (-1000000)) hc dX13_within_0 _ lc_X13_147 (by decide +kernel) ?_
  refine g_ldc2 (k := 1000000) hc dX13_within_3 _ lc_X13_149 (by decide +kernel) ?_
  refine g_lload_n hc dX13_within_6 rfl ?_
  refine g_mminL hc (by exact ⟨by omega, by omega⟩) (by exact ⟨by omega, by omega⟩) rfl mm_mminL_X13_151 mm_sta_mminL mm_ini mm_cod_mminL (by decide) (Nat.le_of_ble_eq_true rfl) hm dX13_within_7 ?_
  refine g_mmaxL hc (by exact ⟨by omega, by omega⟩) (by exact ⟨by omega, by omega⟩) rfl mm_mmaxL_X13_157 mm_sta_mmaxL mm_ini mm_cod_mmaxL (by decide) (Nat.le_of_ble_eq_true rfl) hm dX13_within_10 ?_
  refine g_l2i hc dX13_within_13 ?_
  refine g_iret hc hm dX13_within_14 ?_
  first | (exfalso; omega) | exact ⟨rfl, rfl, rfl, rfl, rfl⟩ | exact ⟨by rw [g_b1 (by omega)], rfl, rfl, rfl, rfl⟩ | exact ⟨by rw [g_b0 (by omega)], rfl, rfl, rfl, rfl⟩
set_option maxHeartbeats 4000000 in
set_option maxRecDepth 100000 in
/-- X13_isSign -/
theorem c_X13_isSign (w : g_W) {I : g_I} {J : g_J} {R : g_R} {c : Int} (h1 : g32 c) : g_Met w g_n I J R yX13_isSign cX13_isSign 1 (some .boolean) 0 0 0 [(gvI c)] (g_post (some (gvI (g_b (t_cp c)))) g_n I J R) := by
  refine g_intro (own := RX13) [some (gvI c)] (by decide +kernel) rfl (by decide) (Nat.le_of_ble_eq_true rfl) rfl (fun i v hv => g_args 0 i v hv rfl) (fun x hc hm => ?_)
  obtain ⟨v1, v2⟩ := id h1
  refine g_iload_n hc dX13_isSign_0 rfl ?_
  refine g_bipush hc dX13_isSign_1 (by decide +kernel) ?_
  refine g_icmp_eq (tgt := 18) hc dX13_isSign_3 (by decide) (by first | exact hI _ _ | exact hxI2 _ _ | exact hIa _ _ | exact hIb _ _ | exact g_b32 | exact g_and32 | assumption | exact ⟨by omega, by omega⟩) (by first | exact hI _ _ | exact hxI2 _ _ | exact hIa _ _ | exact hIb _ _ | exact g_b32 | exact g_and32 | assumption | exact ⟨by omega, by omega⟩) (fun c1 => ?_) (fun c1 => ?_)
  · skip
    refine g_iconst hc dX13_isSign_18 ?_
    refine g_goto (tgt := 23) hc dX13_isSign_19 (by decide) ?_
    refine g_zret hc hm (by first | exact g_b01 | omega) dX13_isSign_23 ?_
    first | (exfalso; omega) | exact ⟨by rw [g_b1 (by unfold t_cp; omega)], rfl, rfl, rfl, rfl⟩ | exact ⟨by rw [g_b0 (by unfold t_cp; omega)], rfl, rfl, rfl, rfl⟩
  · skip
    refine g_iload_n hc dX13_isSign_6 rfl ?_
    refine g_bipush hc dX13_isSign_7 (by decide +kernel) ?_
    refine g_icmp_eq (tgt := 18) hc dX13_isSign_9 (by decide) (by first | exact hI _ _ | exact hxI2 _ _ | exact hIa _ _ | exact hIb _ _ | exact g_b32 | exact g_and32 | assumption | exact ⟨by omega, by omega⟩) (by first | exact hI _ _ | exact hxI2 _ _ | exact hIa _ _ | exact hIb _ _ | exact g_b32 | exact g_and32 | assumption | exact ⟨by omega, by omega⟩) (fun c2 => ?_) (fun c2 => ?_)
    · skip
      refine g_iconst hc dX13_isSign_18 ?_
      refine g_goto (tgt := 23) hc dX13_isSign_19 (by decide) ?_
      refine g_zret hc hm (by first | exact g_b01 | omega) dX13_isSign_23 ?_
      first | (exfalso; omega) | exact ⟨by rw [g_b1 (by unfold t_cp; omega)], rfl, rfl, rfl, rfl⟩ | exact ⟨by rw [g_b0 (by unfold t_cp; omega)], rfl, rfl, rfl, rfl⟩
    · skip
      refine g_iload_n hc dX13_isSign_12 rfl ?_
      refine g_bipush hc dX13_isSign_13 (by decide +kernel) ?_
      refine g_icmp_ne (tgt := 22) hc dX13_isSign_15 (by decide) (by first | exact hI _ _ | exact hxI2 _ _ | exact hIa _ _ | exact hIb _ _ | exact g_b32 | exact g_and32 | assumption | exact ⟨by omega, by omega⟩) (by first | exact hI _ _ | exact hxI2 _ _ | exact hIa _ _ | exact hIb _ _ | exact g_b32 | exact g_and32 | assumption | exact ⟨by omega, by omega⟩) (fun c3 => ?_) (fun c3 => ?_)
      · skip
        refine g_iconst hc dX13_isSign_22 ?_
        refine g_zret hc hm (by first | exact g_b01 | omega) dX13_isSign_23 ?_
        first | (exfalso; omega) | exact ⟨by rw [g_b1 (by unfold t_cp; omega)], rfl, rfl, rfl, rfl⟩ | exact ⟨by rw [g_b0 (by unfold t_cp; omega)], rfl, rfl, rfl, rfl⟩
      · skip
        refine g_iconst hc dX13_isSign_18 ?_
        refine g_goto (tgt := 23) hc dX13_isSign_19 (by decide) ?_
        refine g_zret hc hm (by first | exact g_b01 | omega) dX13_isSign_23 ?_
        first | (exfalso; omega) | exact ⟨by rw [g_b1 (by unfold t_cp; omega)], rfl, rfl, rfl, rfl⟩ | exact ⟨by rw [g_b0 (by unfold t_cp; omega)], rfl, rfl, rfl, rfl⟩
set_option maxHeartbeats 4000000 in
set_option maxRecDepth 100000 in
/-- X13_isAmong -/
theorem c_isAmong3 (w : g_W) {I : g_I} {J : g_J} {R : g_R} {c : Int} (h1 : g32 c) : g_Met w g_n I J R yX13_isAmong cX13_isAmong 3 (some .boolean) 4 0 0 [(.ref (w.2.2.2.2 103)), (gvI c)] (g_post (some (gvI (g_b (0 ≤ t_lt c)))) g_n I J R) := by
  refine g_intro (own := RX13) [some (.ref (w.2.2.2.2 103)), some (gvI c), none] (by decide +kernel) rfl (by decide) (Nat.le_of_ble_eq_true rfl) rfl (fun i v hv => g_args 1 i v hv rfl) (fun x hc hm => ?_)
  have hlen : g_tln 3 = 8 := by decide +kernel
  have htx : ∀ j : Fin 8, 0 ≤ g_tx 3 j.val ∧ g_tx 3 j.val < 128 := by decide +kernel
  refine g_iconst hc dX13_isAmong_0 ?_
  refine g_istore_2 hc dX13_isAmong_1 rfl ?_
  have lp_2 : ∀ (fu : Nat) (i : Int), 0 ≤ i ∧ i ≤ 8 → g_first (fun j => decide (g_tx 3 j = c)) 8 0 = g_first (fun j => decide (g_tx 3 j = c)) (8 - i).toNat i → 8 - i < (fu : Int) → G w x (g_post (some (gvI (g_b (0 ≤ t_lt c)))) g_n I J R) 0 0 g_n I J R 2 [some (.ref (w.2.2.2.2 103)), some (gvI c), some (gvI i)] [] := by
    intro fu
    induction fu with
    | zero => intro i h3 h4 hfu; exfalso; omega
    | succ fu ih =>
      intro i h3 h4 hfu
      have ih_2 := ih
      refine g_iload_n hc dX13_isAmong_2 rfl ?_
      refine g_aload_n hc dX13_isAmong_3 rfl ?_
      refine g_T0r (i := 3) (by decide) hc (c_J0_length_8abf5 w (by decide)) my_J0_length_8abf5 mv_J0_length_8abf5 rfl lm_X13_105 rfl (by decide) (Nat.le_of_ble_eq_true rfl) hm dX13_isAmong_4 ?_
      refine g_icmp_ge (tgt := 27) hc dX13_isAmong_7 (by decide) (by first | exact hI _ _ | exact hxI2 _ _ | exact hIa _ _ | exact hIb _ _ | exact g_b32 | exact g_and32 | assumption | exact ⟨by omega, by omega⟩) (by first | exact hI _ _ | exact hxI2 _ _ | exact hIa _ _ | exact hIb _ _ | exact g_b32 | exact g_and32 | assumption | exact ⟨by omega, by omega⟩) (fun c1 => ?_) (fun c1 => ?_)
      · skip
        refine g_iconst hc dX13_isAmong_27 ?_
        refine g_zret hc hm (by first | exact g_b01 | omega) dX13_isAmong_28 ?_
        exact ⟨by rw [g_b0 (fun z => by rw [t_lt, h4, g_first_e (n := 8) (by omega)] at z; split at z <;> omega)], rfl, rfl, rfl, rfl⟩
      · skip
        refine g_aload_n hc dX13_isAmong_10 rfl ?_
        refine g_iload_n hc dX13_isAmong_11 rfl ?_
        refine g_T1r (i := 3) (by decide) hc (c_J0_charAt_5068e w (by decide) (by omega)) my_J0_charAt_5068e mv_J0_charAt_5068e rfl lm_X13_111 rfl (by decide) (Nat.le_of_ble_eq_true rfl) hm dX13_isAmong_12 ?_
        refine g_iload_n hc dX13_isAmong_15 rfl ?_
        refine g_icmp_ne (tgt := 21) hc dX13_isAmong_16 (by decide) (by have := htx ⟨i.toNat, by omega⟩; dsimp only at this; rw [show ((i.toNat : Nat) : Int) = i by omega] at this; exact ⟨by omega, by omega⟩) h1 (fun c2 => ?_) (fun c2 => ?_)
        · skip
          refine g_iinc_2 hc dX13_isAmong_21 rfl ?_
          refine g_goto (tgt := 2) hc dX13_isAmong_24 (by decide) ?_
          refine ih_2 _ ?_ ?_ ?_
          · omega
          · rw [h4, g_first_f (n := 8) (by omega) (by simp only [decide_eq_true_eq]; assumption)]
          · omega
        · skip
          refine g_iconst hc dX13_isAmong_19 ?_
          refine g_zret hc hm (by first | exact g_b01 | omega) dX13_isAmong_20 ?_
          have hti := htx ⟨i.toNat, by omega⟩
          dsimp only at hti
          rw [show ((i.toNat : Nat) : Int) = i by omega] at hti
          exact ⟨by rw [g_b1 (by rw [t_lt, if_neg (by omega), h4, g_first_t (n := 8) (by omega) (by simp only [decide_eq_true_eq]; assumption)]; omega)], rfl, rfl, rfl, rfl⟩
  refine lp_2 9 _ ?_ ?_ (?_)
  · omega
  · rfl
  · omega
set_option maxHeartbeats 4000000 in
set_option maxRecDepth 100000 in
/-- X13_isAmong -/
theorem c_isAmong9 (w : g_W) {I : g_I} {J : g_J} {R : g_R} {c : Int} (h1 : g32 c) : g_Met w g_n I J R yX13_isAmong cX13_isAmong 3 (some .boolean) 4 0 0 [(.ref (w.2.2.2.2 109)), (gvI c)] (g_post (some (gvI (g_b (c = 121)))) g_n I J R) := by
  refine g_intro (own := RX13) [some (.ref (w.2.2.2.2 109)), some (gvI c), none] (by decide +kernel) rfl (by decide) (Nat.le_of_ble_eq_true rfl) rfl (fun i v hv => g_args 1 i v hv rfl) (fun x hc hm => ?_)
  have hlen : g_tln 9 = 1 := by decide +kernel
  have htx : ∀ j : Fin 1, 0 ≤ g_tx 9 j.val ∧ g_tx 9 j.val < 128 := by decide +kernel
  refine g_iconst hc dX13_isAmong_0 ?_
  refine g_istore_2 hc dX13_isAmong_1 rfl ?_
  have lp_2 : ∀ (fu : Nat) (i : Int), 0 ≤ i ∧ i ≤ 1 → g_first (fun j => decide (g_tx 9 j = c)) 1 0 = g_first (fun j => decide (g_tx 9 j = c)) (1 - i).toNat i → 1 - i < (fu : Int) → G w x (g_post (some (gvI (g_b (c = 121)))) g_n I J R) 0 0 g_n I J R 2 [some (.ref (w.2.2.2.2 109)), some (gvI c), some (gvI i)] [] := by
    intro fu
    induction fu with
    | zero => intro i h3 h4 hfu; exfalso; omega
    | succ fu ih =>
      intro i h3 h4 hfu
      have ih_2 := ih
      refine g_iload_n hc dX13_isAmong_2 rfl ?_
      refine g_aload_n hc dX13_isAmong_3 rfl ?_
      refine g_T0r (i := 9) (by decide) hc (c_J0_length_8abf5 w (by decide)) my_J0_length_8abf5 mv_J0_length_8abf5 rfl lm_X13_105 rfl (by decide) (Nat.le_of_ble_eq_true rfl) hm dX13_isAmong_4 ?_
      refine g_icmp_ge (tgt := 27) hc dX13_isAmong_7 (by decide) (by first | exact hI _ _ | exact hxI2 _ _ | exact hIa _ _ | exact hIb _ _ | exact g_b32 | exact g_and32 | assumption | exact ⟨by omega, by omega⟩) (by first | exact hI _ _ | exact hxI2 _ _ | exact hIa _ _ | exact hIb _ _ | exact g_b32 | exact g_and32 | assumption | exact ⟨by omega, by omega⟩) (fun c1 => ?_) (fun c1 => ?_)
      · skip
        refine g_iconst hc dX13_isAmong_27 ?_
        refine g_zret hc hm (by first | exact g_b01 | omega) dX13_isAmong_28 ?_
        have h9 : g_tx 9 0 = 121 := by decide +kernel
        exact ⟨by rw [g_b0 (fun z => by rw [g_first_e (n := 1) (by omega), show ((1 : Nat)) = 0 + 1 from rfl, g_first, if_pos (by simp only [decide_eq_true_eq]; rw [h9, z])] at h4; omega)], rfl, rfl, rfl, rfl⟩
      · skip
        refine g_aload_n hc dX13_isAmong_10 rfl ?_
        refine g_iload_n hc dX13_isAmong_11 rfl ?_
        refine g_T1r (i := 9) (by decide) hc (c_J0_charAt_5068e w (by decide) (by omega)) my_J0_charAt_5068e mv_J0_charAt_5068e rfl lm_X13_111 rfl (by decide) (Nat.le_of_ble_eq_true rfl) hm dX13_isAmong_12 ?_
        refine g_iload_n hc dX13_isAmong_15 rfl ?_
        refine g_icmp_ne (tgt := 21) hc dX13_isAmong_16 (by decide) (by have := htx ⟨i.toNat, by omega⟩; dsimp only at this; rw [show ((i.toNat : Nat) : Int) = i by omega] at this; exact ⟨by omega, by omega⟩) h1 (fun c2 => ?_) (fun c2 => ?_)
        · skip
          refine g_iinc_2 hc dX13_isAmong_21 rfl ?_
          refine g_goto (tgt := 2) hc dX13_isAmong_24 (by decide) ?_
          refine ih_2 _ ?_ ?_ ?_
          · omega
          · rw [h4, g_first_f (n := 1) (by omega) (by simp only [decide_eq_true_eq]; assumption)]
          · omega
        · skip
          refine g_iconst hc dX13_isAmong_19 ?_
          refine g_zret hc hm (by first | exact g_b01 | omega) dX13_isAmong_20 ?_
          have hti := htx ⟨i.toNat, by omega⟩
          dsimp only at hti
          rw [show ((i.toNat : Nat) : Int) = i by omega] at hti
          have h9 : g_tx 9 0 = 121 := by decide +kernel
          exact ⟨by rw [g_b1 (by rw [← h9, ← show i = 0 by omega]; symm; assumption)], rfl, rfl, rfl, rfl⟩
  refine lp_2 9 _ ?_ ?_ (?_)
  · omega
  · rfl
  · omega
