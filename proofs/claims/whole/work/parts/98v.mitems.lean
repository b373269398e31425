theorem z_sgm {B : Int → Int} {n a : Int} (hB : ∀ j, 0 ≤ B j ∧ B j ≤ 255) : -1 ≤ g_sgn B n a ∧ g_sgn B n a ≤ 255 := by
  unfold g_sgn
  split
  · have := hB (g_pos B n a); omega
  · omega
theorem z_sg32 {B : Int → Int} {n a : Int} (hB : ∀ j, 0 ≤ B j ∧ B j ≤ 255) : g32 (g_sgn B n a) := by
  have := z_sgm (n := n) (a := a) hB
  exact ⟨by omega, by omega⟩
set_option maxHeartbeats 4000000 in
set_option maxRecDepth 100000 in
/-- X13_placeOf -/
theorem c_X13_placeOf (w : g_W) {I : g_I} {J : g_J} {R : g_R} {i : Nat} (hi : i < 12) {c : Int} (h1 : g32 c) : g_Met w g_n I J R yX13_placeOf cX13_placeOf 3 (some .int) 4 0 0 [(.ref (w.2.2.2.2 (100 + i))), (gvI c)] (g_post (some (gvI (g_inx i c))) g_n I J R) := by
  refine g_intro (own := RX13) [some (.ref (w.2.2.2.2 (100 + i))), some (gvI c), none] (by decide +kernel) rfl (by decide) (Nat.le_of_ble_eq_true rfl) rfl (fun i v hv => g_args 1 i v hv rfl) (fun x hc hm => ?_)
  have htl := g_tln_in (i := i)
  refine g_iconst hc dX13_placeOf_0 ?_
  refine g_istore_2 hc dX13_placeOf_1 rfl ?_
  have lp_2 : ∀ (fu : Nat) (k : Int), 0 ≤ k ∧ k ≤ g_tln i → g_inx i c = g_first (fun j => decide (g_tx i j = c)) (g_tln i - k).toNat k → g_tln i - k < (fu : Int) → G w x (g_post (some (gvI (g_inx i c))) g_n I J R) 0 0 g_n I J R 2 [some (.ref (w.2.2.2.2 (100 + i))), some (gvI c), some (gvI k)] [] := by
    intro fu
    induction fu with
    | zero => intro k h3 h4 hfu; exfalso; omega
    | succ fu ih =>
      intro k h3 h4 hfu
      have ih_2 := ih
      refine g_iload_n hc dX13_placeOf_2 rfl ?_
      refine g_aload_n hc dX13_placeOf_3 rfl ?_
      refine g_T0r (i := i) hi hc (c_J0_length_8abf5 w hi) my_J0_length_8abf5 mv_J0_length_8abf5 rfl lm_X13_105 rfl (by decide) (Nat.le_of_ble_eq_true rfl) hm dX13_placeOf_4 ?_
      refine g_icmp_ge (tgt := 27) hc dX13_placeOf_7 (by decide) (by first | exact hI _ _ | exact hxI2 _ _ | exact hIa _ _ | exact hIb _ _ | exact g_b32 | exact g_and32 | assumption | exact ⟨by omega, by omega⟩) (by first | exact hI _ _ | exact hxI2 _ _ | exact hIa _ _ | exact hIb _ _ | exact g_b32 | exact g_and32 | assumption | exact ⟨by omega, by omega⟩) (fun c1 => ?_) (fun c1 => ?_)
      · skip
        refine g_iconst hc dX13_placeOf_27 ?_
        refine g_iret hc hm dX13_placeOf_28 ?_
        exact ⟨by rw [h4, g_first_e (by omega)], rfl, rfl, rfl, rfl⟩
      · skip
        refine g_aload_n hc dX13_placeOf_10 rfl ?_
        refine g_iload_n hc dX13_placeOf_11 rfl ?_
        refine g_T1r (i := i) hi hc (c_J0_charAt_5068e w hi (by omega)) my_J0_charAt_5068e mv_J0_charAt_5068e rfl lm_X13_111 rfl (by decide) (Nat.le_of_ble_eq_true rfl) hm dX13_placeOf_12 ?_
        refine g_iload_n hc dX13_placeOf_15 rfl ?_
        refine g_icmp_ne (tgt := 21) hc dX13_placeOf_16 (by decide) (by have := (g_txc hi h3.1 (by omega)).2.2; exact ⟨by omega, by omega⟩) h1 (fun c2 => ?_) (fun c2 => ?_)
        · skip
          refine g_iinc_2 hc dX13_placeOf_21 rfl ?_
          refine g_goto (tgt := 2) hc dX13_placeOf_24 (by decide) ?_
          refine ih_2 _ ?_ ?_ ?_
          · omega
          · rw [h4, g_first_f (by omega) (by simp only [decide_eq_true_eq]; assumption)]
          · omega
        · skip
          refine g_iload_n hc dX13_placeOf_19 rfl ?_
          refine g_iret hc hm dX13_placeOf_20 ?_
          exact ⟨by rw [h4, g_first_t (by omega) (by simp only [decide_eq_true_eq]; assumption)], rfl, rfl, rfl, rfl⟩
  refine lp_2 13 _ ?_ ?_ (?_)
  · omega
  · rw [Int.sub_zero]; rfl
  · omega
set_option maxHeartbeats 4000000 in
set_option maxRecDepth 100000 in
/-- X13_look -/
theorem d_look (w : g_W) {J : g_J} {R : g_R} {lb tx ln : Nat} (hR : g_rf w R lb tx) {M : g_I} {o n : Int} {Lf : Int → Int} (he : y_env M tx ln o n Lf) {a q d : Int} (ha : 0 ≤ a ∧ a ≤ n) (hq : -1 ≤ q ∧ q ≤ 240) : g_Met w g_n (y_M M a q d) J R yX13_look cX13_look 1 (some .int) 0 0 0 [(gvr w 703)] (g_post (some (gvI (g_sgn (q_by M tx o) n a))) g_n (y_M M (g_pos (q_by M tx o) n a) q d) J R) := by
  refine g_intro (own := RX13) [some (gvr w 703)] (by decide +kernel) rfl (by decide) (Nat.le_of_ble_eq_true rfl) rfl (fun i v hv => g_args 0 i v hv rfl) (fun x hc hm => ?_)
  obtain ⟨⟨he1, he2⟩, ⟨he3, he4, he5⟩, he6, hB, hI, hLt, hat, hx3⟩ := id he
  have lp_0 : ∀ (fu : Nat) (i : Int), 0 ≤ i ∧ i ≤ n → g_pos (q_by M tx o) n i = g_pos (q_by M tx o) n a → n - i < (fu : Int) → G w x (g_post (some (gvI (g_sgn (q_by M tx o) n a))) g_n (y_M M (g_pos (q_by M tx o) n a) q d) J R) 0 0 g_n (y_M M i q d) J R 0 [some (gvr w 703)] [] := by
    intro fu
    induction fu with
    | zero => intro i h3 h4 hfu; exfalso; omega
    | succ fu ih =>
      intro i h3 h4 hfu
      have ih_0 := ih
      refine g_aldn hc dX13_look_0 rfl ?_
      refine g_getIe hc lk_X13_125 ca_703 10 rfl (y_M_a) dX13_look_1 ?_
      refine g_aldn hc dX13_look_4 rfl ?_
      refine g_getIe hc lk_X13_128 ca_703 9 rfl ((y_M_j (by decide)).trans he2) dX13_look_5 ?_
      refine g_icmp_ge (tgt := 43) hc dX13_look_8 (by decide) (by first | exact hI _ _ | exact y_sg32 (by omega) hB | exact g_b32 | exact g_and32 | assumption | exact ⟨by omega, by omega⟩) (by first | exact hI _ _ | exact y_sg32 (by omega) hB | exact g_b32 | exact g_and32 | assumption | exact ⟨by omega, by omega⟩) (fun c1 => ?_) (fun c1 => ?_)
      · skip
        refine g_aldn hc dX13_look_43 rfl ?_
        refine g_getIe hc lk_X13_125 ca_703 10 rfl (y_M_a) dX13_look_44 ?_
        refine g_aldn hc dX13_look_47 rfl ?_
        refine g_getIe hc lk_X13_128 ca_703 9 rfl ((y_M_j (by decide)).trans he2) dX13_look_48 ?_
        refine g_icmp_ge (tgt := 75) hc dX13_look_51 (by decide) (by first | exact hI _ _ | exact y_sg32 (by omega) hB | exact g_b32 | exact g_and32 | assumption | exact ⟨by omega, by omega⟩) (by first | exact hI _ _ | exact y_sg32 (by omega) hB | exact g_b32 | exact g_and32 | assumption | exact ⟨by omega, by omega⟩) (fun c2 => ?_) (fun c2 => ?_)
        · skip
          refine g_iconst hc dX13_look_75 ?_
          refine g_iret hc hm dX13_look_76 ?_
          first | (exfalso; omega) | (exfalso; omega) | (obtain ⟨e1, e2⟩ := y_lk2 h4 (by omega); exact ⟨by rw [e1], rfl, by rw [e2], rfl, rfl⟩)
        · skip
          refine g_aldn hc dX13_look_54 rfl ?_
          refine g_getRvk hc lk_X13_23 ca_703 (rc_703_5 hR) dX13_look_55 ?_
          refine g_aldn hc dX13_look_58 rfl ?_
          refine g_getIe hc lk_X13_131 ca_703 8 rfl ((y_M_j (by decide)).trans he1) dX13_look_59 ?_
          refine g_aldn hc dX13_look_62 rfl ?_
          refine g_getIe hc lk_X13_125 ca_703 10 rfl (y_M_a) dX13_look_63 ?_
          refine g_iadd hc dX13_look_66 ?_
          refine g_balde hc hat (Nat.lt_of_le_of_lt he5 (by decide)) (by omega) (by omega) (congrFun (y_M_k hx3) _) dX13_look_67 ?_
          refine g_sipush hc dX13_look_68 (by decide +kernel) ?_
          refine g_iand hc dX13_look_71 ?_
          refine g_goto (tgt := 76) hc dX13_look_72 (by decide) ?_
          refine g_iret hc hm dX13_look_76 ?_
          first | (exfalso; omega) | (exfalso; omega) | (obtain ⟨e1, e2⟩ := y_lk1 h4 (by omega) hbn; exact ⟨by rw [e1], rfl, by rw [e2], rfl, rfl⟩)
      · skip
        refine g_aldn hc dX13_look_11 rfl ?_
        refine g_getRvk hc lk_X13_23 ca_703 (rc_703_5 hR) dX13_look_12 ?_
        refine g_aldn hc dX13_look_15 rfl ?_
        refine g_getIe hc lk_X13_131 ca_703 8 rfl ((y_M_j (by decide)).trans he1) dX13_look_16 ?_
        refine g_aldn hc dX13_look_19 rfl ?_
        refine g_getIe hc lk_X13_125 ca_703 10 rfl (y_M_a) dX13_look_20 ?_
        refine g_iadd hc dX13_look_23 ?_
        refine g_balde hc hat (Nat.lt_of_le_of_lt he5 (by decide)) (by omega) (by omega) (congrFun (y_M_k hx3) _) dX13_look_24 ?_
        refine g_bipush hc dX13_look_25 (by decide +kernel) ?_
        refine g_icmp_ne (tgt := 43) hc dX13_look_27 (by decide) (by first | exact hI _ _ | exact y_sg32 (by omega) hB | exact g_b32 | exact g_and32 | assumption | exact ⟨by omega, by omega⟩) (by first | exact hI _ _ | exact y_sg32 (by omega) hB | exact g_b32 | exact g_and32 | assumption | exact ⟨by omega, by omega⟩) (fun c3 => ?_) (fun c3 => ?_)
        · skip
          have hbn : ¬ q_by M tx o i = 32 := by have h9 := hB (o + i); rw [y_bb hB]; split <;> omega
          refine g_aldn hc dX13_look_43 rfl ?_
          refine g_getIe hc lk_X13_125 ca_703 10 rfl (y_M_a) dX13_look_44 ?_
          refine g_aldn hc dX13_look_47 rfl ?_
          refine g_getIe hc lk_X13_128 ca_703 9 rfl ((y_M_j (by decide)).trans he2) dX13_look_48 ?_
          refine g_icmp_ge (tgt := 75) hc dX13_look_51 (by decide) (by first | exact hI _ _ | exact y_sg32 (by omega) hB | exact g_b32 | exact g_and32 | assumption | exact ⟨by omega, by omega⟩) (by first | exact hI _ _ | exact y_sg32 (by omega) hB | exact g_b32 | exact g_and32 | assumption | exact ⟨by omega, by omega⟩) (fun c4 => ?_) (fun c4 => ?_)
          · skip
            refine g_iconst hc dX13_look_75 ?_
            refine g_iret hc hm dX13_look_76 ?_
            first | (exfalso; omega) | (exfalso; omega) | (obtain ⟨e1, e2⟩ := y_lk2 h4 (by omega); exact ⟨by rw [e1], rfl, by rw [e2], rfl, rfl⟩)
          · skip
            refine g_aldn hc dX13_look_54 rfl ?_
            refine g_getRvk hc lk_X13_23 ca_703 (rc_703_5 hR) dX13_look_55 ?_
            refine g_aldn hc dX13_look_58 rfl ?_
            refine g_getIe hc lk_X13_131 ca_703 8 rfl ((y_M_j (by decide)).trans he1) dX13_look_59 ?_
            refine g_aldn hc dX13_look_62 rfl ?_
            refine g_getIe hc lk_X13_125 ca_703 10 rfl (y_M_a) dX13_look_63 ?_
            refine g_iadd hc dX13_look_66 ?_
            refine g_balde hc hat (Nat.lt_of_le_of_lt he5 (by decide)) (by omega) (by omega) (congrFun (y_M_k hx3) _) dX13_look_67 ?_
            refine g_sipush hc dX13_look_68 (by decide +kernel) ?_
            refine g_iand hc dX13_look_71 ?_
            refine g_goto (tgt := 76) hc dX13_look_72 (by decide) ?_
            refine g_iret hc hm dX13_look_76 ?_
            first | (exfalso; omega) | (exfalso; omega) | (obtain ⟨e1, e2⟩ := y_lk1 h4 (by omega) hbn; exact ⟨by rw [e1], rfl, by rw [e2], rfl, rfl⟩)
        · skip
          have hbb : q_by M tx o i = 32 := by have h9 := hB (o + i); rw [y_bb hB]; split <;> omega
          refine g_aldn hc dX13_look_30 rfl ?_
          refine g_dup hc dX13_look_31 rfl ?_
          refine g_getIe hc lk_X13_125 ca_703 10 rfl (y_M_a) dX13_look_32 ?_
          refine g_iconst hc dX13_look_35 ?_
          refine g_iadd hc dX13_look_36 ?_
          refine g_putIe (I2 := (y_M M (i + 1) q d)) hc lk_X13_125 ca_703 10 rfl y_M_pa dX13_look_37 ?_
          refine g_goto (tgt := 0) hc dX13_look_40 (by decide) ?_
          refine ih_0 _ ?_ ?_ ?_
          · omega
          · rw [← h4, g_pos_b (by omega) hbb]
          · omega
  refine lp_0 241 _ ?_ ?_ (?_)
  · exact ha
  · rfl
  · omega
set_option maxHeartbeats 4000000 in
set_option maxRecDepth 100000 in
/-- X13_fails -/
theorem d_fails (w : g_W) {J : g_J} {R : g_R} {lb tx ln : Nat} (hR : g_rf w R lb tx) {M : g_I} {o n : Int} {Lf : Int → Int} (he : y_env M tx ln o n Lf) {a q d : Int} (ha : 0 ≤ a ∧ a ≤ n) (hq : -1 ≤ q ∧ q ≤ 240) : g_Met w g_n (y_M M a q d) J R yX13_fails cX13_fails 1 (some .boolean) 0 0 0 [(gvr w 703)] (g_post (some (gvI (0))) g_n (y_M M a (g_q1 q a) d) J R) := by
  refine g_intro (own := RX13) [some (gvr w 703)] (by decide +kernel) rfl (by decide) (Nat.le_of_ble_eq_true rfl) rfl (fun i v hv => g_args 0 i v hv rfl) (fun x hc hm => ?_)
  obtain ⟨⟨he1, he2⟩, ⟨he3, he4, he5⟩, he6, hB, hI, hLt, hat, hx3⟩ := id he
  refine g_aldn hc dX13_fails_0 rfl ?_
  refine g_getIe hc lk_X13_134 ca_703 11 rfl (y_M_q) dX13_fails_1 ?_
  refine g_iconst hc dX13_fails_4 ?_
  refine g_icmp_ne (tgt := 16) hc dX13_fails_5 (by decide) (by first | exact hI _ _ | exact y_sg32 (by omega) hB | exact g_b32 | exact g_and32 | assumption | exact ⟨by omega, by omega⟩) (by first | exact hI _ _ | exact y_sg32 (by omega) hB | exact g_b32 | exact g_and32 | assumption | exact ⟨by omega, by omega⟩) (fun c1 => ?_) (fun c1 => ?_)
  · skip
    refine g_iconst hc dX13_fails_16 ?_
    refine g_zret hc hm (by first | exact g_b01 | omega) dX13_fails_17 ?_
    first | (exfalso; omega) | exact ⟨rfl, rfl, by rw [g_q1, if_pos (by omega)], rfl, rfl⟩ | exact ⟨rfl, rfl, by rw [g_q1, if_neg (by omega)], rfl, rfl⟩
  · skip
    refine g_aldn hc dX13_fails_8 rfl ?_
    refine g_aldn hc dX13_fails_9 rfl ?_
    refine g_getIe hc lk_X13_125 ca_703 10 rfl (y_M_a) dX13_fails_10 ?_
    refine g_putIe (I2 := (y_M M a a d)) hc lk_X13_134 ca_703 11 rfl y_M_pq dX13_fails_13 ?_
    refine g_iconst hc dX13_fails_16 ?_
    refine g_zret hc hm (by first | exact g_b01 | omega) dX13_fails_17 ?_
    first | (exfalso; omega) | exact ⟨rfl, rfl, by rw [g_q1, if_pos (by omega)], rfl, rfl⟩ | exact ⟨rfl, rfl, by rw [g_q1, if_neg (by omega)], rfl, rfl⟩
set_option maxHeartbeats 4000000 in
set_option maxRecDepth 100000 in
/-- X13_isDigit -/
theorem d_isDigit (w : g_W) {J : g_J} {R : g_R} {lb tx ln : Nat} (hR : g_rf w R lb tx) {M : g_I} {o n : Int} {Lf : Int → Int} (he : y_env M tx ln o n Lf) {a q d : Int} (ha : 0 ≤ a ∧ a ≤ n) (hq : -1 ≤ q ∧ q ≤ 240) : g_Met w g_n (y_M M a q d) J R yX13_isDigit cX13_isDigit 1 (some .boolean) 0 0 0 [(gvr w 703)] (g_post (some (gvI (g_b (a < n ∧ 48 ≤ (q_by M tx o) a ∧ (q_by M tx o) a ≤ 57)))) g_n (y_M M a q d) J R) := by
  refine g_intro (own := RX13) [some (gvr w 703)] (by decide +kernel) rfl (by decide) (Nat.le_of_ble_eq_true rfl) rfl (fun i v hv => g_args 0 i v hv rfl) (fun x hc hm => ?_)
  obtain ⟨⟨he1, he2⟩, ⟨he3, he4, he5⟩, he6, hB, hI, hLt, hat, hx3⟩ := id he
  refine g_aldn hc dX13_isDigit_0 rfl ?_
  refine g_getIe hc lk_X13_125 ca_703 10 rfl (y_M_a) dX13_isDigit_1 ?_
  refine g_aldn hc dX13_isDigit_4 rfl ?_
  refine g_getIe hc lk_X13_128 ca_703 9 rfl ((y_M_j (by decide)).trans he2) dX13_isDigit_5 ?_
  refine g_icmp_ge (tgt := 53) hc dX13_isDigit_8 (by decide) (by first | exact hI _ _ | exact y_sg32 (by omega) hB | exact g_b32 | exact g_and32 | assumption | exact ⟨by omega, by omega⟩) (by first | exact hI _ _ | exact y_sg32 (by omega) hB | exact g_b32 | exact g_and32 | assumption | exact ⟨by omega, by omega⟩) (fun c1 => ?_) (fun c1 => ?_)
  · skip
    refine g_iconst hc dX13_isDigit_53 ?_
    refine g_zret hc hm (by first | exact g_b01 | omega) dX13_isDigit_54 ?_
    first | (exfalso; omega) | (exfalso; omega) | exact ⟨by rw [g_b1 (by rw [hbb, if_neg (by omega)]; omega)], rfl, rfl, rfl, rfl⟩ | exact ⟨by rw [g_b0 (fun z => by rw [hbb] at z; split at z <;> omega)], rfl, rfl, rfl, rfl⟩ | exact ⟨by rw [g_b0 (fun z => by omega)], rfl, rfl, rfl, rfl⟩
  · skip
    refine g_aldn hc dX13_isDigit_11 rfl ?_
    refine g_getRvk hc lk_X13_23 ca_703 (rc_703_5 hR) dX13_isDigit_12 ?_
    refine g_aldn hc dX13_isDigit_15 rfl ?_
    refine g_getIe hc lk_X13_131 ca_703 8 rfl ((y_M_j (by decide)).trans he1) dX13_isDigit_16 ?_
    refine g_aldn hc dX13_isDigit_19 rfl ?_
    refine g_getIe hc lk_X13_125 ca_703 10 rfl (y_M_a) dX13_isDigit_20 ?_
    refine g_iadd hc dX13_isDigit_23 ?_
    refine g_balde hc hat (Nat.lt_of_le_of_lt he5 (by decide)) (by omega) (by omega) (congrFun (y_M_k hx3) _) dX13_isDigit_24 ?_
    have hbb := y_bb (o := o) (j := a) hB
    have hbr := hB (o + a)
    refine g_bipush hc dX13_isDigit_25 (by decide +kernel) ?_
    refine g_icmp_lt (tgt := 53) hc dX13_isDigit_27 (by decide) (by first | exact hI _ _ | exact y_sg32 (by omega) hB | exact g_b32 | exact g_and32 | assumption | exact ⟨by omega, by omega⟩) (by first | exact hI _ _ | exact y_sg32 (by omega) hB | exact g_b32 | exact g_and32 | assumption | exact ⟨by omega, by omega⟩) (fun c2 => ?_) (fun c2 => ?_)
    · skip
      refine g_iconst hc dX13_isDigit_53 ?_
      refine g_zret hc hm (by first | exact g_b01 | omega) dX13_isDigit_54 ?_
      first | (exfalso; omega) | (exfalso; omega) | exact ⟨by rw [g_b1 (by rw [hbb, if_neg (by omega)]; omega)], rfl, rfl, rfl, rfl⟩ | exact ⟨by rw [g_b0 (fun z => by rw [hbb] at z; split at z <;> omega)], rfl, rfl, rfl, rfl⟩ | exact ⟨by rw [g_b0 (fun z => by omega)], rfl, rfl, rfl, rfl⟩
    · skip
      refine g_aldn hc dX13_isDigit_30 rfl ?_
      refine g_getRvk hc lk_X13_23 ca_703 (rc_703_5 hR) dX13_isDigit_31 ?_
      refine g_aldn hc dX13_isDigit_34 rfl ?_
      refine g_getIe hc lk_X13_131 ca_703 8 rfl ((y_M_j (by decide)).trans he1) dX13_isDigit_35 ?_
      refine g_aldn hc dX13_isDigit_38 rfl ?_
      refine g_getIe hc lk_X13_125 ca_703 10 rfl (y_M_a) dX13_isDigit_39 ?_
      refine g_iadd hc dX13_isDigit_42 ?_
      refine g_balde hc hat (Nat.lt_of_le_of_lt he5 (by decide)) (by omega) (by omega) (congrFun (y_M_k hx3) _) dX13_isDigit_43 ?_
      refine g_bipush hc dX13_isDigit_44 (by decide +kernel) ?_
      refine g_icmp_gt (tgt := 53) hc dX13_isDigit_46 (by decide) (by first | exact hI _ _ | exact y_sg32 (by omega) hB | exact g_b32 | exact g_and32 | assumption | exact ⟨by omega, by omega⟩) (by first | exact hI _ _ | exact y_sg32 (by omega) hB | exact g_b32 | exact g_and32 | assumption | exact ⟨by omega, by omega⟩) (fun c3 => ?_) (fun c3 => ?_)
      · skip
        refine g_iconst hc dX13_isDigit_53 ?_
        refine g_zret hc hm (by first | exact g_b01 | omega) dX13_isDigit_54 ?_
        first | (exfalso; omega) | (exfalso; omega) | exact ⟨by rw [g_b1 (by rw [hbb, if_neg (by omega)]; omega)], rfl, rfl, rfl, rfl⟩ | exact ⟨by rw [g_b0 (fun z => by rw [hbb] at z; split at z <;> omega)], rfl, rfl, rfl, rfl⟩ | exact ⟨by rw [g_b0 (fun z => by omega)], rfl, rfl, rfl, rfl⟩
      · skip
        refine g_iconst hc dX13_isDigit_49 ?_
        refine g_goto (tgt := 54) hc dX13_isDigit_50 (by decide) ?_
        refine g_zret hc hm (by first | exact g_b01 | omega) dX13_isDigit_54 ?_
        first | (exfalso; omega) | (exfalso; omega) | exact ⟨by rw [g_b1 (by rw [hbb, if_neg (by omega)]; omega)], rfl, rfl, rfl, rfl⟩ | exact ⟨by rw [g_b0 (fun z => by rw [hbb] at z; split at z <;> omega)], rfl, rfl, rfl, rfl⟩ | exact ⟨by rw [g_b0 (fun z => by omega)], rfl, rfl, rfl, rfl⟩
set_option maxHeartbeats 4000000 in
set_option maxRecDepth 100000 in
/-- X13_here -/
theorem c_X13_here (w : g_W) {J : g_J} {R : g_R} {lb tx ln : Nat} (hR : g_rf w R lb tx) {M : g_I} {o n : Int} {Lf : Int → Int} (he : y_env M tx ln o n Lf) {a q d : Int} (ha : 0 ≤ a ∧ a ≤ n) (hq : -1 ≤ q ∧ q ≤ 240) : g_Met w g_n (y_M M a q d) J R yX13_here cX13_here 1 (some .int) 0 0 0 [(gvr w 703)] (g_post (some (gvI (if a < n then (q_by M tx o) a else -1))) g_n (y_M M a q d) J R) := by
  refine g_intro (own := RX13) [some (gvr w 703)] (by decide +kernel) rfl (by decide) (Nat.le_of_ble_eq_true rfl) rfl (fun i v hv => g_args 0 i v hv rfl) (fun x hc hm => ?_)
  obtain ⟨⟨he1, he2⟩, ⟨he3, he4, he5⟩, he6, hB, hI, hLt, hat, hx3⟩ := id he
  refine g_aldn hc dX13_here_0 rfl ?_
  refine g_getIe hc lk_X13_125 ca_703 10 rfl (y_M_a) dX13_here_1 ?_
  refine g_aldn hc dX13_here_4 rfl ?_
  refine g_getIe hc lk_X13_128 ca_703 9 rfl ((y_M_j (by decide)).trans he2) dX13_here_5 ?_
  refine g_icmp_ge (tgt := 32) hc dX13_here_8 (by decide) (by first | exact hI _ _ | exact y_sg32 (by omega) hB | exact g_b32 | exact g_and32 | assumption | exact ⟨by omega, by omega⟩) (by first | exact hI _ _ | exact y_sg32 (by omega) hB | exact g_b32 | exact g_and32 | assumption | exact ⟨by omega, by omega⟩) (fun c1 => ?_) (fun c1 => ?_)
  · skip
    refine g_iconst hc dX13_here_32 ?_
    refine g_iret hc hm dX13_here_33 ?_
    first | (exfalso; omega) | (exfalso; omega) | exact ⟨by rw [if_pos (by omega)], rfl, rfl, rfl, rfl⟩ | exact ⟨by rw [if_neg (by omega)], rfl, rfl, rfl, rfl⟩
  · skip
    refine g_aldn hc dX13_here_11 rfl ?_
    refine g_getRvk hc lk_X13_23 ca_703 (rc_703_5 hR) dX13_here_12 ?_
    refine g_aldn hc dX13_here_15 rfl ?_
    refine g_getIe hc lk_X13_131 ca_703 8 rfl ((y_M_j (by decide)).trans he1) dX13_here_16 ?_
    refine g_aldn hc dX13_here_19 rfl ?_
    refine g_getIe hc lk_X13_125 ca_703 10 rfl (y_M_a) dX13_here_20 ?_
    refine g_iadd hc dX13_here_23 ?_
    refine g_balde hc hat (Nat.lt_of_le_of_lt he5 (by decide)) (by omega) (by omega) (congrFun (y_M_k hx3) _) dX13_here_24 ?_
    refine g_sipush hc dX13_here_25 (by decide +kernel) ?_
    refine g_iand hc dX13_here_28 ?_
    refine g_goto (tgt := 33) hc dX13_here_29 (by decide) ?_
    refine g_iret hc hm dX13_here_33 ?_
    first | (exfalso; omega) | (exfalso; omega) | exact ⟨by rw [if_pos (by omega)], rfl, rfl, rfl, rfl⟩ | exact ⟨by rw [if_neg (by omega)], rfl, rfl, rfl, rfl⟩
/-! ===== ITEMS: the reference beside m_items ===== -/
theorem z_inx {X : Nat} {c : Int} (hX : X < 12) (hc : -1 ≤ c) : g_inx X c = m_it X c := by
  unfold m_it
  by_cases e : c < 0
  · rw [if_pos e]
    have h : ∀ (m : Nat) (j : Int), 0 ≤ j → j + m ≤ g_tln X → g_first (fun j => decide (g_tx X j = c)) m j = -1 := by
      intro m
      induction m with
      | zero => intro j _ _; rfl
      | succ m ih =>
        intro j j0 j1
        have := (g_txc hX j0 (by omega)).2.2
        rw [g_first, if_neg (by simp only [decide_eq_true_eq]; omega)]
        exact ih (j + 1) (by omega) (by omega)
    exact h _ 0 (by omega) (by have := (g_tln_in (i := X)).1; omega)
  · rw [if_neg e]
section ZST
variable {M : g_I}
theorem z_sk_q : m_sk M 1 3 = M 1 3 := g_ts_q
theorem z_adv_q : m_adv M 1 3 = M 1 3 := g_up_i (by decide)
theorem z_fl_q (h : ¬ M 1 3 = -1) : m_fl M 1 3 = M 1 3 := by unfold m_fl; rw [g_ts_q, g_q1, if_neg h]
theorem z_tk_q {c : Int} : m_tk c M 1 3 = M 1 3 := g_ts_q
theorem z_wn_q {c : Int} (h : ¬ M 1 3 = -1) : m_wn c M 1 3 = M 1 3 := by
  unfold m_wn
  rw [g_ts_q]
  split
  · rfl
  · rw [g_q1, if_neg h]
theorem z_fin_q (h : ¬ M 1 3 = -1) : m_fin M 1 3 = M 1 3 := by
  unfold m_fin
  rw [g_ts_q]
  split
  · rfl
  · rw [g_q1, if_neg h]
theorem z_numr_q {B : Int → Int} {n a q d lo hi : Int} (h : ¬ q = -1) : (g_numr B n a q d lo hi).2.2 = q := by
  unfold g_numr g_q1
  rw [if_neg h, if_neg h, if_neg h]
  split
  · split
    · rfl
    · split <;> rfl
  · rfl
theorem z_nm_q {lo hi : Int} (h : ¬ M 1 3 = -1) : m_nm lo hi M 1 3 = M 1 3 := by unfold m_nm; rw [g_ts_q, z_numr_q h]
theorem z_itn_q {T X lo hi : Nat} {L : Int} (hT : T ≠ 1) : ∀ (k : Nat) (e : Int) (M : g_I), ¬ M 1 3 = -1 → m_itn T L X lo hi k e M 1 3 = M 1 3
  | 0, _, M, _ => rfl
  | k + 1, e, M, h => by
    rw [m_itn]
    split
    · exact z_sk_q
    · split
      · rw [z_fl_q (by rw [z_sk_q]; exact h), z_sk_q]
      · have e1 : g_up (m_nm (g_st lo (m_it X (m_sg M))) (g_st hi (m_it X (m_sg M))) (m_adv (m_sk M))) T (m_it X (m_sg M)) (m_nv (g_st lo (m_it X (m_sg M))) (g_st hi (m_it X (m_sg M))) (m_adv (m_sk M))) 1 3 = M 1 3 := by
          rw [g_up_k (Ne.symm hT), z_nm_q (by rw [z_adv_q, z_sk_q]; exact h), z_adv_q, z_sk_q]
        rw [z_itn_q hT k _ _ (by rw [e1]; exact h), e1]
theorem z_us_1 {T us : Nat} (hT : T ≠ 1) {j : Int} : m_us T us M 1 j = M 1 j := if_neg (fun z => hT z.1.symm)
theorem z_us_k {T us k : Nat} (hT : k ≠ T) : m_us T us M k = M k := funext fun j => if_neg (fun z => hT z.1)
theorem z_items_q {T X lo hi us : Nat} {L : Int} (hT : T ≠ 1) (h : ¬ M 1 3 = -1) : m_items T L X lo hi us M 1 3 = M 1 3 := by
  unfold m_items
  rw [z_itn_q hT _ _ _ (by rw [z_us_1 hT]; exact h), z_us_1 hT]
end ZST
abbrev z_dg (B : Int → Int) (n p : Int) : Prop := p < n ∧ 48 ≤ B p ∧ B p ≤ 57
def z_fn (B : Int → Int) (n v e lo hi : Int) : Int × Int × Int := if z_dg B n e then (v, n, e) else if v < lo ∨ hi < v then (v, n, e - 1) else (v, e, -1)
/-- a number of two digits at most -/
theorem z_num {B : Int → Int} {n a lo hi : Int} : (¬ z_dg B n (g_pos B n a) → (g_numr B n a (-1) 2 lo hi).2.2 = g_pos B n a) ∧ (z_dg B n (g_pos B n a) → ¬ z_dg B n (g_pos B n a + 1) → g_numr B n a (-1) 2 lo hi = z_fn B n (B (g_pos B n a) - 48) (g_pos B n a + 1) lo hi) ∧ (z_dg B n (g_pos B n a) → z_dg B n (g_pos B n a + 1) → g_numr B n a (-1) 2 lo hi = z_fn B n (10 * (B (g_pos B n a) - 48) + B (g_pos B n a + 1) - 48) (g_pos B n a + 1 + 1) lo hi) := by
  refine ⟨fun h => ?_, fun h1 h2 => ?_, fun h1 h2 => ?_⟩
  · unfold g_numr
    rw [if_neg h]
    show g_q1 (-1) (g_pos B n a) = _
    rw [g_q1, if_pos rfl]
  · have hd : g_dg B n (2 : Int).toNat (g_pos B n a) 0 = (B (g_pos B n a) - 48, g_pos B n a + 1) := by
      show g_dg B n 2 (g_pos B n a) 0 = _
      rw [g_dg, if_pos h1, g_dg, if_neg h2]
      rw [show (10 : Int) * 0 + B (g_pos B n a) - 48 = B (g_pos B n a) - 48 by omega]
    rw [g_numr_d h1 hd, z_fn]
    unfold g_q1
    rw [if_pos rfl, if_pos rfl]
  · have hd : g_dg B n (2 : Int).toNat (g_pos B n a) 0 = (10 * (B (g_pos B n a) - 48) + B (g_pos B n a + 1) - 48, g_pos B n a + 1 + 1) := by
      show g_dg B n 2 (g_pos B n a) 0 = _
      rw [g_dg, if_pos h1, g_dg, if_pos h2, g_dg]
      rw [show (10 : Int) * 0 + B (g_pos B n a) - 48 = B (g_pos B n a) - 48 by omega]
    rw [g_numr_d h1 hd, z_fn]
    unfold g_q1
    rw [if_pos rfl, if_pos rfl]
/-- how many letters were told -/
abbrev z_pc (L e : Int) : Int := g_sum (fun j => if g_bit e j then 1 else 0) L.toNat
theorem z_pc0 : ∀ e : Fin 32, ∀ L : Fin 6, ∀ j : Fin 5, j.val < L.val → ((0 ≤ z_pc L.val e.val ∧ z_pc L.val e.val ≤ L.val) ∧ (¬ g_bit e.val j.val → z_pc L.val (g_or e.val (g_shl 1 j.val)) = z_pc L.val e.val + 1)) ∧ 0 ≤ g_or e.val (g_shl 1 j.val) ∧ g_or e.val (g_shl 1 j.val) < 32 := by decide +kernel
theorem z_pcs {L e j : Int} (hL : L ≤ 5) (he : 0 ≤ e ∧ e < 32) (hj : 0 ≤ j ∧ j < L) : ((0 ≤ z_pc L e ∧ z_pc L e ≤ L) ∧ (¬ g_bit e j → z_pc L (g_or e (g_shl 1 j)) = z_pc L e + 1)) ∧ 0 ≤ g_or e (g_shl 1 j) ∧ g_or e (g_shl 1 j) < 32 := by
  have h := z_pc0 ⟨e.toNat, by omega⟩ ⟨L.toNat, by omega⟩ ⟨j.toNat, by omega⟩ (by show j.toNat < L.toNat; omega)
  dsimp only at h
  rw [show ((L.toNat : Nat) : Int) = L by omega, show ((e.toNat : Nat) : Int) = e by omega, show ((j.toNat : Nat) : Int) = j by omega] at h
  exact h
theorem z_pcz : z_pc 5 0 = 0 ∧ z_pc 2 0 = 0 := by decide +kernel
theorem z_bd0 : ∀ j : Fin 5, (g_tx 5 j.val - 48 = g_st 0 j.val ∧ (if g_tx 6 j.val = 104 then 99 else g_tx 6 j.val - 48) = g_st 1 j.val) ∧ (j.val < 2 → g_tx 7 j.val - 48 = g_st 3 j.val ∧ (if g_tx 8 j.val = 104 then 99 else g_tx 8 j.val - 48) = g_st 4 j.val) ∧ (g_tx 10 j.val - 48 = g_st 6 j.val ∧ (if g_tx 11 j.val = 104 then 99 else g_tx 11 j.val - 48) = g_st 7 j.val) := by decide +kernel
/-- what the two bounds say -/
abbrev z_bd (ls ms lo hi : Nat) (L : Int) : Prop := ∀ j : Int, 0 ≤ j → j < L → g_tx ls j - 48 = g_st lo j ∧ (if g_tx ms j = 104 then 99 else g_tx ms j - 48) = g_st hi j
theorem z_bdl : z_bd 5 6 0 1 5 := fun j a c => by
  have h := (z_bd0 ⟨j.toNat, by omega⟩).1
  dsimp only at h
  rwa [show ((j.toNat : Nat) : Int) = j by omega] at h
theorem z_bdf : z_bd 7 8 3 4 2 := fun j a c => by
  have h := (z_bd0 ⟨j.toNat, by omega⟩).2.1 (by show j.toNat < 2; omega)
  dsimp only at h
  rwa [show ((j.toNat : Nat) : Int) = j by omega] at h
theorem z_bdb : z_bd 10 11 6 7 5 := fun j a c => by
  have h := (z_bd0 ⟨j.toNat, by omega⟩).2.2
  dsimp only at h
  rwa [show ((j.toNat : Nat) : Int) = j by omega] at h
/-- ITEMS' end beside m_items: Y what the class's reader left -/
def z_it (n d : Int) (N : g_I) (J : g_J) (R : g_R) (to : Nat) (row L : Int) (T : Nat) (Y : g_I) : g_P := fun r n' I' J' R' => r = none ∧ n' = g_n ∧ J' = J ∧ R' = R ∧ ∃ (a' : Int) (N' : g_I), I' = y_M N' a' (Y 1 3) d ∧ (0 ≤ a' ∧ a' ≤ n) ∧ (∀ (k : Nat) (j : Int), ¬ (k = to ∧ row ≤ j ∧ j < row + L) → N' k j = N k j) ∧ (∀ k j, g32 (N' k j)) ∧ (Y 1 3 = -1 → a' = Y 1 2 ∧ ∀ j : Int, 0 ≤ j → j < L → N' to (row + j) = Y T j)
theorem z_sg_eq {X : g_I} : m_sg X = g_sgn (X 2) (X 1 1) (X 1 2) := rfl
theorem y_env_cg {N N' : g_I} {tx ln : Nat} {o n : Int} {Lf : Int → Int} (h : y_env N tx ln o n Lf) (h3 : ∀ j, N' 703 j = N 703 j) (h4 : N' tx = N tx) (h7 : N' 707 = N 707) (hg : ∀ k j, g32 (N' k j)) : y_env N' tx ln o n Lf := by
  obtain ⟨⟨e1, e2⟩, e3, e4, e5, e6, e7, e8⟩ := h
  exact ⟨⟨by rw [h3]; exact e1, by rw [h3]; exact e2⟩, e3, e4, by rw [h4]; exact e5, hg, by rw [h7]; exact e7, e8⟩
theorem z_by_cg {N N' : g_I} {tx : Nat} {o : Int} (h : N' tx = N tx) : q_by N' tx o = q_by N tx o := by unfold q_by; rw [h]
/-- a letter and its number, step by step -/
theorem z_step {X : g_I} {n p0 lo hi : Int} (h1 : X 1 1 = n) (hq : X 1 3 = -1) (hp : g_pos (X 2) n (X 1 2) = p0) : (m_adv (m_sk X)) 1 1 = n ∧ (m_adv (m_sk X)) 2 = X 2 ∧ m_nv lo hi (m_adv (m_sk X)) = (g_numr (X 2) n (p0 + 1) (-1) 2 lo hi).1 ∧ m_nm lo hi (m_adv (m_sk X)) 1 2 = (g_numr (X 2) n (p0 + 1) (-1) 2 lo hi).2.1 ∧ m_nm lo hi (m_adv (m_sk X)) 1 3 = (g_numr (X 2) n (p0 + 1) (-1) 2 lo hi).2.2 := by
  have e1 : (m_adv (m_sk X)) 1 1 = n := by unfold m_adv m_sk; rw [g_up_i (by decide), g_ts_n]; exact h1
  have e2 : (m_adv (m_sk X)) 2 = X 2 := by rw [m_adv_k (by decide)]; exact g_ts_f (by decide)
  have e3 : (m_adv (m_sk X)) 1 2 = p0 + 1 := by unfold m_adv m_sk; rw [g_up_s, g_ts_a, h1, hp]
  have e4 : (m_adv (m_sk X)) 1 3 = -1 := by rw [z_adv_q, z_sk_q]; exact hq
  refine ⟨e1, e2, ?_, ?_, ?_⟩
  · unfold m_nv; rw [e1, e2, e3, e4]
  · unfold m_nm; rw [g_ts_a, e1, e2, e3, e4]
  · unfold m_nm; rw [g_ts_q, e1, e2, e3, e4]
theorem z_xn {b : Nat} {Xm XN : g_I} {n p0 t V E lo hi : Int} {T : Nat} (hb : g_life b) (hX : l_ok b Xm) (h1 : Xm 1 1 = n) (hq : Xm 1 3 = -1) (hp : g_pos (Xm 2) n (Xm 1 2) = p0) (hs : ¬ m_sg Xm = -1) (hT : T = 540 ∨ T = 542 ∨ T = 544) (hlo : 0 ≤ lo ∧ lo ≤ 99) (hv : g_numr (Xm 2) n (p0 + 1) (-1) 2 lo hi = (V, E, -1)) (e : XN = g_up (m_nm lo hi (m_adv (m_sk Xm))) T t (m_nv lo hi (m_adv (m_sk Xm)))) : XN 1 1 = n ∧ XN 2 = Xm 2 ∧ XN 1 3 = -1 ∧ XN 1 2 = E ∧ l_ok b XN ∧ (∀ j : Int, ¬ j = t → XN T j = Xm T j) ∧ XN T t = V := by
  obtain ⟨z1, z2, z3, z4, z5⟩ := z_step (X := Xm) (n := n) (lo := lo) (hi := hi) h1 hq hp
  rw [hv] at z3 z4 z5
  have hts : ∀ (A : g_I) (p q : Int) (k : Nat), k ≠ 1 → g_ts A p q k = A k := fun A p q k hk => g_ts_f hk
  have hadv := m_adv_ok hb (m_sk_ok hb hX) (m_sg_in hX hs)
  have hnmk := m_nm_ok (lo := lo) (hi := hi) hb hadv hlo
  have hT1 : T ≠ 1 := by omega
  subst e
  refine ⟨?_, ?_, ?_, ?_, ?_, fun j hj => ?_, ?_⟩
  · rw [g_up_k (Ne.symm hT1)]; unfold m_nm; rw [g_ts_n]; exact z1
  · funext j; rw [g_up_k (by omega)]; unfold m_nm; rw [hts _ _ _ _ (by decide), z2]
  · rw [g_up_k (Ne.symm hT1)]; exact z5
  · rw [g_up_k (Ne.symm hT1)]; exact z4
  · have h5 := hnmk.2
    refine l_up hnmk.1 ?_ ⟨by omega, by omega⟩
    unfold g_life at hb
    omega
  · rw [g_up_i hj]; unfold m_nm; rw [hts _ _ _ _ hT1, m_adv_k hT1]; unfold m_sk; rw [hts _ _ _ _ hT1]
  · rw [g_up_s]; exact z3
theorem z_look (w : g_W) {J : g_J} {R : g_R} {lb : Nat} (hR : g_rf w R lb 704) {M : g_I} {n : Int} {Lf : Int → Int} (he : y_env M 704 240 0 n Lf) {B : Int → Int} (hB : q_by M 704 0 = B) {a q d : Int} (ha : 0 ≤ a ∧ a ≤ n) (hq : -1 ≤ q ∧ q ≤ 240) : g_Met w g_n (y_M M a q d) J R yX13_look cX13_look 1 (some .int) 0 0 0 [(gvr w 703)] (g_post (some (gvI (g_sgn B n a))) g_n (y_M M (g_pos B n a) q d) J R) := by
  subst hB
  exact d_look w hR he ha hq
theorem z_isDigit (w : g_W) {J : g_J} {R : g_R} {lb : Nat} (hR : g_rf w R lb 704) {M : g_I} {n : Int} {Lf : Int → Int} (he : y_env M 704 240 0 n Lf) {B : Int → Int} (hB : q_by M 704 0 = B) {a q d : Int} (ha : 0 ≤ a ∧ a ≤ n) (hq : -1 ≤ q ∧ q ≤ 240) : g_Met w g_n (y_M M a q d) J R yX13_isDigit cX13_isDigit 1 (some .boolean) 0 0 0 [(gvr w 703)] (g_post (some (gvI (g_b (z_dg B n a)))) g_n (y_M M a q d) J R) := by
  subst hB
  exact d_isDigit w hR he ha hq
theorem z_here (w : g_W) {J : g_J} {R : g_R} {lb : Nat} (hR : g_rf w R lb 704) {M : g_I} {n : Int} {Lf : Int → Int} (he : y_env M 704 240 0 n Lf) {B : Int → Int} (hB : q_by M 704 0 = B) {a q d : Int} (ha : 0 ≤ a ∧ a ≤ n) (hq : -1 ≤ q ∧ q ≤ 240) : g_Met w g_n (y_M M a q d) J R yX13_here cX13_here 1 (some .int) 0 0 0 [(gvr w 703)] (g_post (some (gvI (if a < n then B a else -1))) g_n (y_M M a q d) J R) := by
  subst hB
  exact c_X13_here w hR he ha hq
theorem z_itL {c : Int} : m_it 1 c < 2 := by
  unfold m_it
  split
  · omega
  · have h := g_first_in (p := fun j => decide (g_tx 1 j = c)) (g_tln 1).toNat 0 (by decide)
    have h2 : g_tln 1 = 2 := by decide +kernel
    unfold g_inx
    omega
theorem z_sarl2 : ((g_sar.getD 2 ("", [])).2).length = 5 := by decide +kernel
theorem z_sarl5 : ((g_sar.getD 5 ("", [])).2).length = 2 := by decide +kernel
theorem z_sarl8 : ((g_sar.getD 8 ("", [])).2).length = 5 := by decide +kernel
theorem z_us_t {T us : Nat} {M : g_I} {j : Int} (h0 : 0 ≤ j) (h1 : j < (((g_sar.getD us ("", [])).2).length : Int)) : m_us T us M T j = g_st us j := by
  unfold m_us g_cps
  rw [if_pos ⟨rfl, h0, h1⟩, g_st]
set_option maxHeartbeats 4000000 in
set_option maxRecDepth 100000 in
/-- X13_readItems -/
theorem r_leaf (w : g_W) {J : g_J} {R : g_R} {lb : Nat} (hR : g_rf w R lb 704) {N : g_I} {n : Int} {Lf : Int → Int} (he : y_env N 704 240 0 n Lf) {row a d : Int} (hrow : 0 ≤ row ∧ row + 5 ≤ 336) (ha0 : 0 ≤ a ∧ a ≤ n) {X : g_I} {b : Nat} (hb : g_life b) (hX0 : l_ok b X) (hXn0 : X 1 1 = n) (hXB0 : X 2 = q_by N 704 0) (hXa0 : X 1 2 = a) (hXq0 : X 1 3 = -1) (hus : ∀ j : Int, 0 ≤ j → j < 5 → N 708 (row + j) = g_st 2 j) : g_Met w g_n (y_M N a (-1) d) J R yX13_readItems cX13_readItems 11 none 5 0 0 [(gvr w 703), (gvr w 708), (gvI row), (.ref (w.2.2.2.2 100)), (.ref (w.2.2.2.2 105)), (.ref (w.2.2.2.2 106))] (z_it n d N J R 708 row 5 540 (m_items 540 5 0 0 1 2 X)) := by
  refine g_intro (own := RX13) [some (gvr w 703), some (gvr w 708), some (gvI row), some (.ref (w.2.2.2.2 100)), some (.ref (w.2.2.2.2 105)), some (.ref (w.2.2.2.2 106)), none, none, none, none, none] (by decide +kernel) rfl (by decide) (Nat.le_of_ble_eq_true rfl) rfl (fun i v hv => g_args 5 i v hv rfl) (fun x hc hm => ?_)
  have hlm9 : g_tln 6 = 5 := by decide +kernel
  have hll9 : g_tln 5 = 5 := by decide +kernel
  have he0 := he
  have he5 := he.2.2.1
  have hgN0 := he.2.2.2.2.1
  have hBx : q_by N 704 0 = X 2 := hXB0.symm
  have hXb0 := hX0.2.2.2.2.1
  refine g_iconst hc dX13_readItems_0 ?_
  refine g_istore_6 hc dX13_readItems_1 rfl ?_
  refine g_aload_n hc dX13_readItems_3 rfl ?_
  refine g_aldn hc dX13_readItems_4 rfl ?_
  refine g_V0r hc (z_look w hR he hBx (by omega) (by omega)) my_X13_look mv_X13_look ca_703 rfl rfl lm_X13_144 rfl (by decide) (Nat.le_of_ble_eq_true rfl) hm dX13_readItems_5 ?_
  refine g_S2r hc (c_X13_placeOf w (i := 0) (c := (g_sgn (X 2) n a)) (by decide) (by first | assumption | with_reducible exact z_sg32 hXb | with_reducible exact z_sg32 hXb0 | with_reducible exact g_and32 | with_reducible exact g_or32 | exact ⟨by omega, by omega⟩)) my_X13_placeOf ms_X13_placeOf lm_X13_220 rfl (by decide) (Nat.le_of_ble_eq_true rfl) hm dX13_readItems_8 ?_
  refine g_istore_7 hc dX13_readItems_11 rfl ?_
  have lp_13 : ∀ (fu : Nat) (k : Nat) (e t am : Int) (Xm Nm : g_I), m_items 540 5 0 0 1 2 X = m_itn 540 5 0 0 1 k e Xm → (k : Int) + z_pc 5 e = 5 + 1 → (0 ≤ e ∧ e < 32) → l_ok b Xm → (Xm 1 1 = n ∧ Xm 2 = q_by N 704 0 ∧ Xm 1 3 = -1) → am = g_pos (Xm 2) n (Xm 1 2) → t = (m_it 0 (m_sg Xm)) → (∀ (k : Nat) (j : Int), ¬ (k = 708 ∧ row ≤ j ∧ j < row + 5) → Nm k j = N k j) → (∀ k j, g32 (Nm k j)) → (∀ j : Int, 0 ≤ j → j < 5 → Nm 708 (row + j) = Xm 540 j) → (k : Int) < (fu : Int) → G w x (z_it n d N J R 708 row 5 540 (m_items 540 5 0 0 1 2 X)) 0 0 g_n (y_M Nm am (-1) d) J R 13 [some (gvr w 703), some (gvr w 708), some (gvI row), some (.ref (w.2.2.2.2 100)), some (.ref (w.2.2.2.2 105)), some (.ref (w.2.2.2.2 106)), some (gvI e), some (gvI t), none, none, none] [] := by
    intro fu
    induction fu with
    | zero => intro k e t am Xm Nm hit hpc he9 hX hXs ham ht hfN hgN hrw hfu; exfalso; omega
    | succ fu ih =>
      intro k e t am Xm Nm hit hpc he9 hX hXs ham ht hfN hgN hrw hfu
      obtain ⟨hXn, hXB, hXq⟩ := hXs
      have he : y_env Nm 704 240 0 n Lf := y_env_cg he0 (fun j => hfN 703 j (by omega)) (funext fun j => hfN 704 j (by omega)) (funext fun j => hfN 707 j (by omega)) hgN
      have he5 := he.2.2.1
      have hBm : q_by Nm 704 0 = Xm 2 := (z_by_cg (funext fun j => hfN 704 j (by omega))).trans hXB.symm
      have hXa := hX.2.1
      have hXb := hX.2.2.2.2.1
      have hpin := g_pos_in (B := Xm 2) (len := n) (a := Xm 1 2) (by omega)
      have ha : 0 ≤ am ∧ am ≤ n := by omega
      have hti : -1 ≤ t ∧ t < 5 := by
        have := m_it_in (X := 0) (c := m_sg Xm) (by decide)
        rw [ht]
        omega
      have hk1 : 1 ≤ k := by
        have := (z_pcs (L := 5) (e := e) (j := 0) (by decide) he9 ⟨by decide, by decide⟩).1.1
        omega
      obtain ⟨k2, rfl⟩ : ∃ k2, k = k2 + 1 := ⟨k - 1, by omega⟩
      rw [m_itn, ← ht] at hit
      have ih_13 := ih
      refine g_iload hc dX13_readItems_13 rfl ?_
      refine g_iconst hc dX13_readItems_15 ?_
      refine g_icmp_eq (tgt := 232) hc dX13_readItems_16 (by decide) (by first | assumption | with_reducible exact z_sg32 hXb | with_reducible exact z_sg32 hXb0 | with_reducible exact g_and32 | with_reducible exact g_or32 | exact ⟨by omega, by omega⟩) (by first | assumption | with_reducible exact z_sg32 hXb | with_reducible exact z_sg32 hXb0 | with_reducible exact g_and32 | with_reducible exact g_or32 | exact ⟨by omega, by omega⟩) (fun c1 => ?_) (fun c1 => ?_)
      · skip
        have ht0 : t = -1 := c1
        rw [if_pos (Or.inl (by omega))] at hit
        have hY3 : (m_items 540 5 0 0 1 2 X) 1 3 = -1 := by rw [hit, z_sk_q]; exact hXq
        have hY2 : (m_items 540 5 0 0 1 2 X) 1 2 = am := by rw [hit, ham]; unfold m_sk; rw [g_ts_a, hXn]
        have hYT : ∀ j, (m_items 540 5 0 0 1 2 X) 540 j = Xm 540 j := fun j => by rw [hit]; exact congrFun (g_ts_f (by decide)) j
        refine g_vret hc hm dX13_readItems_232 ?_
        exact ⟨rfl, rfl, rfl, rfl, am, Nm, by rw [hY3], by omega, hfN, hgN, fun _ => ⟨hY2.symm, fun j j0 j1 => by rw [hYT]; exact hrw j j0 j1⟩⟩
      · skip
        have ht0 : 0 ≤ t := by omega
        rw [if_neg (show ¬ (t < 0 ∨ 5 ≤ t) by omega)] at hit
        refine g_aldn hc dX13_readItems_19 rfl ?_
        refine g_getIe hc lk_X13_134 ca_703 11 rfl (y_M_q) dX13_readItems_20 ?_
        refine g_iconst hc dX13_readItems_23 ?_
        refine g_icmp_ne (tgt := 232) hc dX13_readItems_24 (by decide) (by first | assumption | with_reducible exact z_sg32 hXb | with_reducible exact z_sg32 hXb0 | with_reducible exact g_and32 | with_reducible exact g_or32 | exact ⟨by omega, by omega⟩) (by first | assumption | with_reducible exact z_sg32 hXb | with_reducible exact z_sg32 hXb0 | with_reducible exact g_and32 | with_reducible exact g_or32 | exact ⟨by omega, by omega⟩) (fun c2 => ?_) (fun c2 => ?_)
        · exfalso; omega
        · skip
          refine g_iload hc dX13_readItems_27 rfl ?_
          refine g_iload hc dX13_readItems_29 rfl ?_
          refine g_S2r hc (c_X13_has w) my_X13_has ms_X13_has lm_X13_224 rfl (by decide) (Nat.le_of_ble_eq_true rfl) hm dX13_readItems_31 ?_
          refine g_ifb_eq (tgt := 43) hc dX13_readItems_34 (by decide)  (fun c3 => ?_) (fun c3 => ?_)
          · skip
            rw [if_neg c3] at hit
            obtain ⟨z1, z2, z3, z4, z5⟩ := z_step (X := Xm) (n := n) (lo := g_st 0 t) (hi := g_st 1 t) hXn hXq ham.symm
            obtain ⟨y1, y2, y3⟩ := @z_num (Xm 2) n (am + 1) (g_st 0 t) (g_st 1 t)
            obtain ⟨w1, w2⟩ := z_pcs (L := 5) (e := e) (j := t) (by decide) he9 ⟨by omega, by omega⟩
            have w3 := w1.2 c3
            have hsg9 : ¬ m_sg Xm = -1 := fun z => by
              have : m_it 0 (m_sg Xm) = -1 := by rw [z]; rfl
              omega
            have hp0 : am < n := by
              have := m_sg_in hX hsg9
              unfold m_sk at this
              rw [g_ts_a, g_ts_n, hXn] at this
              omega
            have hpin2 := g_pos_in (B := Xm 2) (len := n) (a := am + 1) (by omega)
            obtain ⟨b1, b2⟩ := z_bdl t (by omega) (by omega)
            have htx8 := (g_txc (i := 6) (j := t) (by decide) ht0 (by omega)).2.2
            have htx9 := (g_txc (i := 5) (j := t) (by decide) ht0 (by omega)).2.2
            have hlo9 := g_st_b (i := 0) (j := t) (by decide) (by omega)
            have hhi9 := g_st_b (i := 1) (j := t) (by decide) (by omega)
            refine g_iload hc dX13_readItems_43 rfl ?_
            refine g_iconst hc dX13_readItems_45 ?_
            refine g_iload hc dX13_readItems_46 rfl ?_
            refine g_ishl hc dX13_readItems_48 ?_
            refine g_ior hc dX13_readItems_49 ?_
            refine g_istore_6 hc dX13_readItems_50 rfl ?_
            refine g_aldn hc dX13_readItems_52 rfl ?_
            refine g_dup hc dX13_readItems_53 rfl ?_
            refine g_getIe hc lk_X13_125 ca_703 10 rfl (y_M_a) dX13_readItems_54 ?_
            refine g_iconst hc dX13_readItems_57 ?_
            refine g_iadd hc dX13_readItems_58 ?_
            refine g_putIe (I2 := (y_M Nm (am + 1) (-1) d)) hc lk_X13_125 ca_703 10 rfl y_M_pa dX13_readItems_59 ?_
            refine g_aldn hc dX13_readItems_62 rfl ?_
            refine g_V0r hc (z_look w hR he hBm (by omega) (by omega)) my_X13_look mv_X13_look ca_703 rfl rfl lm_X13_144 rfl (by decide) (Nat.le_of_ble_eq_true rfl) hm dX13_readItems_63 ?_
            refine g_istore_8 hc dX13_readItems_66 rfl ?_
            refine g_aldn hc dX13_readItems_68 rfl ?_
            refine g_V0r hc (z_isDigit w hR he hBm (by omega) (by omega)) my_X13_isDigit mv_X13_isDigit ca_703 rfl rfl lm_X13_174 rfl (by decide) (Nat.le_of_ble_eq_true rfl) hm dX13_readItems_69 ?_
            refine g_ifb_ne (tgt := 81) hc dX13_readItems_72 (by decide)  (fun c4 => ?_) (fun c4 => ?_)
            · skip
              have hd1 : z_dg (Xm 2) n (g_pos (Xm 2) n (am + 1)) := c4
              have hth : g_sgn (Xm 2) n (am + 1) = Xm 2 (g_pos (Xm 2) n (am + 1)) := if_pos hd1.1
              refine g_iload hc dX13_readItems_81 rfl ?_
              refine g_bipush hc dX13_readItems_83 (by decide +kernel) ?_
              refine g_isub hc dX13_readItems_85 ?_
              rw [show (g_sgn (Xm 2) n (am + 1)) - 48 = Xm 2 (g_pos (Xm 2) n (am + 1)) - 48 from by rw [hth]]
              refine g_istore_9 hc dX13_readItems_86 rfl ?_
              refine g_aldn hc dX13_readItems_88 rfl ?_
              refine g_dup hc dX13_readItems_89 rfl ?_
              refine g_getIe hc lk_X13_125 ca_703 10 rfl (y_M_a) dX13_readItems_90 ?_
              refine g_iconst hc dX13_readItems_93 ?_
              refine g_iadd hc dX13_readItems_94 ?_
              refine g_putIe (I2 := (y_M Nm ((g_pos (Xm 2) n (am + 1)) + 1) (-1) d)) hc lk_X13_125 ca_703 10 rfl y_M_pa dX13_readItems_95 ?_
              refine g_aldn hc dX13_readItems_98 rfl ?_
              refine g_V0r hc (z_isDigit w hR he hBm (by omega) (by omega)) my_X13_isDigit mv_X13_isDigit ca_703 rfl rfl lm_X13_174 rfl (by decide) (Nat.le_of_ble_eq_true rfl) hm dX13_readItems_99 ?_
              refine g_ifb_eq (tgt := 130) hc dX13_readItems_102 (by decide)  (fun c5 => ?_) (fun c5 => ?_)
              · skip
                have hd2 : ¬ z_dg (Xm 2) n ((g_pos (Xm 2) n (am + 1)) + 1) := c5
                have hnum := y2 hd1 hd2
                refine g_aldn hc dX13_readItems_130 rfl ?_
                refine g_V0r hc (z_isDigit w hR he hBm (by omega) (by omega)) my_X13_isDigit mv_X13_isDigit ca_703 rfl rfl lm_X13_174 rfl (by decide) (Nat.le_of_ble_eq_true rfl) hm dX13_readItems_131 ?_
                refine g_ifb_eq (tgt := 143) hc dX13_readItems_134 (by decide)  (fun c6 => ?_) (fun c6 => ?_)
                · skip
                  have hd3 := c6
                  refine g_aload hc dX13_readItems_143 rfl ?_
                  refine g_iload hc dX13_readItems_145 rfl ?_
                  refine g_T1r (i := 6) (by decide) hc (c_J0_charAt_5068e w (by decide) (by omega)) my_J0_charAt_5068e mv_J0_charAt_5068e rfl lm_X13_111 rfl (by decide) (Nat.le_of_ble_eq_true rfl) hm dX13_readItems_147 ?_
                  refine g_bipush hc dX13_readItems_150 (by decide +kernel) ?_
                  refine g_icmp_ne (tgt := 160) hc dX13_readItems_152 (by decide) (by first | assumption | with_reducible exact z_sg32 hXb | with_reducible exact z_sg32 hXb0 | with_reducible exact g_and32 | with_reducible exact g_or32 | exact ⟨by omega, by omega⟩) (by first | assumption | with_reducible exact z_sg32 hXb | with_reducible exact z_sg32 hXb0 | with_reducible exact g_and32 | with_reducible exact g_or32 | exact ⟨by omega, by omega⟩) (fun c7 => ?_) (fun c7 => ?_)
                  · skip
                    have hbd : g_tx 6 t - 48 = g_st 1 t := by rw [if_neg c7] at b2; exact b2
                    refine g_aload hc dX13_readItems_160 rfl ?_
                    refine g_iload hc dX13_readItems_162 rfl ?_
                    refine g_T1r (i := 6) (by decide) hc (c_J0_charAt_5068e w (by decide) (by omega)) my_J0_charAt_5068e mv_J0_charAt_5068e rfl lm_X13_111 rfl (by decide) (Nat.le_of_ble_eq_true rfl) hm dX13_readItems_164 ?_
                    refine g_bipush hc dX13_readItems_167 (by decide +kernel) ?_
                    refine g_isub hc dX13_readItems_169 ?_
                    rw [show (g_tx 6 t) - 48 = g_st 1 t from hbd]
                    refine g_istore_10 hc dX13_readItems_170 rfl ?_
                    refine g_iload hc dX13_readItems_172 rfl ?_
                    refine g_i2l hc dX13_readItems_174 (by first | assumption | with_reducible exact z_sg32 hXb | with_reducible exact z_sg32 hXb0 | with_reducible exact g_and32 | with_reducible exact g_or32 | exact ⟨by omega, by omega⟩) ?_
                    refine g_aload hc dX13_readItems_175 rfl ?_
                    refine g_iload hc dX13_readItems_177 rfl ?_
                    refine g_T1r (i := 5) (by decide) hc (c_J0_charAt_5068e w (by decide) (by omega)) my_J0_charAt_5068e mv_J0_charAt_5068e rfl lm_X13_111 rfl (by decide) (Nat.le_of_ble_eq_true rfl) hm dX13_readItems_179 ?_
                    refine g_bipush hc dX13_readItems_182 (by decide +kernel) ?_
                    refine g_isub hc dX13_readItems_184 ?_
                    rw [show (g_tx 5 t) - 48 = g_st 0 t from b1]
                    refine g_i2l hc dX13_readItems_185 (by first | assumption | with_reducible exact z_sg32 hXb | with_reducible exact z_sg32 hXb0 | with_reducible exact g_and32 | with_reducible exact g_or32 | exact ⟨by omega, by omega⟩) ?_
                    refine g_iload hc dX13_readItems_186 rfl ?_
                    refine g_i2l hc dX13_readItems_188 (by first | assumption | with_reducible exact z_sg32 hXb | with_reducible exact z_sg32 hXb0 | with_reducible exact g_and32 | with_reducible exact g_or32 | exact ⟨by omega, by omega⟩) ?_
                    refine g_S3r hc (c_X13_isIn w (by first | assumption | with_reducible exact z_sg32 hXb | with_reducible exact z_sg32 hXb0 | with_reducible exact g_and32 | with_reducible exact g_or32 | exact ⟨by omega, by omega⟩) (by first | assumption | with_reducible exact z_sg32 hXb | with_reducible exact z_sg32 hXb0 | with_reducible exact g_and32 | with_reducible exact g_or32 | exact ⟨by omega, by omega⟩) (by first | assumption | with_reducible exact z_sg32 hXb | with_reducible exact z_sg32 hXb0 | with_reducible exact g_and32 | with_reducible exact g_or32 | exact ⟨by omega, by omega⟩)) my_X13_isIn ms_X13_isIn lm_X13_231 rfl (by decide) (Nat.le_of_ble_eq_true rfl) hm dX13_readItems_189 ?_
                    refine g_ifb_ne (tgt := 211) hc dX13_readItems_192 (by decide)  (fun c8 => ?_) (fun c8 => ?_)
                    · skip
                      have hin := c8
                      refine g_aldn hc dX13_readItems_211 rfl ?_
                      refine g_iload_n hc dX13_readItems_212 rfl ?_
                      refine g_iload hc dX13_readItems_213 rfl ?_
                      refine g_iadd hc dX13_readItems_215 ?_
                      refine g_iload hc dX13_readItems_216 rfl ?_
                      obtain ⟨N3, hN3⟩ : ∃ N3, N3 = g_up Nm 708 (row + t) (Xm 2 (g_pos (Xm 2) n (am + 1)) - 48) := ⟨_, rfl⟩
                      refine g_iaste (I2 := (y_M N3 ((g_pos (Xm 2) n (am + 1)) + 1) (-1) d)) hc ca_708 (by decide) (by omega) (by omega) ((y_M_p (by omega)).trans (by rw [hN3])) dX13_readItems_218 ?_
                      have he : y_env N3 704 240 0 n Lf := y_env_cg he (fun j => by rw [hN3]; exact g_up_k (by decide)) (by rw [hN3]; funext j; exact g_up_k (by decide)) (by rw [hN3]; funext j; exact g_up_k (by decide)) (by rw [hN3]; exact x_up32 hgN ⟨by omega, by omega⟩)
                      have hBm : q_by N3 704 0 = Xm 2 := (z_by_cg (by rw [hN3]; funext j; exact g_up_k (by decide))).trans hBm
                      have hfv : (g_numr (Xm 2) n (am + 1) (-1) 2 (g_st 0 t) (g_st 1 t)) = ((Xm 2 (g_pos (Xm 2) n (am + 1)) - 48), ((g_pos (Xm 2) n (am + 1)) + 1), -1) := by rw [hnum, z_fn, if_neg hd3, if_neg (by omega)]
                      obtain ⟨XN, hXN⟩ : ∃ XN, XN = (g_up (m_nm (g_st 0 t) (g_st 1 t) (m_adv (m_sk Xm))) 540 t (m_nv (g_st 0 t) (g_st 1 t) (m_adv (m_sk Xm)))) := ⟨_, rfl⟩
                      rw [← hXN] at hit
                      obtain ⟨hn1, hn2, hn3, hn4, hn5, hn6, hn7⟩ := z_xn (T := 540) hb hX hXn hXq ham.symm hsg9 (by decide) ⟨hlo9.2.2 (by decide), hlo9.2.1⟩ hfv hXN
                      have hr4 : ∀ j : Int, 0 ≤ j → j < 5 → N3 708 (row + j) = XN 540 j := fun j j0 j1 => by
                        rw [hN3]
                        by_cases e9 : j = t
                        · rw [e9, g_up_s, hn7]
                        · rw [g_up_i (by omega), hn6 j e9]; exact hrw j j0 j1
                      have hf4 : ∀ (k : Nat) (j : Int), ¬ (k = 708 ∧ row ≤ j ∧ j < row + 5) → N3 k j = N k j := fun k j hk => by rw [hN3]; exact (g_up_n (by omega)).trans (hfN k j hk)
                      have hg4 : ∀ k j, g32 (N3 k j) := he.2.2.2.2.1
                      refine g_aload_n hc dX13_readItems_219 rfl ?_
                      refine g_aldn hc dX13_readItems_220 rfl ?_
                      refine g_V0r hc (z_look w hR he hBm (by omega) (by omega)) my_X13_look mv_X13_look ca_703 rfl rfl lm_X13_144 rfl (by decide) (Nat.le_of_ble_eq_true rfl) hm dX13_readItems_221 ?_
                      refine g_S2r hc (c_X13_placeOf w (i := 0) (c := (g_sgn (Xm 2) n ((g_pos (Xm 2) n (am + 1)) + 1))) (by decide) (by first | assumption | with_reducible exact z_sg32 hXb | with_reducible exact z_sg32 hXb0 | with_reducible exact g_and32 | with_reducible exact g_or32 | exact ⟨by omega, by omega⟩)) my_X13_placeOf ms_X13_placeOf lm_X13_220 rfl (by decide) (Nat.le_of_ble_eq_true rfl) hm dX13_readItems_224 ?_
                      refine g_istore_7 hc dX13_readItems_227 rfl ?_
                      refine g_goto (tgt := 13) hc dX13_readItems_229 (by decide) ?_
                      refine G_sub (L' := [some (gvr w 703), some (gvr w 708), some (gvI row), some (.ref (w.2.2.2.2 100)), some (.ref (w.2.2.2.2 105)), some (.ref (w.2.2.2.2 106)), some (gvI (g_or e (g_shl 1 t))), some (gvI (g_inx 0 (g_sgn (Xm 2) n ((g_pos (Xm 2) n (am + 1)) + 1)))), none, none, none]) (show g_le _ _ from ⟨rfl, ⟨rfl, ⟨rfl, ⟨rfl, ⟨rfl, ⟨rfl, ⟨rfl, ⟨rfl, trivial⟩⟩⟩⟩⟩⟩⟩⟩) ?_
                      refine ih_13 k2 _ _ _ XN _ ?_ ?_ ?_ ?_ ?_ ?_ ?_ ?_ ?_ ?_ ?_
                      · exact hit
                      · omega
                      · exact w2
                      · exact hn5
                      · exact ⟨hn1, hn2.trans hXB, hn3⟩
                      · rw [hn2, hn4]
                      · rw [z_inx (by decide) (z_sgm hXb).1, z_sg_eq, hn2, hn1, hn4]
                      · exact hf4
                      · exact hg4
                      · exact hr4
                      · omega
                    · skip
                      have hin := c8
                      refine g_aldn hc dX13_readItems_195 rfl ?_
                      refine g_dup hc dX13_readItems_196 rfl ?_
                      refine g_getIe hc lk_X13_125 ca_703 10 rfl (y_M_a) dX13_readItems_197 ?_
                      refine g_iconst hc dX13_readItems_200 ?_
                      refine g_isub hc dX13_readItems_201 ?_
                      refine g_putIe (I2 := (y_M Nm (((g_pos (Xm 2) n (am + 1)) + 1) - 1) (-1) d)) hc lk_X13_125 ca_703 10 rfl y_M_pa dX13_readItems_202 ?_
                      refine g_aldn hc dX13_readItems_205 rfl ?_
                      refine g_V0r hc (d_fails w hR he (by omega) (by omega)) my_X13_fails mv_X13_fails ca_703 rfl rfl lm_X13_140 rfl (by decide) (Nat.le_of_ble_eq_true rfl) hm dX13_readItems_206 ?_
                      refine g_pop hc dX13_readItems_209 rfl ?_
                      refine g_vret hc hm dX13_readItems_210 ?_
                      have hq8 : (g_numr (Xm 2) n (am + 1) (-1) 2 (g_st 0 t) (g_st 1 t)).2.2 = (((g_pos (Xm 2) n (am + 1)) + 1) - 1) := by
                        rw [hnum, z_fn, if_neg hd3, if_pos (by omega)]
                      have hq7 : (g_up (m_nm (g_st 0 t) (g_st 1 t) (m_adv (m_sk Xm))) 540 t (m_nv (g_st 0 t) (g_st 1 t) (m_adv (m_sk Xm)))) 1 3 = (((g_pos (Xm 2) n (am + 1)) + 1) - 1) := by rw [g_up_k (by decide), z5]; exact hq8
                      have hq9 : (m_items 540 5 0 0 1 2 X) 1 3 = (((g_pos (Xm 2) n (am + 1)) + 1) - 1) := by rw [hit, z_itn_q (by decide) _ _ _ (by rw [hq7]; omega)]; exact hq7
                      exact ⟨rfl, rfl, rfl, rfl, (((g_pos (Xm 2) n (am + 1)) + 1) - 1), Nm, by rw [hq9, g_q1, if_pos rfl], by omega, hfN, hgN, fun z => by rw [hq9] at z; omega⟩
                  · skip
                    have hbd : (99 : Int) = g_st 1 t := by rw [if_pos c7] at b2; exact b2
                    refine g_bipush hc dX13_readItems_155 (by decide +kernel) ?_
                    refine g_goto (tgt := 170) hc dX13_readItems_157 (by decide) ?_
                    rw [show 99 = g_st 1 t from hbd]
                    refine g_istore_10 hc dX13_readItems_170 rfl ?_
                    refine g_iload hc dX13_readItems_172 rfl ?_
                    refine g_i2l hc dX13_readItems_174 (by first | assumption | with_reducible exact z_sg32 hXb | with_reducible exact z_sg32 hXb0 | with_reducible exact g_and32 | with_reducible exact g_or32 | exact ⟨by omega, by omega⟩) ?_
                    refine g_aload hc dX13_readItems_175 rfl ?_
                    refine g_iload hc dX13_readItems_177 rfl ?_
                    refine g_T1r (i := 5) (by decide) hc (c_J0_charAt_5068e w (by decide) (by omega)) my_J0_charAt_5068e mv_J0_charAt_5068e rfl lm_X13_111 rfl (by decide) (Nat.le_of_ble_eq_true rfl) hm dX13_readItems_179 ?_
                    refine g_bipush hc dX13_readItems_182 (by decide +kernel) ?_
                    refine g_isub hc dX13_readItems_184 ?_
                    rw [show (g_tx 5 t) - 48 = g_st 0 t from b1]
                    refine g_i2l hc dX13_readItems_185 (by first | assumption | with_reducible exact z_sg32 hXb | with_reducible exact z_sg32 hXb0 | with_reducible exact g_and32 | with_reducible exact g_or32 | exact ⟨by omega, by omega⟩) ?_
                    refine g_iload hc dX13_readItems_186 rfl ?_
                    refine g_i2l hc dX13_readItems_188 (by first | assumption | with_reducible exact z_sg32 hXb | with_reducible exact z_sg32 hXb0 | with_reducible exact g_and32 | with_reducible exact g_or32 | exact ⟨by omega, by omega⟩) ?_
                    refine g_S3r hc (c_X13_isIn w (by first | assumption | with_reducible exact z_sg32 hXb | with_reducible exact z_sg32 hXb0 | with_reducible exact g_and32 | with_reducible exact g_or32 | exact ⟨by omega, by omega⟩) (by first | assumption | with_reducible exact z_sg32 hXb | with_reducible exact z_sg32 hXb0 | with_reducible exact g_and32 | with_reducible exact g_or32 | exact ⟨by omega, by omega⟩) (by first | assumption | with_reducible exact z_sg32 hXb | with_reducible exact z_sg32 hXb0 | with_reducible exact g_and32 | with_reducible exact g_or32 | exact ⟨by omega, by omega⟩)) my_X13_isIn ms_X13_isIn lm_X13_231 rfl (by decide) (Nat.le_of_ble_eq_true rfl) hm dX13_readItems_189 ?_
                    refine g_ifb_ne (tgt := 211) hc dX13_readItems_192 (by decide)  (fun c9 => ?_) (fun c9 => ?_)
                    · skip
                      have hin := c9
                      refine g_aldn hc dX13_readItems_211 rfl ?_
                      refine g_iload_n hc dX13_readItems_212 rfl ?_
                      refine g_iload hc dX13_readItems_213 rfl ?_
                      refine g_iadd hc dX13_readItems_215 ?_
                      refine g_iload hc dX13_readItems_216 rfl ?_
                      obtain ⟨N4, hN4⟩ : ∃ N4, N4 = g_up Nm 708 (row + t) (Xm 2 (g_pos (Xm 2) n (am + 1)) - 48) := ⟨_, rfl⟩
                      refine g_iaste (I2 := (y_M N4 ((g_pos (Xm 2) n (am + 1)) + 1) (-1) d)) hc ca_708 (by decide) (by omega) (by omega) ((y_M_p (by omega)).trans (by rw [hN4])) dX13_readItems_218 ?_
                      have he : y_env N4 704 240 0 n Lf := y_env_cg he (fun j => by rw [hN4]; exact g_up_k (by decide)) (by rw [hN4]; funext j; exact g_up_k (by decide)) (by rw [hN4]; funext j; exact g_up_k (by decide)) (by rw [hN4]; exact x_up32 hgN ⟨by omega, by omega⟩)
                      have hBm : q_by N4 704 0 = Xm 2 := (z_by_cg (by rw [hN4]; funext j; exact g_up_k (by decide))).trans hBm
                      have hfv : (g_numr (Xm 2) n (am + 1) (-1) 2 (g_st 0 t) (g_st 1 t)) = ((Xm 2 (g_pos (Xm 2) n (am + 1)) - 48), ((g_pos (Xm 2) n (am + 1)) + 1), -1) := by rw [hnum, z_fn, if_neg hd3, if_neg (by omega)]
                      obtain ⟨XN, hXN⟩ : ∃ XN, XN = (g_up (m_nm (g_st 0 t) (g_st 1 t) (m_adv (m_sk Xm))) 540 t (m_nv (g_st 0 t) (g_st 1 t) (m_adv (m_sk Xm)))) := ⟨_, rfl⟩
                      rw [← hXN] at hit
                      obtain ⟨hn1, hn2, hn3, hn4, hn5, hn6, hn7⟩ := z_xn (T := 540) hb hX hXn hXq ham.symm hsg9 (by decide) ⟨hlo9.2.2 (by decide), hlo9.2.1⟩ hfv hXN
                      have hr4 : ∀ j : Int, 0 ≤ j → j < 5 → N4 708 (row + j) = XN 540 j := fun j j0 j1 => by
                        rw [hN4]
                        by_cases e9 : j = t
                        · rw [e9, g_up_s, hn7]
                        · rw [g_up_i (by omega), hn6 j e9]; exact hrw j j0 j1
                      have hf4 : ∀ (k : Nat) (j : Int), ¬ (k = 708 ∧ row ≤ j ∧ j < row + 5) → N4 k j = N k j := fun k j hk => by rw [hN4]; exact (g_up_n (by omega)).trans (hfN k j hk)
                      have hg4 : ∀ k j, g32 (N4 k j) := he.2.2.2.2.1
                      refine g_aload_n hc dX13_readItems_219 rfl ?_
                      refine g_aldn hc dX13_readItems_220 rfl ?_
                      refine g_V0r hc (z_look w hR he hBm (by omega) (by omega)) my_X13_look mv_X13_look ca_703 rfl rfl lm_X13_144 rfl (by decide) (Nat.le_of_ble_eq_true rfl) hm dX13_readItems_221 ?_
                      refine g_S2r hc (c_X13_placeOf w (i := 0) (c := (g_sgn (Xm 2) n ((g_pos (Xm 2) n (am + 1)) + 1))) (by decide) (by first | assumption | with_reducible exact z_sg32 hXb | with_reducible exact z_sg32 hXb0 | with_reducible exact g_and32 | with_reducible exact g_or32 | exact ⟨by omega, by omega⟩)) my_X13_placeOf ms_X13_placeOf lm_X13_220 rfl (by decide) (Nat.le_of_ble_eq_true rfl) hm dX13_readItems_224 ?_
                      refine g_istore_7 hc dX13_readItems_227 rfl ?_
                      refine g_goto (tgt := 13) hc dX13_readItems_229 (by decide) ?_
                      refine G_sub (L' := [some (gvr w 703), some (gvr w 708), some (gvI row), some (.ref (w.2.2.2.2 100)), some (.ref (w.2.2.2.2 105)), some (.ref (w.2.2.2.2 106)), some (gvI (g_or e (g_shl 1 t))), some (gvI (g_inx 0 (g_sgn (Xm 2) n ((g_pos (Xm 2) n (am + 1)) + 1)))), none, none, none]) (show g_le _ _ from ⟨rfl, ⟨rfl, ⟨rfl, ⟨rfl, ⟨rfl, ⟨rfl, ⟨rfl, ⟨rfl, trivial⟩⟩⟩⟩⟩⟩⟩⟩) ?_
                      refine ih_13 k2 _ _ _ XN _ ?_ ?_ ?_ ?_ ?_ ?_ ?_ ?_ ?_ ?_ ?_
                      · exact hit
                      · omega
                      · exact w2
                      · exact hn5
                      · exact ⟨hn1, hn2.trans hXB, hn3⟩
                      · rw [hn2, hn4]
                      · rw [z_inx (by decide) (z_sgm hXb).1, z_sg_eq, hn2, hn1, hn4]
                      · exact hf4
                      · exact hg4
                      · exact hr4
                      · omega
                    · skip
                      have hin := c9
                      refine g_aldn hc dX13_readItems_195 rfl ?_
                      refine g_dup hc dX13_readItems_196 rfl ?_
                      refine g_getIe hc lk_X13_125 ca_703 10 rfl (y_M_a) dX13_readItems_197 ?_
                      refine g_iconst hc dX13_readItems_200 ?_
                      refine g_isub hc dX13_readItems_201 ?_
                      refine g_putIe (I2 := (y_M Nm (((g_pos (Xm 2) n (am + 1)) + 1) - 1) (-1) d)) hc lk_X13_125 ca_703 10 rfl y_M_pa dX13_readItems_202 ?_
                      refine g_aldn hc dX13_readItems_205 rfl ?_
                      refine g_V0r hc (d_fails w hR he (by omega) (by omega)) my_X13_fails mv_X13_fails ca_703 rfl rfl lm_X13_140 rfl (by decide) (Nat.le_of_ble_eq_true rfl) hm dX13_readItems_206 ?_
                      refine g_pop hc dX13_readItems_209 rfl ?_
                      refine g_vret hc hm dX13_readItems_210 ?_
                      have hq8 : (g_numr (Xm 2) n (am + 1) (-1) 2 (g_st 0 t) (g_st 1 t)).2.2 = (((g_pos (Xm 2) n (am + 1)) + 1) - 1) := by
                        rw [hnum, z_fn, if_neg hd3, if_pos (by omega)]
                      have hq7 : (g_up (m_nm (g_st 0 t) (g_st 1 t) (m_adv (m_sk Xm))) 540 t (m_nv (g_st 0 t) (g_st 1 t) (m_adv (m_sk Xm)))) 1 3 = (((g_pos (Xm 2) n (am + 1)) + 1) - 1) := by rw [g_up_k (by decide), z5]; exact hq8
                      have hq9 : (m_items 540 5 0 0 1 2 X) 1 3 = (((g_pos (Xm 2) n (am + 1)) + 1) - 1) := by rw [hit, z_itn_q (by decide) _ _ _ (by rw [hq7]; omega)]; exact hq7
                      exact ⟨rfl, rfl, rfl, rfl, (((g_pos (Xm 2) n (am + 1)) + 1) - 1), Nm, by rw [hq9, g_q1, if_pos rfl], by omega, hfN, hgN, fun z => by rw [hq9] at z; omega⟩
                · skip
                  have hd3 := c6
                  refine g_aldn hc dX13_readItems_137 rfl ?_
                  refine g_V0r hc (d_fails w hR he (by omega) (by omega)) my_X13_fails mv_X13_fails ca_703 rfl rfl lm_X13_140 rfl (by decide) (Nat.le_of_ble_eq_true rfl) hm dX13_readItems_138 ?_
                  refine g_pop hc dX13_readItems_141 rfl ?_
                  refine g_vret hc hm dX13_readItems_142 ?_
                  have hq8 : (g_numr (Xm 2) n (am + 1) (-1) 2 (g_st 0 t) (g_st 1 t)).2.2 = ((g_pos (Xm 2) n (am + 1)) + 1) := by
                    rw [hnum, z_fn, if_pos hd3]
                  have hq7 : (g_up (m_nm (g_st 0 t) (g_st 1 t) (m_adv (m_sk Xm))) 540 t (m_nv (g_st 0 t) (g_st 1 t) (m_adv (m_sk Xm)))) 1 3 = ((g_pos (Xm 2) n (am + 1)) + 1) := by rw [g_up_k (by decide), z5]; exact hq8
                  have hq9 : (m_items 540 5 0 0 1 2 X) 1 3 = ((g_pos (Xm 2) n (am + 1)) + 1) := by rw [hit, z_itn_q (by decide) _ _ _ (by rw [hq7]; omega)]; exact hq7
                  exact ⟨rfl, rfl, rfl, rfl, ((g_pos (Xm 2) n (am + 1)) + 1), Nm, by rw [hq9, g_q1, if_pos rfl], by omega, hfN, hgN, fun z => by rw [hq9] at z; omega⟩
              · skip
                have hd2 : z_dg (Xm 2) n ((g_pos (Xm 2) n (am + 1)) + 1) := c5
                have hnum := y3 hd1 hd2
                have hd2n := hd2.1
                refine g_bipush hc dX13_readItems_105 (by decide +kernel) ?_
                refine g_iload hc dX13_readItems_107 rfl ?_
                refine g_imul hc dX13_readItems_109 ?_
                refine g_aldn hc dX13_readItems_110 rfl ?_
                refine g_V0r hc (z_here w hR he hBm (by omega) (by omega)) my_X13_here mv_X13_here ca_703 rfl rfl lm_X13_228 rfl (by decide) (Nat.le_of_ble_eq_true rfl) hm dX13_readItems_111 ?_
                refine g_iadd hc dX13_readItems_114 ?_
                refine g_bipush hc dX13_readItems_115 (by decide +kernel) ?_
                refine g_isub hc dX13_readItems_117 ?_
                rw [show ((10 * (Xm 2 (g_pos (Xm 2) n (am + 1)) - 48)) + (if ((g_pos (Xm 2) n (am + 1)) + 1) < n then (Xm 2) ((g_pos (Xm 2) n (am + 1)) + 1) else -1)) - 48 = 10 * (Xm 2 (g_pos (Xm 2) n (am + 1)) - 48) + Xm 2 ((g_pos (Xm 2) n (am + 1)) + 1) - 48 from by rw [if_pos hd2n]]
                refine g_istore_9 hc dX13_readItems_118 rfl ?_
                refine g_aldn hc dX13_readItems_120 rfl ?_
                refine g_dup hc dX13_readItems_121 rfl ?_
                refine g_getIe hc lk_X13_125 ca_703 10 rfl (y_M_a) dX13_readItems_122 ?_
                refine g_iconst hc dX13_readItems_125 ?_
                refine g_iadd hc dX13_readItems_126 ?_
                refine g_putIe (I2 := (y_M Nm (((g_pos (Xm 2) n (am + 1)) + 1) + 1) (-1) d)) hc lk_X13_125 ca_703 10 rfl y_M_pa dX13_readItems_127 ?_
                refine g_aldn hc dX13_readItems_130 rfl ?_
                refine g_V0r hc (z_isDigit w hR he hBm (by omega) (by omega)) my_X13_isDigit mv_X13_isDigit ca_703 rfl rfl lm_X13_174 rfl (by decide) (Nat.le_of_ble_eq_true rfl) hm dX13_readItems_131 ?_
                refine g_ifb_eq (tgt := 143) hc dX13_readItems_134 (by decide)  (fun c10 => ?_) (fun c10 => ?_)
                · skip
                  have hd3 := c10
                  refine g_aload hc dX13_readItems_143 rfl ?_
                  refine g_iload hc dX13_readItems_145 rfl ?_
                  refine g_T1r (i := 6) (by decide) hc (c_J0_charAt_5068e w (by decide) (by omega)) my_J0_charAt_5068e mv_J0_charAt_5068e rfl lm_X13_111 rfl (by decide) (Nat.le_of_ble_eq_true rfl) hm dX13_readItems_147 ?_
                  refine g_bipush hc dX13_readItems_150 (by decide +kernel) ?_
                  refine g_icmp_ne (tgt := 160) hc dX13_readItems_152 (by decide) (by first | assumption | with_reducible exact z_sg32 hXb | with_reducible exact z_sg32 hXb0 | with_reducible exact g_and32 | with_reducible exact g_or32 | exact ⟨by omega, by omega⟩) (by first | assumption | with_reducible exact z_sg32 hXb | with_reducible exact z_sg32 hXb0 | with_reducible exact g_and32 | with_reducible exact g_or32 | exact ⟨by omega, by omega⟩) (fun c11 => ?_) (fun c11 => ?_)
                  · skip
                    have hbd : g_tx 6 t - 48 = g_st 1 t := by rw [if_neg c11] at b2; exact b2
                    refine g_aload hc dX13_readItems_160 rfl ?_
                    refine g_iload hc dX13_readItems_162 rfl ?_
                    refine g_T1r (i := 6) (by decide) hc (c_J0_charAt_5068e w (by decide) (by omega)) my_J0_charAt_5068e mv_J0_charAt_5068e rfl lm_X13_111 rfl (by decide) (Nat.le_of_ble_eq_true rfl) hm dX13_readItems_164 ?_
                    refine g_bipush hc dX13_readItems_167 (by decide +kernel) ?_
                    refine g_isub hc dX13_readItems_169 ?_
                    rw [show (g_tx 6 t) - 48 = g_st 1 t from hbd]
                    refine g_istore_10 hc dX13_readItems_170 rfl ?_
                    refine g_iload hc dX13_readItems_172 rfl ?_
                    refine g_i2l hc dX13_readItems_174 (by first | assumption | with_reducible exact z_sg32 hXb | with_reducible exact z_sg32 hXb0 | with_reducible exact g_and32 | with_reducible exact g_or32 | exact ⟨by omega, by omega⟩) ?_
                    refine g_aload hc dX13_readItems_175 rfl ?_
                    refine g_iload hc dX13_readItems_177 rfl ?_
                    refine g_T1r (i := 5) (by decide) hc (c_J0_charAt_5068e w (by decide) (by omega)) my_J0_charAt_5068e mv_J0_charAt_5068e rfl lm_X13_111 rfl (by decide) (Nat.le_of_ble_eq_true rfl) hm dX13_readItems_179 ?_
                    refine g_bipush hc dX13_readItems_182 (by decide +kernel) ?_
                    refine g_isub hc dX13_readItems_184 ?_
                    rw [show (g_tx 5 t) - 48 = g_st 0 t from b1]
                    refine g_i2l hc dX13_readItems_185 (by first | assumption | with_reducible exact z_sg32 hXb | with_reducible exact z_sg32 hXb0 | with_reducible exact g_and32 | with_reducible exact g_or32 | exact ⟨by omega, by omega⟩) ?_
                    refine g_iload hc dX13_readItems_186 rfl ?_
                    refine g_i2l hc dX13_readItems_188 (by first | assumption | with_reducible exact z_sg32 hXb | with_reducible exact z_sg32 hXb0 | with_reducible exact g_and32 | with_reducible exact g_or32 | exact ⟨by omega, by omega⟩) ?_
                    refine g_S3r hc (c_X13_isIn w (by first | assumption | with_reducible exact z_sg32 hXb | with_reducible exact z_sg32 hXb0 | with_reducible exact g_and32 | with_reducible exact g_or32 | exact ⟨by omega, by omega⟩) (by first | assumption | with_reducible exact z_sg32 hXb | with_reducible exact z_sg32 hXb0 | with_reducible exact g_and32 | with_reducible exact g_or32 | exact ⟨by omega, by omega⟩) (by first | assumption | with_reducible exact z_sg32 hXb | with_reducible exact z_sg32 hXb0 | with_reducible exact g_and32 | with_reducible exact g_or32 | exact ⟨by omega, by omega⟩)) my_X13_isIn ms_X13_isIn lm_X13_231 rfl (by decide) (Nat.le_of_ble_eq_true rfl) hm dX13_readItems_189 ?_
                    refine g_ifb_ne (tgt := 211) hc dX13_readItems_192 (by decide)  (fun c12 => ?_) (fun c12 => ?_)
                    · skip
                      have hin := c12
                      refine g_aldn hc dX13_readItems_211 rfl ?_
                      refine g_iload_n hc dX13_readItems_212 rfl ?_
                      refine g_iload hc dX13_readItems_213 rfl ?_
                      refine g_iadd hc dX13_readItems_215 ?_
                      refine g_iload hc dX13_readItems_216 rfl ?_
                      obtain ⟨N5, hN5⟩ : ∃ N5, N5 = g_up Nm 708 (row + t) (10 * (Xm 2 (g_pos (Xm 2) n (am + 1)) - 48) + Xm 2 ((g_pos (Xm 2) n (am + 1)) + 1) - 48) := ⟨_, rfl⟩
                      refine g_iaste (I2 := (y_M N5 (((g_pos (Xm 2) n (am + 1)) + 1) + 1) (-1) d)) hc ca_708 (by decide) (by omega) (by omega) ((y_M_p (by omega)).trans (by rw [hN5])) dX13_readItems_218 ?_
                      have he : y_env N5 704 240 0 n Lf := y_env_cg he (fun j => by rw [hN5]; exact g_up_k (by decide)) (by rw [hN5]; funext j; exact g_up_k (by decide)) (by rw [hN5]; funext j; exact g_up_k (by decide)) (by rw [hN5]; exact x_up32 hgN ⟨by omega, by omega⟩)
                      have hBm : q_by N5 704 0 = Xm 2 := (z_by_cg (by rw [hN5]; funext j; exact g_up_k (by decide))).trans hBm
                      have hfv : (g_numr (Xm 2) n (am + 1) (-1) 2 (g_st 0 t) (g_st 1 t)) = ((10 * (Xm 2 (g_pos (Xm 2) n (am + 1)) - 48) + Xm 2 ((g_pos (Xm 2) n (am + 1)) + 1) - 48), (((g_pos (Xm 2) n (am + 1)) + 1) + 1), -1) := by rw [hnum, z_fn, if_neg hd3, if_neg (by omega)]
                      obtain ⟨XN, hXN⟩ : ∃ XN, XN = (g_up (m_nm (g_st 0 t) (g_st 1 t) (m_adv (m_sk Xm))) 540 t (m_nv (g_st 0 t) (g_st 1 t) (m_adv (m_sk Xm)))) := ⟨_, rfl⟩
                      rw [← hXN] at hit
                      obtain ⟨hn1, hn2, hn3, hn4, hn5, hn6, hn7⟩ := z_xn (T := 540) hb hX hXn hXq ham.symm hsg9 (by decide) ⟨hlo9.2.2 (by decide), hlo9.2.1⟩ hfv hXN
                      have hr4 : ∀ j : Int, 0 ≤ j → j < 5 → N5 708 (row + j) = XN 540 j := fun j j0 j1 => by
                        rw [hN5]
                        by_cases e9 : j = t
                        · rw [e9, g_up_s, hn7]
                        · rw [g_up_i (by omega), hn6 j e9]; exact hrw j j0 j1
                      have hf4 : ∀ (k : Nat) (j : Int), ¬ (k = 708 ∧ row ≤ j ∧ j < row + 5) → N5 k j = N k j := fun k j hk => by rw [hN5]; exact (g_up_n (by omega)).trans (hfN k j hk)
                      have hg4 : ∀ k j, g32 (N5 k j) := he.2.2.2.2.1
                      refine g_aload_n hc dX13_readItems_219 rfl ?_
                      refine g_aldn hc dX13_readItems_220 rfl ?_
                      refine g_V0r hc (z_look w hR he hBm (by omega) (by omega)) my_X13_look mv_X13_look ca_703 rfl rfl lm_X13_144 rfl (by decide) (Nat.le_of_ble_eq_true rfl) hm dX13_readItems_221 ?_
                      refine g_S2r hc (c_X13_placeOf w (i := 0) (c := (g_sgn (Xm 2) n (((g_pos (Xm 2) n (am + 1)) + 1) + 1))) (by decide) (by first | assumption | with_reducible exact z_sg32 hXb | with_reducible exact z_sg32 hXb0 | with_reducible exact g_and32 | with_reducible exact g_or32 | exact ⟨by omega, by omega⟩)) my_X13_placeOf ms_X13_placeOf lm_X13_220 rfl (by decide) (Nat.le_of_ble_eq_true rfl) hm dX13_readItems_224 ?_
                      refine g_istore_7 hc dX13_readItems_227 rfl ?_
                      refine g_goto (tgt := 13) hc dX13_readItems_229 (by decide) ?_
                      refine G_sub (L' := [some (gvr w 703), some (gvr w 708), some (gvI row), some (.ref (w.2.2.2.2 100)), some (.ref (w.2.2.2.2 105)), some (.ref (w.2.2.2.2 106)), some (gvI (g_or e (g_shl 1 t))), some (gvI (g_inx 0 (g_sgn (Xm 2) n (((g_pos (Xm 2) n (am + 1)) + 1) + 1)))), none, none, none]) (show g_le _ _ from ⟨rfl, ⟨rfl, ⟨rfl, ⟨rfl, ⟨rfl, ⟨rfl, ⟨rfl, ⟨rfl, trivial⟩⟩⟩⟩⟩⟩⟩⟩) ?_
                      refine ih_13 k2 _ _ _ XN _ ?_ ?_ ?_ ?_ ?_ ?_ ?_ ?_ ?_ ?_ ?_
                      · exact hit
                      · omega
                      · exact w2
                      · exact hn5
                      · exact ⟨hn1, hn2.trans hXB, hn3⟩
                      · rw [hn2, hn4]
                      · rw [z_inx (by decide) (z_sgm hXb).1, z_sg_eq, hn2, hn1, hn4]
                      · exact hf4
                      · exact hg4
                      · exact hr4
                      · omega
                    · skip
                      have hin := c12
                      refine g_aldn hc dX13_readItems_195 rfl ?_
                      refine g_dup hc dX13_readItems_196 rfl ?_
                      refine g_getIe hc lk_X13_125 ca_703 10 rfl (y_M_a) dX13_readItems_197 ?_
                      refine g_iconst hc dX13_readItems_200 ?_
                      refine g_isub hc dX13_readItems_201 ?_
                      refine g_putIe (I2 := (y_M Nm ((((g_pos (Xm 2) n (am + 1)) + 1) + 1) - 1) (-1) d)) hc lk_X13_125 ca_703 10 rfl y_M_pa dX13_readItems_202 ?_
                      refine g_aldn hc dX13_readItems_205 rfl ?_
                      refine g_V0r hc (d_fails w hR he (by omega) (by omega)) my_X13_fails mv_X13_fails ca_703 rfl rfl lm_X13_140 rfl (by decide) (Nat.le_of_ble_eq_true rfl) hm dX13_readItems_206 ?_
                      refine g_pop hc dX13_readItems_209 rfl ?_
                      refine g_vret hc hm dX13_readItems_210 ?_
                      have hq8 : (g_numr (Xm 2) n (am + 1) (-1) 2 (g_st 0 t) (g_st 1 t)).2.2 = ((((g_pos (Xm 2) n (am + 1)) + 1) + 1) - 1) := by
                        rw [hnum, z_fn, if_neg hd3, if_pos (by omega)]
                      have hq7 : (g_up (m_nm (g_st 0 t) (g_st 1 t) (m_adv (m_sk Xm))) 540 t (m_nv (g_st 0 t) (g_st 1 t) (m_adv (m_sk Xm)))) 1 3 = ((((g_pos (Xm 2) n (am + 1)) + 1) + 1) - 1) := by rw [g_up_k (by decide), z5]; exact hq8
                      have hq9 : (m_items 540 5 0 0 1 2 X) 1 3 = ((((g_pos (Xm 2) n (am + 1)) + 1) + 1) - 1) := by rw [hit, z_itn_q (by decide) _ _ _ (by rw [hq7]; omega)]; exact hq7
                      exact ⟨rfl, rfl, rfl, rfl, ((((g_pos (Xm 2) n (am + 1)) + 1) + 1) - 1), Nm, by rw [hq9, g_q1, if_pos rfl], by omega, hfN, hgN, fun z => by rw [hq9] at z; omega⟩
                  · skip
                    have hbd : (99 : Int) = g_st 1 t := by rw [if_pos c11] at b2; exact b2
                    refine g_bipush hc dX13_readItems_155 (by decide +kernel) ?_
                    refine g_goto (tgt := 170) hc dX13_readItems_157 (by decide) ?_
                    rw [show 99 = g_st 1 t from hbd]
                    refine g_istore_10 hc dX13_readItems_170 rfl ?_
                    refine g_iload hc dX13_readItems_172 rfl ?_
                    refine g_i2l hc dX13_readItems_174 (by first | assumption | with_reducible exact z_sg32 hXb | with_reducible exact z_sg32 hXb0 | with_reducible exact g_and32 | with_reducible exact g_or32 | exact ⟨by omega, by omega⟩) ?_
                    refine g_aload hc dX13_readItems_175 rfl ?_
                    refine g_iload hc dX13_readItems_177 rfl ?_
                    refine g_T1r (i := 5) (by decide) hc (c_J0_charAt_5068e w (by decide) (by omega)) my_J0_charAt_5068e mv_J0_charAt_5068e rfl lm_X13_111 rfl (by decide) (Nat.le_of_ble_eq_true rfl) hm dX13_readItems_179 ?_
                    refine g_bipush hc dX13_readItems_182 (by decide +kernel) ?_
                    refine g_isub hc dX13_readItems_184 ?_
                    rw [show (g_tx 5 t) - 48 = g_st 0 t from b1]
                    refine g_i2l hc dX13_readItems_185 (by first | assumption | with_reducible exact z_sg32 hXb | with_reducible exact z_sg32 hXb0 | with_reducible exact g_and32 | with_reducible exact g_or32 | exact ⟨by omega, by omega⟩) ?_
                    refine g_iload hc dX13_readItems_186 rfl ?_
                    refine g_i2l hc dX13_readItems_188 (by first | assumption | with_reducible exact z_sg32 hXb | with_reducible exact z_sg32 hXb0 | with_reducible exact g_and32 | with_reducible exact g_or32 | exact ⟨by omega, by omega⟩) ?_
                    refine g_S3r hc (c_X13_isIn w (by first | assumption | with_reducible exact z_sg32 hXb | with_reducible exact z_sg32 hXb0 | with_reducible exact g_and32 | with_reducible exact g_or32 | exact ⟨by omega, by omega⟩) (by first | assumption | with_reducible exact z_sg32 hXb | with_reducible exact z_sg32 hXb0 | with_reducible exact g_and32 | with_reducible exact g_or32 | exact ⟨by omega, by omega⟩) (by first | assumption | with_reducible exact z_sg32 hXb | with_reducible exact z_sg32 hXb0 | with_reducible exact g_and32 | with_reducible exact g_or32 | exact ⟨by omega, by omega⟩)) my_X13_isIn ms_X13_isIn lm_X13_231 rfl (by decide) (Nat.le_of_ble_eq_true rfl) hm dX13_readItems_189 ?_
                    refine g_ifb_ne (tgt := 211) hc dX13_readItems_192 (by decide)  (fun c13 => ?_) (fun c13 => ?_)
                    · skip
                      have hin := c13
                      refine g_aldn hc dX13_readItems_211 rfl ?_
                      refine g_iload_n hc dX13_readItems_212 rfl ?_
                      refine g_iload hc dX13_readItems_213 rfl ?_
                      refine g_iadd hc dX13_readItems_215 ?_
                      refine g_iload hc dX13_readItems_216 rfl ?_
                      obtain ⟨N6, hN6⟩ : ∃ N6, N6 = g_up Nm 708 (row + t) (10 * (Xm 2 (g_pos (Xm 2) n (am + 1)) - 48) + Xm 2 ((g_pos (Xm 2) n (am + 1)) + 1) - 48) := ⟨_, rfl⟩
                      refine g_iaste (I2 := (y_M N6 (((g_pos (Xm 2) n (am + 1)) + 1) + 1) (-1) d)) hc ca_708 (by decide) (by omega) (by omega) ((y_M_p (by omega)).trans (by rw [hN6])) dX13_readItems_218 ?_
                      have he : y_env N6 704 240 0 n Lf := y_env_cg he (fun j => by rw [hN6]; exact g_up_k (by decide)) (by rw [hN6]; funext j; exact g_up_k (by decide)) (by rw [hN6]; funext j; exact g_up_k (by decide)) (by rw [hN6]; exact x_up32 hgN ⟨by omega, by omega⟩)
                      have hBm : q_by N6 704 0 = Xm 2 := (z_by_cg (by rw [hN6]; funext j; exact g_up_k (by decide))).trans hBm
                      have hfv : (g_numr (Xm 2) n (am + 1) (-1) 2 (g_st 0 t) (g_st 1 t)) = ((10 * (Xm 2 (g_pos (Xm 2) n (am + 1)) - 48) + Xm 2 ((g_pos (Xm 2) n (am + 1)) + 1) - 48), (((g_pos (Xm 2) n (am + 1)) + 1) + 1), -1) := by rw [hnum, z_fn, if_neg hd3, if_neg (by omega)]
                      obtain ⟨XN, hXN⟩ : ∃ XN, XN = (g_up (m_nm (g_st 0 t) (g_st 1 t) (m_adv (m_sk Xm))) 540 t (m_nv (g_st 0 t) (g_st 1 t) (m_adv (m_sk Xm)))) := ⟨_, rfl⟩
                      rw [← hXN] at hit
                      obtain ⟨hn1, hn2, hn3, hn4, hn5, hn6, hn7⟩ := z_xn (T := 540) hb hX hXn hXq ham.symm hsg9 (by decide) ⟨hlo9.2.2 (by decide), hlo9.2.1⟩ hfv hXN
                      have hr4 : ∀ j : Int, 0 ≤ j → j < 5 → N6 708 (row + j) = XN 540 j := fun j j0 j1 => by
                        rw [hN6]
                        by_cases e9 : j = t
                        · rw [e9, g_up_s, hn7]
                        · rw [g_up_i (by omega), hn6 j e9]; exact hrw j j0 j1
                      have hf4 : ∀ (k : Nat) (j : Int), ¬ (k = 708 ∧ row ≤ j ∧ j < row + 5) → N6 k j = N k j := fun k j hk => by rw [hN6]; exact (g_up_n (by omega)).trans (hfN k j hk)
                      have hg4 : ∀ k j, g32 (N6 k j) := he.2.2.2.2.1
                      refine g_aload_n hc dX13_readItems_219 rfl ?_
                      refine g_aldn hc dX13_readItems_220 rfl ?_
                      refine g_V0r hc (z_look w hR he hBm (by omega) (by omega)) my_X13_look mv_X13_look ca_703 rfl rfl lm_X13_144 rfl (by decide) (Nat.le_of_ble_eq_true rfl) hm dX13_readItems_221 ?_
                      refine g_S2r hc (c_X13_placeOf w (i := 0) (c := (g_sgn (Xm 2) n (((g_pos (Xm 2) n (am + 1)) + 1) + 1))) (by decide) (by first | assumption | with_reducible exact z_sg32 hXb | with_reducible exact z_sg32 hXb0 | with_reducible exact g_and32 | with_reducible exact g_or32 | exact ⟨by omega, by omega⟩)) my_X13_placeOf ms_X13_placeOf lm_X13_220 rfl (by decide) (Nat.le_of_ble_eq_true rfl) hm dX13_readItems_224 ?_
                      refine g_istore_7 hc dX13_readItems_227 rfl ?_
                      refine g_goto (tgt := 13) hc dX13_readItems_229 (by decide) ?_
                      refine G_sub (L' := [some (gvr w 703), some (gvr w 708), some (gvI row), some (.ref (w.2.2.2.2 100)), some (.ref (w.2.2.2.2 105)), some (.ref (w.2.2.2.2 106)), some (gvI (g_or e (g_shl 1 t))), some (gvI (g_inx 0 (g_sgn (Xm 2) n (((g_pos (Xm 2) n (am + 1)) + 1) + 1)))), none, none, none]) (show g_le _ _ from ⟨rfl, ⟨rfl, ⟨rfl, ⟨rfl, ⟨rfl, ⟨rfl, ⟨rfl, ⟨rfl, trivial⟩⟩⟩⟩⟩⟩⟩⟩) ?_
                      refine ih_13 k2 _ _ _ XN _ ?_ ?_ ?_ ?_ ?_ ?_ ?_ ?_ ?_ ?_ ?_
                      · exact hit
                      · omega
                      · exact w2
                      · exact hn5
                      · exact ⟨hn1, hn2.trans hXB, hn3⟩
                      · rw [hn2, hn4]
                      · rw [z_inx (by decide) (z_sgm hXb).1, z_sg_eq, hn2, hn1, hn4]
                      · exact hf4
                      · exact hg4
                      · exact hr4
                      · omega
                    · skip
                      have hin := c13
                      refine g_aldn hc dX13_readItems_195 rfl ?_
                      refine g_dup hc dX13_readItems_196 rfl ?_
                      refine g_getIe hc lk_X13_125 ca_703 10 rfl (y_M_a) dX13_readItems_197 ?_
                      refine g_iconst hc dX13_readItems_200 ?_
                      refine g_isub hc dX13_readItems_201 ?_
                      refine g_putIe (I2 := (y_M Nm ((((g_pos (Xm 2) n (am + 1)) + 1) + 1) - 1) (-1) d)) hc lk_X13_125 ca_703 10 rfl y_M_pa dX13_readItems_202 ?_
                      refine g_aldn hc dX13_readItems_205 rfl ?_
                      refine g_V0r hc (d_fails w hR he (by omega) (by omega)) my_X13_fails mv_X13_fails ca_703 rfl rfl lm_X13_140 rfl (by decide) (Nat.le_of_ble_eq_true rfl) hm dX13_readItems_206 ?_
                      refine g_pop hc dX13_readItems_209 rfl ?_
                      refine g_vret hc hm dX13_readItems_210 ?_
                      have hq8 : (g_numr (Xm 2) n (am + 1) (-1) 2 (g_st 0 t) (g_st 1 t)).2.2 = ((((g_pos (Xm 2) n (am + 1)) + 1) + 1) - 1) := by
                        rw [hnum, z_fn, if_neg hd3, if_pos (by omega)]
                      have hq7 : (g_up (m_nm (g_st 0 t) (g_st 1 t) (m_adv (m_sk Xm))) 540 t (m_nv (g_st 0 t) (g_st 1 t) (m_adv (m_sk Xm)))) 1 3 = ((((g_pos (Xm 2) n (am + 1)) + 1) + 1) - 1) := by rw [g_up_k (by decide), z5]; exact hq8
                      have hq9 : (m_items 540 5 0 0 1 2 X) 1 3 = ((((g_pos (Xm 2) n (am + 1)) + 1) + 1) - 1) := by rw [hit, z_itn_q (by decide) _ _ _ (by rw [hq7]; omega)]; exact hq7
                      exact ⟨rfl, rfl, rfl, rfl, ((((g_pos (Xm 2) n (am + 1)) + 1) + 1) - 1), Nm, by rw [hq9, g_q1, if_pos rfl], by omega, hfN, hgN, fun z => by rw [hq9] at z; omega⟩
                · skip
                  have hd3 := c10
                  refine g_aldn hc dX13_readItems_137 rfl ?_
                  refine g_V0r hc (d_fails w hR he (by omega) (by omega)) my_X13_fails mv_X13_fails ca_703 rfl rfl lm_X13_140 rfl (by decide) (Nat.le_of_ble_eq_true rfl) hm dX13_readItems_138 ?_
                  refine g_pop hc dX13_readItems_141 rfl ?_
                  refine g_vret hc hm dX13_readItems_142 ?_
                  have hq8 : (g_numr (Xm 2) n (am + 1) (-1) 2 (g_st 0 t) (g_st 1 t)).2.2 = (((g_pos (Xm 2) n (am + 1)) + 1) + 1) := by
                    rw [hnum, z_fn, if_pos hd3]
                  have hq7 : (g_up (m_nm (g_st 0 t) (g_st 1 t) (m_adv (m_sk Xm))) 540 t (m_nv (g_st 0 t) (g_st 1 t) (m_adv (m_sk Xm)))) 1 3 = (((g_pos (Xm 2) n (am + 1)) + 1) + 1) := by rw [g_up_k (by decide), z5]; exact hq8
                  have hq9 : (m_items 540 5 0 0 1 2 X) 1 3 = (((g_pos (Xm 2) n (am + 1)) + 1) + 1) := by rw [hit, z_itn_q (by decide) _ _ _ (by rw [hq7]; omega)]; exact hq7
                  exact ⟨rfl, rfl, rfl, rfl, (((g_pos (Xm 2) n (am + 1)) + 1) + 1), Nm, by rw [hq9, g_q1, if_pos rfl], by omega, hfN, hgN, fun z => by rw [hq9] at z; omega⟩
            · skip
              have hd1 := c4
              refine g_aldn hc dX13_readItems_75 rfl ?_
              refine g_V0r hc (d_fails w hR he (by omega) (by omega)) my_X13_fails mv_X13_fails ca_703 rfl rfl lm_X13_140 rfl (by decide) (Nat.le_of_ble_eq_true rfl) hm dX13_readItems_76 ?_
              refine g_pop hc dX13_readItems_79 rfl ?_
              refine g_vret hc hm dX13_readItems_80 ?_
              have hq8 : (g_numr (Xm 2) n (am + 1) (-1) 2 (g_st 0 t) (g_st 1 t)).2.2 = (g_pos (Xm 2) n (am + 1)) := by
                exact y1 hd1
              have hq7 : (g_up (m_nm (g_st 0 t) (g_st 1 t) (m_adv (m_sk Xm))) 540 t (m_nv (g_st 0 t) (g_st 1 t) (m_adv (m_sk Xm)))) 1 3 = (g_pos (Xm 2) n (am + 1)) := by rw [g_up_k (by decide), z5]; exact hq8
              have hq9 : (m_items 540 5 0 0 1 2 X) 1 3 = (g_pos (Xm 2) n (am + 1)) := by rw [hit, z_itn_q (by decide) _ _ _ (by rw [hq7]; omega)]; exact hq7
              exact ⟨rfl, rfl, rfl, rfl, (g_pos (Xm 2) n (am + 1)), Nm, by rw [hq9, g_q1, if_pos rfl], by omega, hfN, hgN, fun z => by rw [hq9] at z; omega⟩
          · skip
            rw [if_pos c3] at hit
            have hY3 : (m_items 540 5 0 0 1 2 X) 1 3 = am := by rw [hit]; unfold m_fl; rw [g_ts_q, z_sk_q, hXq, g_q1, if_pos rfl]; unfold m_sk; rw [g_ts_n, g_ts_a, show g_ts Xm (g_pos (Xm 2) (Xm 1 1) (Xm 1 2)) (Xm 1 3) 2 = Xm 2 from g_ts_f (by decide), hXn, g_pos_pos (by omega), ham]
            refine g_aldn hc dX13_readItems_37 rfl ?_
            refine g_V0r hc (d_fails w hR he (by omega) (by omega)) my_X13_fails mv_X13_fails ca_703 rfl rfl lm_X13_140 rfl (by decide) (Nat.le_of_ble_eq_true rfl) hm dX13_readItems_38 ?_
            refine g_pop hc dX13_readItems_41 rfl ?_
            refine g_vret hc hm dX13_readItems_42 ?_
            exact ⟨rfl, rfl, rfl, rfl, am, Nm, by rw [hY3, g_q1, if_pos rfl], by omega, hfN, hgN, fun z => by rw [hY3] at z; omega⟩
  refine lp_13 7 6 0 _ _ (m_us 540 2 X) _ ?_ ?_ ?_ ?_ ?_ ?_ ?_ ?_ ?_ ?_ (?_)
  · show m_itn 540 5 0 0 1 ((5 : Int).toNat + 1) 0 (m_us 540 2 X) = _
    rw [show (5 : Int).toNat + 1 = 6 from rfl]
  · rw [z_pcz.1]; rfl
  · decide
  · exact m_us_ok hb hX0 (by decide) (by decide)
  · exact ⟨(z_us_1 (by decide)).trans hXn0, (z_us_k (by decide)).trans hXB0, (z_us_1 (by decide)).trans hXq0⟩
  · rw [z_us_k (by decide), z_us_1 (by decide), hXa0]
  · rw [z_inx (by decide) (z_sgm hXb0).1, z_sg_eq, z_us_k (by decide), z_us_1 (by decide), z_us_1 (by decide), hXa0, hXn0]
  · exact fun _ _ _ => rfl
  · exact hgN0
  · exact fun j j0 j1 => by rw [hus j j0 j1, z_us_t j0 (by rw [z_sarl2]; exact j1)]
  · decide
set_option maxHeartbeats 4000000 in
set_option maxRecDepth 100000 in
/-- X13_readItems -/
theorem r_fork (w : g_W) {J : g_J} {R : g_R} {lb : Nat} (hR : g_rf w R lb 704) {N : g_I} {n : Int} {Lf : Int → Int} (he : y_env N 704 240 0 n Lf) {row a d : Int} (hrow : 0 ≤ row ∧ row + 2 ≤ 360) (ha0 : 0 ≤ a ∧ a ≤ n) {X : g_I} {b : Nat} (hb : g_life b) (hX0 : l_ok b X) (hXn0 : X 1 1 = n) (hXB0 : X 2 = q_by N 704 0) (hXa0 : X 1 2 = a) (hXq0 : X 1 3 = -1) (hus : ∀ j : Int, 0 ≤ j → j < 2 → N 709 (row + j) = g_st 5 j) : g_Met w g_n (y_M N a (-1) d) J R yX13_readItems cX13_readItems 11 none 5 0 0 [(gvr w 703), (gvr w 709), (gvI row), (.ref (w.2.2.2.2 101)), (.ref (w.2.2.2.2 107)), (.ref (w.2.2.2.2 108))] (z_it n d N J R 709 row 2 542 (m_items 542 2 1 3 4 5 X)) := by
  refine g_intro (own := RX13) [some (gvr w 703), some (gvr w 709), some (gvI row), some (.ref (w.2.2.2.2 101)), some (.ref (w.2.2.2.2 107)), some (.ref (w.2.2.2.2 108)), none, none, none, none, none] (by decide +kernel) rfl (by decide) (Nat.le_of_ble_eq_true rfl) rfl (fun i v hv => g_args 5 i v hv rfl) (fun x hc hm => ?_)
  have hlm9 : g_tln 8 = 2 := by decide +kernel
  have hll9 : g_tln 7 = 2 := by decide +kernel
  have he0 := he
  have he5 := he.2.2.1
  have hgN0 := he.2.2.2.2.1
  have hBx : q_by N 704 0 = X 2 := hXB0.symm
  have hXb0 := hX0.2.2.2.2.1
  refine g_iconst hc dX13_readItems_0 ?_
  refine g_istore_6 hc dX13_readItems_1 rfl ?_
  refine g_aload_n hc dX13_readItems_3 rfl ?_
  refine g_aldn hc dX13_readItems_4 rfl ?_
  refine g_V0r hc (z_look w hR he hBx (by omega) (by omega)) my_X13_look mv_X13_look ca_703 rfl rfl lm_X13_144 rfl (by decide) (Nat.le_of_ble_eq_true rfl) hm dX13_readItems_5 ?_
  refine g_S2r hc (c_X13_placeOf w (i := 1) (c := (g_sgn (X 2) n a)) (by decide) (by first | assumption | with_reducible exact z_sg32 hXb | with_reducible exact z_sg32 hXb0 | with_reducible exact g_and32 | with_reducible exact g_or32 | exact ⟨by omega, by omega⟩)) my_X13_placeOf ms_X13_placeOf lm_X13_220 rfl (by decide) (Nat.le_of_ble_eq_true rfl) hm dX13_readItems_8 ?_
  refine g_istore_7 hc dX13_readItems_11 rfl ?_
  have lp_13 : ∀ (fu : Nat) (k : Nat) (e t am : Int) (Xm Nm : g_I), m_items 542 2 1 3 4 5 X = m_itn 542 2 1 3 4 k e Xm → (k : Int) + z_pc 2 e = 2 + 1 → (0 ≤ e ∧ e < 32) → l_ok b Xm → (Xm 1 1 = n ∧ Xm 2 = q_by N 704 0 ∧ Xm 1 3 = -1) → am = g_pos (Xm 2) n (Xm 1 2) → t = (m_it 1 (m_sg Xm)) → (∀ (k : Nat) (j : Int), ¬ (k = 709 ∧ row ≤ j ∧ j < row + 2) → Nm k j = N k j) → (∀ k j, g32 (Nm k j)) → (∀ j : Int, 0 ≤ j → j < 2 → Nm 709 (row + j) = Xm 542 j) → (k : Int) < (fu : Int) → G w x (z_it n d N J R 709 row 2 542 (m_items 542 2 1 3 4 5 X)) 0 0 g_n (y_M Nm am (-1) d) J R 13 [some (gvr w 703), some (gvr w 709), some (gvI row), some (.ref (w.2.2.2.2 101)), some (.ref (w.2.2.2.2 107)), some (.ref (w.2.2.2.2 108)), some (gvI e), some (gvI t), none, none, none] [] := by
    intro fu
    induction fu with
    | zero => intro k e t am Xm Nm hit hpc he9 hX hXs ham ht hfN hgN hrw hfu; exfalso; omega
    | succ fu ih =>
      intro k e t am Xm Nm hit hpc he9 hX hXs ham ht hfN hgN hrw hfu
      obtain ⟨hXn, hXB, hXq⟩ := hXs
      have he : y_env Nm 704 240 0 n Lf := y_env_cg he0 (fun j => hfN 703 j (by omega)) (funext fun j => hfN 704 j (by omega)) (funext fun j => hfN 707 j (by omega)) hgN
      have he5 := he.2.2.1
      have hBm : q_by Nm 704 0 = Xm 2 := (z_by_cg (funext fun j => hfN 704 j (by omega))).trans hXB.symm
      have hXa := hX.2.1
      have hXb := hX.2.2.2.2.1
      have hpin := g_pos_in (B := Xm 2) (len := n) (a := Xm 1 2) (by omega)
      have ha : 0 ≤ am ∧ am ≤ n := by omega
      have hti : -1 ≤ t ∧ t < 2 := by
        have := m_it_in (X := 1) (c := m_sg Xm) (by decide)
        rw [ht]
        exact ⟨this.1, z_itL⟩
      have hk1 : 1 ≤ k := by
        have := (z_pcs (L := 2) (e := e) (j := 0) (by decide) he9 ⟨by decide, by decide⟩).1.1
        omega
      obtain ⟨k2, rfl⟩ : ∃ k2, k = k2 + 1 := ⟨k - 1, by omega⟩
      rw [m_itn, ← ht] at hit
      have ih_13 := ih
      refine g_iload hc dX13_readItems_13 rfl ?_
      refine g_iconst hc dX13_readItems_15 ?_
      refine g_icmp_eq (tgt := 232) hc dX13_readItems_16 (by decide) (by first | assumption | with_reducible exact z_sg32 hXb | with_reducible exact z_sg32 hXb0 | with_reducible exact g_and32 | with_reducible exact g_or32 | exact ⟨by omega, by omega⟩) (by first | assumption | with_reducible exact z_sg32 hXb | with_reducible exact z_sg32 hXb0 | with_reducible exact g_and32 | with_reducible exact g_or32 | exact ⟨by omega, by omega⟩) (fun c1 => ?_) (fun c1 => ?_)
      · skip
        have ht0 : t = -1 := c1
        rw [if_pos (Or.inl (by omega))] at hit
        have hY3 : (m_items 542 2 1 3 4 5 X) 1 3 = -1 := by rw [hit, z_sk_q]; exact hXq
        have hY2 : (m_items 542 2 1 3 4 5 X) 1 2 = am := by rw [hit, ham]; unfold m_sk; rw [g_ts_a, hXn]
        have hYT : ∀ j, (m_items 542 2 1 3 4 5 X) 542 j = Xm 542 j := fun j => by rw [hit]; exact congrFun (g_ts_f (by decide)) j
        refine g_vret hc hm dX13_readItems_232 ?_
        exact ⟨rfl, rfl, rfl, rfl, am, Nm, by rw [hY3], by omega, hfN, hgN, fun _ => ⟨hY2.symm, fun j j0 j1 => by rw [hYT]; exact hrw j j0 j1⟩⟩
      · skip
        have ht0 : 0 ≤ t := by omega
        rw [if_neg (show ¬ (t < 0 ∨ 2 ≤ t) by omega)] at hit
        refine g_aldn hc dX13_readItems_19 rfl ?_
        refine g_getIe hc lk_X13_134 ca_703 11 rfl (y_M_q) dX13_readItems_20 ?_
        refine g_iconst hc dX13_readItems_23 ?_
        refine g_icmp_ne (tgt := 232) hc dX13_readItems_24 (by decide) (by first | assumption | with_reducible exact z_sg32 hXb | with_reducible exact z_sg32 hXb0 | with_reducible exact g_and32 | with_reducible exact g_or32 | exact ⟨by omega, by omega⟩) (by first | assumption | with_reducible exact z_sg32 hXb | with_reducible exact z_sg32 hXb0 | with_reducible exact g_and32 | with_reducible exact g_or32 | exact ⟨by omega, by omega⟩) (fun c2 => ?_) (fun c2 => ?_)
        · exfalso; omega
        · skip
          refine g_iload hc dX13_readItems_27 rfl ?_
          refine g_iload hc dX13_readItems_29 rfl ?_
          refine g_S2r hc (c_X13_has w) my_X13_has ms_X13_has lm_X13_224 rfl (by decide) (Nat.le_of_ble_eq_true rfl) hm dX13_readItems_31 ?_
          refine g_ifb_eq (tgt := 43) hc dX13_readItems_34 (by decide)  (fun c3 => ?_) (fun c3 => ?_)
          · skip
            rw [if_neg c3] at hit
            obtain ⟨z1, z2, z3, z4, z5⟩ := z_step (X := Xm) (n := n) (lo := g_st 3 t) (hi := g_st 4 t) hXn hXq ham.symm
            obtain ⟨y1, y2, y3⟩ := @z_num (Xm 2) n (am + 1) (g_st 3 t) (g_st 4 t)
            obtain ⟨w1, w2⟩ := z_pcs (L := 2) (e := e) (j := t) (by decide) he9 ⟨by omega, by omega⟩
            have w3 := w1.2 c3
            have hsg9 : ¬ m_sg Xm = -1 := fun z => by
              have : m_it 1 (m_sg Xm) = -1 := by rw [z]; rfl
              omega
            have hp0 : am < n := by
              have := m_sg_in hX hsg9
              unfold m_sk at this
              rw [g_ts_a, g_ts_n, hXn] at this
              omega
            have hpin2 := g_pos_in (B := Xm 2) (len := n) (a := am + 1) (by omega)
            obtain ⟨b1, b2⟩ := z_bdf t (by omega) (by omega)
            have htx8 := (g_txc (i := 8) (j := t) (by decide) ht0 (by omega)).2.2
            have htx9 := (g_txc (i := 7) (j := t) (by decide) ht0 (by omega)).2.2
            have hlo9 := g_st_b (i := 3) (j := t) (by decide) (by omega)
            have hhi9 := g_st_b (i := 4) (j := t) (by decide) (by omega)
            refine g_iload hc dX13_readItems_43 rfl ?_
            refine g_iconst hc dX13_readItems_45 ?_
            refine g_iload hc dX13_readItems_46 rfl ?_
            refine g_ishl hc dX13_readItems_48 ?_
            refine g_ior hc dX13_readItems_49 ?_
            refine g_istore_6 hc dX13_readItems_50 rfl ?_
            refine g_aldn hc dX13_readItems_52 rfl ?_
            refine g_dup hc dX13_readItems_53 rfl ?_
            refine g_getIe hc lk_X13_125 ca_703 10 rfl (y_M_a) dX13_readItems_54 ?_
            refine g_iconst hc dX13_readItems_57 ?_
            refine g_iadd hc dX13_readItems_58 ?_
            refine g_putIe (I2 := (y_M Nm (am + 1) (-1) d)) hc lk_X13_125 ca_703 10 rfl y_M_pa dX13_readItems_59 ?_
            refine g_aldn hc dX13_readItems_62 rfl ?_
            refine g_V0r hc (z_look w hR he hBm (by omega) (by omega)) my_X13_look mv_X13_look ca_703 rfl rfl lm_X13_144 rfl (by decide) (Nat.le_of_ble_eq_true rfl) hm dX13_readItems_63 ?_
            refine g_istore_8 hc dX13_readItems_66 rfl ?_
            refine g_aldn hc dX13_readItems_68 rfl ?_
            refine g_V0r hc (z_isDigit w hR he hBm (by omega) (by omega)) my_X13_isDigit mv_X13_isDigit ca_703 rfl rfl lm_X13_174 rfl (by decide) (Nat.le_of_ble_eq_true rfl) hm dX13_readItems_69 ?_
            refine g_ifb_ne (tgt := 81) hc dX13_readItems_72 (by decide)  (fun c4 => ?_) (fun c4 => ?_)
            · skip
              have hd1 : z_dg (Xm 2) n (g_pos (Xm 2) n (am + 1)) := c4
              have hth : g_sgn (Xm 2) n (am + 1) = Xm 2 (g_pos (Xm 2) n (am + 1)) := if_pos hd1.1
              refine g_iload hc dX13_readItems_81 rfl ?_
              refine g_bipush hc dX13_readItems_83 (by decide +kernel) ?_
              refine g_isub hc dX13_readItems_85 ?_
              rw [show (g_sgn (Xm 2) n (am + 1)) - 48 = Xm 2 (g_pos (Xm 2) n (am + 1)) - 48 from by rw [hth]]
              refine g_istore_9 hc dX13_readItems_86 rfl ?_
              refine g_aldn hc dX13_readItems_88 rfl ?_
              refine g_dup hc dX13_readItems_89 rfl ?_
              refine g_getIe hc lk_X13_125 ca_703 10 rfl (y_M_a) dX13_readItems_90 ?_
              refine g_iconst hc dX13_readItems_93 ?_
              refine g_iadd hc dX13_readItems_94 ?_
              refine g_putIe (I2 := (y_M Nm ((g_pos (Xm 2) n (am + 1)) + 1) (-1) d)) hc lk_X13_125 ca_703 10 rfl y_M_pa dX13_readItems_95 ?_
              refine g_aldn hc dX13_readItems_98 rfl ?_
              refine g_V0r hc (z_isDigit w hR he hBm (by omega) (by omega)) my_X13_isDigit mv_X13_isDigit ca_703 rfl rfl lm_X13_174 rfl (by decide) (Nat.le_of_ble_eq_true rfl) hm dX13_readItems_99 ?_
              refine g_ifb_eq (tgt := 130) hc dX13_readItems_102 (by decide)  (fun c5 => ?_) (fun c5 => ?_)
              · skip
                have hd2 : ¬ z_dg (Xm 2) n ((g_pos (Xm 2) n (am + 1)) + 1) := c5
                have hnum := y2 hd1 hd2
                refine g_aldn hc dX13_readItems_130 rfl ?_
                refine g_V0r hc (z_isDigit w hR he hBm (by omega) (by omega)) my_X13_isDigit mv_X13_isDigit ca_703 rfl rfl lm_X13_174 rfl (by decide) (Nat.le_of_ble_eq_true rfl) hm dX13_readItems_131 ?_
                refine g_ifb_eq (tgt := 143) hc dX13_readItems_134 (by decide)  (fun c6 => ?_) (fun c6 => ?_)
                · skip
                  have hd3 := c6
                  refine g_aload hc dX13_readItems_143 rfl ?_
                  refine g_iload hc dX13_readItems_145 rfl ?_
                  refine g_T1r (i := 8) (by decide) hc (c_J0_charAt_5068e w (by decide) (by omega)) my_J0_charAt_5068e mv_J0_charAt_5068e rfl lm_X13_111 rfl (by decide) (Nat.le_of_ble_eq_true rfl) hm dX13_readItems_147 ?_
                  refine g_bipush hc dX13_readItems_150 (by decide +kernel) ?_
                  refine g_icmp_ne (tgt := 160) hc dX13_readItems_152 (by decide) (by first | assumption | with_reducible exact z_sg32 hXb | with_reducible exact z_sg32 hXb0 | with_reducible exact g_and32 | with_reducible exact g_or32 | exact ⟨by omega, by omega⟩) (by first | assumption | with_reducible exact z_sg32 hXb | with_reducible exact z_sg32 hXb0 | with_reducible exact g_and32 | with_reducible exact g_or32 | exact ⟨by omega, by omega⟩) (fun c7 => ?_) (fun c7 => ?_)
                  · skip
                    have hbd : g_tx 8 t - 48 = g_st 4 t := by rw [if_neg c7] at b2; exact b2
                    refine g_aload hc dX13_readItems_160 rfl ?_
                    refine g_iload hc dX13_readItems_162 rfl ?_
                    refine g_T1r (i := 8) (by decide) hc (c_J0_charAt_5068e w (by decide) (by omega)) my_J0_charAt_5068e mv_J0_charAt_5068e rfl lm_X13_111 rfl (by decide) (Nat.le_of_ble_eq_true rfl) hm dX13_readItems_164 ?_
                    refine g_bipush hc dX13_readItems_167 (by decide +kernel) ?_
                    refine g_isub hc dX13_readItems_169 ?_
                    rw [show (g_tx 8 t) - 48 = g_st 4 t from hbd]
                    refine g_istore_10 hc dX13_readItems_170 rfl ?_
                    refine g_iload hc dX13_readItems_172 rfl ?_
                    refine g_i2l hc dX13_readItems_174 (by first | assumption | with_reducible exact z_sg32 hXb | with_reducible exact z_sg32 hXb0 | with_reducible exact g_and32 | with_reducible exact g_or32 | exact ⟨by omega, by omega⟩) ?_
                    refine g_aload hc dX13_readItems_175 rfl ?_
                    refine g_iload hc dX13_readItems_177 rfl ?_
                    refine g_T1r (i := 7) (by decide) hc (c_J0_charAt_5068e w (by decide) (by omega)) my_J0_charAt_5068e mv_J0_charAt_5068e rfl lm_X13_111 rfl (by decide) (Nat.le_of_ble_eq_true rfl) hm dX13_readItems_179 ?_
                    refine g_bipush hc dX13_readItems_182 (by decide +kernel) ?_
                    refine g_isub hc dX13_readItems_184 ?_
                    rw [show (g_tx 7 t) - 48 = g_st 3 t from b1]
                    refine g_i2l hc dX13_readItems_185 (by first | assumption | with_reducible exact z_sg32 hXb | with_reducible exact z_sg32 hXb0 | with_reducible exact g_and32 | with_reducible exact g_or32 | exact ⟨by omega, by omega⟩) ?_
                    refine g_iload hc dX13_readItems_186 rfl ?_
                    refine g_i2l hc dX13_readItems_188 (by first | assumption | with_reducible exact z_sg32 hXb | with_reducible exact z_sg32 hXb0 | with_reducible exact g_and32 | with_reducible exact g_or32 | exact ⟨by omega, by omega⟩) ?_
                    refine g_S3r hc (c_X13_isIn w (by first | assumption | with_reducible exact z_sg32 hXb | with_reducible exact z_sg32 hXb0 | with_reducible exact g_and32 | with_reducible exact g_or32 | exact ⟨by omega, by omega⟩) (by first | assumption | with_reducible exact z_sg32 hXb | with_reducible exact z_sg32 hXb0 | with_reducible exact g_and32 | with_reducible exact g_or32 | exact ⟨by omega, by omega⟩) (by first | assumption | with_reducible exact z_sg32 hXb | with_reducible exact z_sg32 hXb0 | with_reducible exact g_and32 | with_reducible exact g_or32 | exact ⟨by omega, by omega⟩)) my_X13_isIn ms_X13_isIn lm_X13_231 rfl (by decide) (Nat.le_of_ble_eq_true rfl) hm dX13_readItems_189 ?_
                    refine g_ifb_ne (tgt := 211) hc dX13_readItems_192 (by decide)  (fun c8 => ?_) (fun c8 => ?_)
                    · skip
                      have hin := c8
                      refine g_aldn hc dX13_readItems_211 rfl ?_
                      refine g_iload_n hc dX13_readItems_212 rfl ?_
                      refine g_iload hc dX13_readItems_213 rfl ?_
                      refine g_iadd hc dX13_readItems_215 ?_
                      refine g_iload hc dX13_readItems_216 rfl ?_
                      obtain ⟨N3, hN3⟩ : ∃ N3, N3 = g_up Nm 709 (row + t) (Xm 2 (g_pos (Xm 2) n (am + 1)) - 48) := ⟨_, rfl⟩
                      refine g_iaste (I2 := (y_M N3 ((g_pos (Xm 2) n (am + 1)) + 1) (-1) d)) hc ca_709 (by decide) (by omega) (by omega) ((y_M_p (by omega)).trans (by rw [hN3])) dX13_readItems_218 ?_
                      have he : y_env N3 704 240 0 n Lf := y_env_cg he (fun j => by rw [hN3]; exact g_up_k (by decide)) (by rw [hN3]; funext j; exact g_up_k (by decide)) (by rw [hN3]; funext j; exact g_up_k (by decide)) (by rw [hN3]; exact x_up32 hgN ⟨by omega, by omega⟩)
                      have hBm : q_by N3 704 0 = Xm 2 := (z_by_cg (by rw [hN3]; funext j; exact g_up_k (by decide))).trans hBm
                      have hfv : (g_numr (Xm 2) n (am + 1) (-1) 2 (g_st 3 t) (g_st 4 t)) = ((Xm 2 (g_pos (Xm 2) n (am + 1)) - 48), ((g_pos (Xm 2) n (am + 1)) + 1), -1) := by rw [hnum, z_fn, if_neg hd3, if_neg (by omega)]
                      obtain ⟨XN, hXN⟩ : ∃ XN, XN = (g_up (m_nm (g_st 3 t) (g_st 4 t) (m_adv (m_sk Xm))) 542 t (m_nv (g_st 3 t) (g_st 4 t) (m_adv (m_sk Xm)))) := ⟨_, rfl⟩
                      rw [← hXN] at hit
                      obtain ⟨hn1, hn2, hn3, hn4, hn5, hn6, hn7⟩ := z_xn (T := 542) hb hX hXn hXq ham.symm hsg9 (by decide) ⟨hlo9.2.2 (by decide), hlo9.2.1⟩ hfv hXN
                      have hr4 : ∀ j : Int, 0 ≤ j → j < 2 → N3 709 (row + j) = XN 542 j := fun j j0 j1 => by
                        rw [hN3]
                        by_cases e9 : j = t
                        · rw [e9, g_up_s, hn7]
                        · rw [g_up_i (by omega), hn6 j e9]; exact hrw j j0 j1
                      have hf4 : ∀ (k : Nat) (j : Int), ¬ (k = 709 ∧ row ≤ j ∧ j < row + 2) → N3 k j = N k j := fun k j hk => by rw [hN3]; exact (g_up_n (by omega)).trans (hfN k j hk)
                      have hg4 : ∀ k j, g32 (N3 k j) := he.2.2.2.2.1
                      refine g_aload_n hc dX13_readItems_219 rfl ?_
                      refine g_aldn hc dX13_readItems_220 rfl ?_
                      refine g_V0r hc (z_look w hR he hBm (by omega) (by omega)) my_X13_look mv_X13_look ca_703 rfl rfl lm_X13_144 rfl (by decide) (Nat.le_of_ble_eq_true rfl) hm dX13_readItems_221 ?_
                      refine g_S2r hc (c_X13_placeOf w (i := 1) (c := (g_sgn (Xm 2) n ((g_pos (Xm 2) n (am + 1)) + 1))) (by decide) (by first | assumption | with_reducible exact z_sg32 hXb | with_reducible exact z_sg32 hXb0 | with_reducible exact g_and32 | with_reducible exact g_or32 | exact ⟨by omega, by omega⟩)) my_X13_placeOf ms_X13_placeOf lm_X13_220 rfl (by decide) (Nat.le_of_ble_eq_true rfl) hm dX13_readItems_224 ?_
                      refine g_istore_7 hc dX13_readItems_227 rfl ?_
                      refine g_goto (tgt := 13) hc dX13_readItems_229 (by decide) ?_
                      refine G_sub (L' := [some (gvr w 703), some (gvr w 709), some (gvI row), some (.ref (w.2.2.2.2 101)), some (.ref (w.2.2.2.2 107)), some (.ref (w.2.2.2.2 108)), some (gvI (g_or e (g_shl 1 t))), some (gvI (g_inx 1 (g_sgn (Xm 2) n ((g_pos (Xm 2) n (am + 1)) + 1)))), none, none, none]) (show g_le _ _ from ⟨rfl, ⟨rfl, ⟨rfl, ⟨rfl, ⟨rfl, ⟨rfl, ⟨rfl, ⟨rfl, trivial⟩⟩⟩⟩⟩⟩⟩⟩) ?_
                      refine ih_13 k2 _ _ _ XN _ ?_ ?_ ?_ ?_ ?_ ?_ ?_ ?_ ?_ ?_ ?_
                      · exact hit
                      · omega
                      · exact w2
                      · exact hn5
                      · exact ⟨hn1, hn2.trans hXB, hn3⟩
                      · rw [hn2, hn4]
                      · rw [z_inx (by decide) (z_sgm hXb).1, z_sg_eq, hn2, hn1, hn4]
                      · exact hf4
                      · exact hg4
                      · exact hr4
                      · omega
                    · skip
                      have hin := c8
                      refine g_aldn hc dX13_readItems_195 rfl ?_
                      refine g_dup hc dX13_readItems_196 rfl ?_
                      refine g_getIe hc lk_X13_125 ca_703 10 rfl (y_M_a) dX13_readItems_197 ?_
                      refine g_iconst hc dX13_readItems_200 ?_
                      refine g_isub hc dX13_readItems_201 ?_
                      refine g_putIe (I2 := (y_M Nm (((g_pos (Xm 2) n (am + 1)) + 1) - 1) (-1) d)) hc lk_X13_125 ca_703 10 rfl y_M_pa dX13_readItems_202 ?_
                      refine g_aldn hc dX13_readItems_205 rfl ?_
                      refine g_V0r hc (d_fails w hR he (by omega) (by omega)) my_X13_fails mv_X13_fails ca_703 rfl rfl lm_X13_140 rfl (by decide) (Nat.le_of_ble_eq_true rfl) hm dX13_readItems_206 ?_
                      refine g_pop hc dX13_readItems_209 rfl ?_
                      refine g_vret hc hm dX13_readItems_210 ?_
                      have hq8 : (g_numr (Xm 2) n (am + 1) (-1) 2 (g_st 3 t) (g_st 4 t)).2.2 = (((g_pos (Xm 2) n (am + 1)) + 1) - 1) := by
                        rw [hnum, z_fn, if_neg hd3, if_pos (by omega)]
                      have hq7 : (g_up (m_nm (g_st 3 t) (g_st 4 t) (m_adv (m_sk Xm))) 542 t (m_nv (g_st 3 t) (g_st 4 t) (m_adv (m_sk Xm)))) 1 3 = (((g_pos (Xm 2) n (am + 1)) + 1) - 1) := by rw [g_up_k (by decide), z5]; exact hq8
                      have hq9 : (m_items 542 2 1 3 4 5 X) 1 3 = (((g_pos (Xm 2) n (am + 1)) + 1) - 1) := by rw [hit, z_itn_q (by decide) _ _ _ (by rw [hq7]; omega)]; exact hq7
                      exact ⟨rfl, rfl, rfl, rfl, (((g_pos (Xm 2) n (am + 1)) + 1) - 1), Nm, by rw [hq9, g_q1, if_pos rfl], by omega, hfN, hgN, fun z => by rw [hq9] at z; omega⟩
                  · skip
                    have hbd : (99 : Int) = g_st 4 t := by rw [if_pos c7] at b2; exact b2
                    refine g_bipush hc dX13_readItems_155 (by decide +kernel) ?_
                    refine g_goto (tgt := 170) hc dX13_readItems_157 (by decide) ?_
                    rw [show 99 = g_st 4 t from hbd]
                    refine g_istore_10 hc dX13_readItems_170 rfl ?_
                    refine g_iload hc dX13_readItems_172 rfl ?_
                    refine g_i2l hc dX13_readItems_174 (by first | assumption | with_reducible exact z_sg32 hXb | with_reducible exact z_sg32 hXb0 | with_reducible exact g_and32 | with_reducible exact g_or32 | exact ⟨by omega, by omega⟩) ?_
                    refine g_aload hc dX13_readItems_175 rfl ?_
                    refine g_iload hc dX13_readItems_177 rfl ?_
                    refine g_T1r (i := 7) (by decide) hc (c_J0_charAt_5068e w (by decide) (by omega)) my_J0_charAt_5068e mv_J0_charAt_5068e rfl lm_X13_111 rfl (by decide) (Nat.le_of_ble_eq_true rfl) hm dX13_readItems_179 ?_
                    refine g_bipush hc dX13_readItems_182 (by decide +kernel) ?_
                    refine g_isub hc dX13_readItems_184 ?_
                    rw [show (g_tx 7 t) - 48 = g_st 3 t from b1]
                    refine g_i2l hc dX13_readItems_185 (by first | assumption | with_reducible exact z_sg32 hXb | with_reducible exact z_sg32 hXb0 | with_reducible exact g_and32 | with_reducible exact g_or32 | exact ⟨by omega, by omega⟩) ?_
                    refine g_iload hc dX13_readItems_186 rfl ?_
                    refine g_i2l hc dX13_readItems_188 (by first | assumption | with_reducible exact z_sg32 hXb | with_reducible exact z_sg32 hXb0 | with_reducible exact g_and32 | with_reducible exact g_or32 | exact ⟨by omega, by omega⟩) ?_
                    refine g_S3r hc (c_X13_isIn w (by first | assumption | with_reducible exact z_sg32 hXb | with_reducible exact z_sg32 hXb0 | with_reducible exact g_and32 | with_reducible exact g_or32 | exact ⟨by omega, by omega⟩) (by first | assumption | with_reducible exact z_sg32 hXb | with_reducible exact z_sg32 hXb0 | with_reducible exact g_and32 | with_reducible exact g_or32 | exact ⟨by omega, by omega⟩) (by first | assumption | with_reducible exact z_sg32 hXb | with_reducible exact z_sg32 hXb0 | with_reducible exact g_and32 | with_reducible exact g_or32 | exact ⟨by omega, by omega⟩)) my_X13_isIn ms_X13_isIn lm_X13_231 rfl (by decide) (Nat.le_of_ble_eq_true rfl) hm dX13_readItems_189 ?_
                    refine g_ifb_ne (tgt := 211) hc dX13_readItems_192 (by decide)  (fun c9 => ?_) (fun c9 => ?_)
                    · skip
                      have hin := c9
                      refine g_aldn hc dX13_readItems_211 rfl ?_
                      refine g_iload_n hc dX13_readItems_212 rfl ?_
                      refine g_iload hc dX13_readItems_213 rfl ?_
                      refine g_iadd hc dX13_readItems_215 ?_
                      refine g_iload hc dX13_readItems_216 rfl ?_
                      obtain ⟨N4, hN4⟩ : ∃ N4, N4 = g_up Nm 709 (row + t) (Xm 2 (g_pos (Xm 2) n (am + 1)) - 48) := ⟨_, rfl⟩
                      refine g_iaste (I2 := (y_M N4 ((g_pos (Xm 2) n (am + 1)) + 1) (-1) d)) hc ca_709 (by decide) (by omega) (by omega) ((y_M_p (by omega)).trans (by rw [hN4])) dX13_readItems_218 ?_
                      have he : y_env N4 704 240 0 n Lf := y_env_cg he (fun j => by rw [hN4]; exact g_up_k (by decide)) (by rw [hN4]; funext j; exact g_up_k (by decide)) (by rw [hN4]; funext j; exact g_up_k (by decide)) (by rw [hN4]; exact x_up32 hgN ⟨by omega, by omega⟩)
                      have hBm : q_by N4 704 0 = Xm 2 := (z_by_cg (by rw [hN4]; funext j; exact g_up_k (by decide))).trans hBm
                      have hfv : (g_numr (Xm 2) n (am + 1) (-1) 2 (g_st 3 t) (g_st 4 t)) = ((Xm 2 (g_pos (Xm 2) n (am + 1)) - 48), ((g_pos (Xm 2) n (am + 1)) + 1), -1) := by rw [hnum, z_fn, if_neg hd3, if_neg (by omega)]
                      obtain ⟨XN, hXN⟩ : ∃ XN, XN = (g_up (m_nm (g_st 3 t) (g_st 4 t) (m_adv (m_sk Xm))) 542 t (m_nv (g_st 3 t) (g_st 4 t) (m_adv (m_sk Xm)))) := ⟨_, rfl⟩
                      rw [← hXN] at hit
                      obtain ⟨hn1, hn2, hn3, hn4, hn5, hn6, hn7⟩ := z_xn (T := 542) hb hX hXn hXq ham.symm hsg9 (by decide) ⟨hlo9.2.2 (by decide), hlo9.2.1⟩ hfv hXN
                      have hr4 : ∀ j : Int, 0 ≤ j → j < 2 → N4 709 (row + j) = XN 542 j := fun j j0 j1 => by
                        rw [hN4]
                        by_cases e9 : j = t
                        · rw [e9, g_up_s, hn7]
                        · rw [g_up_i (by omega), hn6 j e9]; exact hrw j j0 j1
                      have hf4 : ∀ (k : Nat) (j : Int), ¬ (k = 709 ∧ row ≤ j ∧ j < row + 2) → N4 k j = N k j := fun k j hk => by rw [hN4]; exact (g_up_n (by omega)).trans (hfN k j hk)
                      have hg4 : ∀ k j, g32 (N4 k j) := he.2.2.2.2.1
                      refine g_aload_n hc dX13_readItems_219 rfl ?_
                      refine g_aldn hc dX13_readItems_220 rfl ?_
                      refine g_V0r hc (z_look w hR he hBm (by omega) (by omega)) my_X13_look mv_X13_look ca_703 rfl rfl lm_X13_144 rfl (by decide) (Nat.le_of_ble_eq_true rfl) hm dX13_readItems_221 ?_
                      refine g_S2r hc (c_X13_placeOf w (i := 1) (c := (g_sgn (Xm 2) n ((g_pos (Xm 2) n (am + 1)) + 1))) (by decide) (by first | assumption | with_reducible exact z_sg32 hXb | with_reducible exact z_sg32 hXb0 | with_reducible exact g_and32 | with_reducible exact g_or32 | exact ⟨by omega, by omega⟩)) my_X13_placeOf ms_X13_placeOf lm_X13_220 rfl (by decide) (Nat.le_of_ble_eq_true rfl) hm dX13_readItems_224 ?_
                      refine g_istore_7 hc dX13_readItems_227 rfl ?_
                      refine g_goto (tgt := 13) hc dX13_readItems_229 (by decide) ?_
                      refine G_sub (L' := [some (gvr w 703), some (gvr w 709), some (gvI row), some (.ref (w.2.2.2.2 101)), some (.ref (w.2.2.2.2 107)), some (.ref (w.2.2.2.2 108)), some (gvI (g_or e (g_shl 1 t))), some (gvI (g_inx 1 (g_sgn (Xm 2) n ((g_pos (Xm 2) n (am + 1)) + 1)))), none, none, none]) (show g_le _ _ from ⟨rfl, ⟨rfl, ⟨rfl, ⟨rfl, ⟨rfl, ⟨rfl, ⟨rfl, ⟨rfl, trivial⟩⟩⟩⟩⟩⟩⟩⟩) ?_
                      refine ih_13 k2 _ _ _ XN _ ?_ ?_ ?_ ?_ ?_ ?_ ?_ ?_ ?_ ?_ ?_
                      · exact hit
                      · omega
                      · exact w2
                      · exact hn5
                      · exact ⟨hn1, hn2.trans hXB, hn3⟩
                      · rw [hn2, hn4]
                      · rw [z_inx (by decide) (z_sgm hXb).1, z_sg_eq, hn2, hn1, hn4]
                      · exact hf4
                      · exact hg4
                      · exact hr4
                      · omega
                    · skip
                      have hin := c9
                      refine g_aldn hc dX13_readItems_195 rfl ?_
                      refine g_dup hc dX13_readItems_196 rfl ?_
                      refine g_getIe hc lk_X13_125 ca_703 10 rfl (y_M_a) dX13_readItems_197 ?_
                      refine g_iconst hc dX13_readItems_200 ?_
                      refine g_isub hc dX13_readItems_201 ?_
                      refine g_putIe (I2 := (y_M Nm (((g_pos (Xm 2) n (am + 1)) + 1) - 1) (-1) d)) hc lk_X13_125 ca_703 10 rfl y_M_pa dX13_readItems_202 ?_
                      refine g_aldn hc dX13_readItems_205 rfl ?_
                      refine g_V0r hc (d_fails w hR he (by omega) (by omega)) my_X13_fails mv_X13_fails ca_703 rfl rfl lm_X13_140 rfl (by decide) (Nat.le_of_ble_eq_true rfl) hm dX13_readItems_206 ?_
                      refine g_pop hc dX13_readItems_209 rfl ?_
                      refine g_vret hc hm dX13_readItems_210 ?_
                      have hq8 : (g_numr (Xm 2) n (am + 1) (-1) 2 (g_st 3 t) (g_st 4 t)).2.2 = (((g_pos (Xm 2) n (am + 1)) + 1) - 1) := by
                        rw [hnum, z_fn, if_neg hd3, if_pos (by omega)]
                      have hq7 : (g_up (m_nm (g_st 3 t) (g_st 4 t) (m_adv (m_sk Xm))) 542 t (m_nv (g_st 3 t) (g_st 4 t) (m_adv (m_sk Xm)))) 1 3 = (((g_pos (Xm 2) n (am + 1)) + 1) - 1) := by rw [g_up_k (by decide), z5]; exact hq8
                      have hq9 : (m_items 542 2 1 3 4 5 X) 1 3 = (((g_pos (Xm 2) n (am + 1)) + 1) - 1) := by rw [hit, z_itn_q (by decide) _ _ _ (by rw [hq7]; omega)]; exact hq7
                      exact ⟨rfl, rfl, rfl, rfl, (((g_pos (Xm 2) n (am + 1)) + 1) - 1), Nm, by rw [hq9, g_q1, if_pos rfl], by omega, hfN, hgN, fun z => by rw [hq9] at z; omega⟩
                · skip
                  have hd3 := c6
                  refine g_aldn hc dX13_readItems_137 rfl ?_
                  refine g_V0r hc (d_fails w hR he (by omega) (by omega)) my_X13_fails mv_X13_fails ca_703 rfl rfl lm_X13_140 rfl (by decide) (Nat.le_of_ble_eq_true rfl) hm dX13_readItems_138 ?_
                  refine g_pop hc dX13_readItems_141 rfl ?_
                  refine g_vret hc hm dX13_readItems_142 ?_
                  have hq8 : (g_numr (Xm 2) n (am + 1) (-1) 2 (g_st 3 t) (g_st 4 t)).2.2 = ((g_pos (Xm 2) n (am + 1)) + 1) := by
                    rw [hnum, z_fn, if_pos hd3]
                  have hq7 : (g_up (m_nm (g_st 3 t) (g_st 4 t) (m_adv (m_sk Xm))) 542 t (m_nv (g_st 3 t) (g_st 4 t) (m_adv (m_sk Xm)))) 1 3 = ((g_pos (Xm 2) n (am + 1)) + 1) := by rw [g_up_k (by decide), z5]; exact hq8
                  have hq9 : (m_items 542 2 1 3 4 5 X) 1 3 = ((g_pos (Xm 2) n (am + 1)) + 1) := by rw [hit, z_itn_q (by decide) _ _ _ (by rw [hq7]; omega)]; exact hq7
                  exact ⟨rfl, rfl, rfl, rfl, ((g_pos (Xm 2) n (am + 1)) + 1), Nm, by rw [hq9, g_q1, if_pos rfl], by omega, hfN, hgN, fun z => by rw [hq9] at z; omega⟩
              · skip
                have hd2 : z_dg (Xm 2) n ((g_pos (Xm 2) n (am + 1)) + 1) := c5
                have hnum := y3 hd1 hd2
                have hd2n := hd2.1
                refine g_bipush hc dX13_readItems_105 (by decide +kernel) ?_
                refine g_iload hc dX13_readItems_107 rfl ?_
                refine g_imul hc dX13_readItems_109 ?_
                refine g_aldn hc dX13_readItems_110 rfl ?_
                refine g_V0r hc (z_here w hR he hBm (by omega) (by omega)) my_X13_here mv_X13_here ca_703 rfl rfl lm_X13_228 rfl (by decide) (Nat.le_of_ble_eq_true rfl) hm dX13_readItems_111 ?_
                refine g_iadd hc dX13_readItems_114 ?_
                refine g_bipush hc dX13_readItems_115 (by decide +kernel) ?_
                refine g_isub hc dX13_readItems_117 ?_
                rw [show ((10 * (Xm 2 (g_pos (Xm 2) n (am + 1)) - 48)) + (if ((g_pos (Xm 2) n (am + 1)) + 1) < n then (Xm 2) ((g_pos (Xm 2) n (am + 1)) + 1) else -1)) - 48 = 10 * (Xm 2 (g_pos (Xm 2) n (am + 1)) - 48) + Xm 2 ((g_pos (Xm 2) n (am + 1)) + 1) - 48 from by rw [if_pos hd2n]]
                refine g_istore_9 hc dX13_readItems_118 rfl ?_
                refine g_aldn hc dX13_readItems_120 rfl ?_
                refine g_dup hc dX13_readItems_121 rfl ?_
                refine g_getIe hc lk_X13_125 ca_703 10 rfl (y_M_a) dX13_readItems_122 ?_
                refine g_iconst hc dX13_readItems_125 ?_
                refine g_iadd hc dX13_readItems_126 ?_
                refine g_putIe (I2 := (y_M Nm (((g_pos (Xm 2) n (am + 1)) + 1) + 1) (-1) d)) hc lk_X13_125 ca_703 10 rfl y_M_pa dX13_readItems_127 ?_
                refine g_aldn hc dX13_readItems_130 rfl ?_
                refine g_V0r hc (z_isDigit w hR he hBm (by omega) (by omega)) my_X13_isDigit mv_X13_isDigit ca_703 rfl rfl lm_X13_174 rfl (by decide) (Nat.le_of_ble_eq_true rfl) hm dX13_readItems_131 ?_
                refine g_ifb_eq (tgt := 143) hc dX13_readItems_134 (by decide)  (fun c10 => ?_) (fun c10 => ?_)
                · skip
                  have hd3 := c10
                  refine g_aload hc dX13_readItems_143 rfl ?_
                  refine g_iload hc dX13_readItems_145 rfl ?_
                  refine g_T1r (i := 8) (by decide) hc (c_J0_charAt_5068e w (by decide) (by omega)) my_J0_charAt_5068e mv_J0_charAt_5068e rfl lm_X13_111 rfl (by decide) (Nat.le_of_ble_eq_true rfl) hm dX13_readItems_147 ?_
                  refine g_bipush hc dX13_readItems_150 (by decide +kernel) ?_
                  refine g_icmp_ne (tgt := 160) hc dX13_readItems_152 (by decide) (by first | assumption | with_reducible exact z_sg32 hXb | with_reducible exact z_sg32 hXb0 | with_reducible exact g_and32 | with_reducible exact g_or32 | exact ⟨by omega, by omega⟩) (by first | assumption | with_reducible exact z_sg32 hXb | with_reducible exact z_sg32 hXb0 | with_reducible exact g_and32 | with_reducible exact g_or32 | exact ⟨by omega, by omega⟩) (fun c11 => ?_) (fun c11 => ?_)
                  · skip
                    have hbd : g_tx 8 t - 48 = g_st 4 t := by rw [if_neg c11] at b2; exact b2
                    refine g_aload hc dX13_readItems_160 rfl ?_
                    refine g_iload hc dX13_readItems_162 rfl ?_
                    refine g_T1r (i := 8) (by decide) hc (c_J0_charAt_5068e w (by decide) (by omega)) my_J0_charAt_5068e mv_J0_charAt_5068e rfl lm_X13_111 rfl (by decide) (Nat.le_of_ble_eq_true rfl) hm dX13_readItems_164 ?_
                    refine g_bipush hc dX13_readItems_167 (by decide +kernel) ?_
                    refine g_isub hc dX13_readItems_169 ?_
                    rw [show (g_tx 8 t) - 48 = g_st 4 t from hbd]
                    refine g_istore_10 hc dX13_readItems_170 rfl ?_
                    refine g_iload hc dX13_readItems_172 rfl ?_
                    refine g_i2l hc dX13_readItems_174 (by first | assumption | with_reducible exact z_sg32 hXb | with_reducible exact z_sg32 hXb0 | with_reducible exact g_and32 | with_reducible exact g_or32 | exact ⟨by omega, by omega⟩) ?_
                    refine g_aload hc dX13_readItems_175 rfl ?_
                    refine g_iload hc dX13_readItems_177 rfl ?_
                    refine g_T1r (i := 7) (by decide) hc (c_J0_charAt_5068e w (by decide) (by omega)) my_J0_charAt_5068e mv_J0_charAt_5068e rfl lm_X13_111 rfl (by decide) (Nat.le_of_ble_eq_true rfl) hm dX13_readItems_179 ?_
                    refine g_bipush hc dX13_readItems_182 (by decide +kernel) ?_
                    refine g_isub hc dX13_readItems_184 ?_
                    rw [show (g_tx 7 t) - 48 = g_st 3 t from b1]
                    refine g_i2l hc dX13_readItems_185 (by first | assumption | with_reducible exact z_sg32 hXb | with_reducible exact z_sg32 hXb0 | with_reducible exact g_and32 | with_reducible exact g_or32 | exact ⟨by omega, by omega⟩) ?_
                    refine g_iload hc dX13_readItems_186 rfl ?_
                    refine g_i2l hc dX13_readItems_188 (by first | assumption | with_reducible exact z_sg32 hXb | with_reducible exact z_sg32 hXb0 | with_reducible exact g_and32 | with_reducible exact g_or32 | exact ⟨by omega, by omega⟩) ?_
                    refine g_S3r hc (c_X13_isIn w (by first | assumption | with_reducible exact z_sg32 hXb | with_reducible exact z_sg32 hXb0 | with_reducible exact g_and32 | with_reducible exact g_or32 | exact ⟨by omega, by omega⟩) (by first | assumption | with_reducible exact z_sg32 hXb | with_reducible exact z_sg32 hXb0 | with_reducible exact g_and32 | with_reducible exact g_or32 | exact ⟨by omega, by omega⟩) (by first | assumption | with_reducible exact z_sg32 hXb | with_reducible exact z_sg32 hXb0 | with_reducible exact g_and32 | with_reducible exact g_or32 | exact ⟨by omega, by omega⟩)) my_X13_isIn ms_X13_isIn lm_X13_231 rfl (by decide) (Nat.le_of_ble_eq_true rfl) hm dX13_readItems_189 ?_
                    refine g_ifb_ne (tgt := 211) hc dX13_readItems_192 (by decide)  (fun c12 => ?_) (fun c12 => ?_)
                    · skip
                      have hin := c12
                      refine g_aldn hc dX13_readItems_211 rfl ?_
                      refine g_iload_n hc dX13_readItems_212 rfl ?_
                      refine g_iload hc dX13_readItems_213 rfl ?_
                      refine g_iadd hc dX13_readItems_215 ?_
                      refine g_iload hc dX13_readItems_216 rfl ?_
                      obtain ⟨N5, hN5⟩ : ∃ N5, N5 = g_up Nm 709 (row + t) (10 * (Xm 2 (g_pos (Xm 2) n (am + 1)) - 48) + Xm 2 ((g_pos (Xm 2) n (am + 1)) + 1) - 48) := ⟨_, rfl⟩
                      refine g_iaste (I2 := (y_M N5 (((g_pos (Xm 2) n (am + 1)) + 1) + 1) (-1) d)) hc ca_709 (by decide) (by omega) (by omega) ((y_M_p (by omega)).trans (by rw [hN5])) dX13_readItems_218 ?_
                      have he : y_env N5 704 240 0 n Lf := y_env_cg he (fun j => by rw [hN5]; exact g_up_k (by decide)) (by rw [hN5]; funext j; exact g_up_k (by decide)) (by rw [hN5]; funext j; exact g_up_k (by decide)) (by rw [hN5]; exact x_up32 hgN ⟨by omega, by omega⟩)
                      have hBm : q_by N5 704 0 = Xm 2 := (z_by_cg (by rw [hN5]; funext j; exact g_up_k (by decide))).trans hBm
                      have hfv : (g_numr (Xm 2) n (am + 1) (-1) 2 (g_st 3 t) (g_st 4 t)) = ((10 * (Xm 2 (g_pos (Xm 2) n (am + 1)) - 48) + Xm 2 ((g_pos (Xm 2) n (am + 1)) + 1) - 48), (((g_pos (Xm 2) n (am + 1)) + 1) + 1), -1) := by rw [hnum, z_fn, if_neg hd3, if_neg (by omega)]
                      obtain ⟨XN, hXN⟩ : ∃ XN, XN = (g_up (m_nm (g_st 3 t) (g_st 4 t) (m_adv (m_sk Xm))) 542 t (m_nv (g_st 3 t) (g_st 4 t) (m_adv (m_sk Xm)))) := ⟨_, rfl⟩
                      rw [← hXN] at hit
                      obtain ⟨hn1, hn2, hn3, hn4, hn5, hn6, hn7⟩ := z_xn (T := 542) hb hX hXn hXq ham.symm hsg9 (by decide) ⟨hlo9.2.2 (by decide), hlo9.2.1⟩ hfv hXN
                      have hr4 : ∀ j : Int, 0 ≤ j → j < 2 → N5 709 (row + j) = XN 542 j := fun j j0 j1 => by
                        rw [hN5]
                        by_cases e9 : j = t
                        · rw [e9, g_up_s, hn7]
                        · rw [g_up_i (by omega), hn6 j e9]; exact hrw j j0 j1
                      have hf4 : ∀ (k : Nat) (j : Int), ¬ (k = 709 ∧ row ≤ j ∧ j < row + 2) → N5 k j = N k j := fun k j hk => by rw [hN5]; exact (g_up_n (by omega)).trans (hfN k j hk)
                      have hg4 : ∀ k j, g32 (N5 k j) := he.2.2.2.2.1
                      refine g_aload_n hc dX13_readItems_219 rfl ?_
                      refine g_aldn hc dX13_readItems_220 rfl ?_
                      refine g_V0r hc (z_look w hR he hBm (by omega) (by omega)) my_X13_look mv_X13_look ca_703 rfl rfl lm_X13_144 rfl (by decide) (Nat.le_of_ble_eq_true rfl) hm dX13_readItems_221 ?_
                      refine g_S2r hc (c_X13_placeOf w (i := 1) (c := (g_sgn (Xm 2) n (((g_pos (Xm 2) n (am + 1)) + 1) + 1))) (by decide) (by first | assumption | with_reducible exact z_sg32 hXb | with_reducible exact z_sg32 hXb0 | with_reducible exact g_and32 | with_reducible exact g_or32 | exact ⟨by omega, by omega⟩)) my_X13_placeOf ms_X13_placeOf lm_X13_220 rfl (by decide) (Nat.le_of_ble_eq_true rfl) hm dX13_readItems_224 ?_
                      refine g_istore_7 hc dX13_readItems_227 rfl ?_
                      refine g_goto (tgt := 13) hc dX13_readItems_229 (by decide) ?_
                      refine G_sub (L' := [some (gvr w 703), some (gvr w 709), some (gvI row), some (.ref (w.2.2.2.2 101)), some (.ref (w.2.2.2.2 107)), some (.ref (w.2.2.2.2 108)), some (gvI (g_or e (g_shl 1 t))), some (gvI (g_inx 1 (g_sgn (Xm 2) n (((g_pos (Xm 2) n (am + 1)) + 1) + 1)))), none, none, none]) (show g_le _ _ from ⟨rfl, ⟨rfl, ⟨rfl, ⟨rfl, ⟨rfl, ⟨rfl, ⟨rfl, ⟨rfl, trivial⟩⟩⟩⟩⟩⟩⟩⟩) ?_
                      refine ih_13 k2 _ _ _ XN _ ?_ ?_ ?_ ?_ ?_ ?_ ?_ ?_ ?_ ?_ ?_
                      · exact hit
                      · omega
                      · exact w2
                      · exact hn5
                      · exact ⟨hn1, hn2.trans hXB, hn3⟩
                      · rw [hn2, hn4]
                      · rw [z_inx (by decide) (z_sgm hXb).1, z_sg_eq, hn2, hn1, hn4]
                      · exact hf4
                      · exact hg4
                      · exact hr4
                      · omega
                    · skip
                      have hin := c12
                      refine g_aldn hc dX13_readItems_195 rfl ?_
                      refine g_dup hc dX13_readItems_196 rfl ?_
                      refine g_getIe hc lk_X13_125 ca_703 10 rfl (y_M_a) dX13_readItems_197 ?_
                      refine g_iconst hc dX13_readItems_200 ?_
                      refine g_isub hc dX13_readItems_201 ?_
                      refine g_putIe (I2 := (y_M Nm ((((g_pos (Xm 2) n (am + 1)) + 1) + 1) - 1) (-1) d)) hc lk_X13_125 ca_703 10 rfl y_M_pa dX13_readItems_202 ?_
                      refine g_aldn hc dX13_readItems_205 rfl ?_
                      refine g_V0r hc (d_fails w hR he (by omega) (by omega)) my_X13_fails mv_X13_fails ca_703 rfl rfl lm_X13_140 rfl (by decide) (Nat.le_of_ble_eq_true rfl) hm dX13_readItems_206 ?_
                      refine g_pop hc dX13_readItems_209 rfl ?_
                      refine g_vret hc hm dX13_readItems_210 ?_
                      have hq8 : (g_numr (Xm 2) n (am + 1) (-1) 2 (g_st 3 t) (g_st 4 t)).2.2 = ((((g_pos (Xm 2) n (am + 1)) + 1) + 1) - 1) := by
                        rw [hnum, z_fn, if_neg hd3, if_pos (by omega)]
                      have hq7 : (g_up (m_nm (g_st 3 t) (g_st 4 t) (m_adv (m_sk Xm))) 542 t (m_nv (g_st 3 t) (g_st 4 t) (m_adv (m_sk Xm)))) 1 3 = ((((g_pos (Xm 2) n (am + 1)) + 1) + 1) - 1) := by rw [g_up_k (by decide), z5]; exact hq8
                      have hq9 : (m_items 542 2 1 3 4 5 X) 1 3 = ((((g_pos (Xm 2) n (am + 1)) + 1) + 1) - 1) := by rw [hit, z_itn_q (by decide) _ _ _ (by rw [hq7]; omega)]; exact hq7
                      exact ⟨rfl, rfl, rfl, rfl, ((((g_pos (Xm 2) n (am + 1)) + 1) + 1) - 1), Nm, by rw [hq9, g_q1, if_pos rfl], by omega, hfN, hgN, fun z => by rw [hq9] at z; omega⟩
                  · skip
                    have hbd : (99 : Int) = g_st 4 t := by rw [if_pos c11] at b2; exact b2
                    refine g_bipush hc dX13_readItems_155 (by decide +kernel) ?_
                    refine g_goto (tgt := 170) hc dX13_readItems_157 (by decide) ?_
                    rw [show 99 = g_st 4 t from hbd]
                    refine g_istore_10 hc dX13_readItems_170 rfl ?_
                    refine g_iload hc dX13_readItems_172 rfl ?_
                    refine g_i2l hc dX13_readItems_174 (by first | assumption | with_reducible exact z_sg32 hXb | with_reducible exact z_sg32 hXb0 | with_reducible exact g_and32 | with_reducible exact g_or32 | exact ⟨by omega, by omega⟩) ?_
                    refine g_aload hc dX13_readItems_175 rfl ?_
                    refine g_iload hc dX13_readItems_177 rfl ?_
                    refine g_T1r (i := 7) (by decide) hc (c_J0_charAt_5068e w (by decide) (by omega)) my_J0_charAt_5068e mv_J0_charAt_5068e rfl lm_X13_111 rfl (by decide) (Nat.le_of_ble_eq_true rfl) hm dX13_readItems_179 ?_
                    refine g_bipush hc dX13_readItems_182 (by decide +kernel) ?_
                    refine g_isub hc dX13_readItems_184 ?_
                    rw [show (g_tx 7 t) - 48 = g_st 3 t from b1]
                    refine g_i2l hc dX13_readItems_185 (by first | assumption | with_reducible exact z_sg32 hXb | with_reducible exact z_sg32 hXb0 | with_reducible exact g_and32 | with_reducible exact g_or32 | exact ⟨by omega, by omega⟩) ?_
                    refine g_iload hc dX13_readItems_186 rfl ?_
                    refine g_i2l hc dX13_readItems_188 (by first | assumption | with_reducible exact z_sg32 hXb | with_reducible exact z_sg32 hXb0 | with_reducible exact g_and32 | with_reducible exact g_or32 | exact ⟨by omega, by omega⟩) ?_
                    refine g_S3r hc (c_X13_isIn w (by first | assumption | with_reducible exact z_sg32 hXb | with_reducible exact z_sg32 hXb0 | with_reducible exact g_and32 | with_reducible exact g_or32 | exact ⟨by omega, by omega⟩) (by first | assumption | with_reducible exact z_sg32 hXb | with_reducible exact z_sg32 hXb0 | with_reducible exact g_and32 | with_reducible exact g_or32 | exact ⟨by omega, by omega⟩) (by first | assumption | with_reducible exact z_sg32 hXb | with_reducible exact z_sg32 hXb0 | with_reducible exact g_and32 | with_reducible exact g_or32 | exact ⟨by omega, by omega⟩)) my_X13_isIn ms_X13_isIn lm_X13_231 rfl (by decide) (Nat.le_of_ble_eq_true rfl) hm dX13_readItems_189 ?_
                    refine g_ifb_ne (tgt := 211) hc dX13_readItems_192 (by decide)  (fun c13 => ?_) (fun c13 => ?_)
                    · skip
                      have hin := c13
                      refine g_aldn hc dX13_readItems_211 rfl ?_
                      refine g_iload_n hc dX13_readItems_212 rfl ?_
                      refine g_iload hc dX13_readItems_213 rfl ?_
                      refine g_iadd hc dX13_readItems_215 ?_
                      refine g_iload hc dX13_readItems_216 rfl ?_
                      obtain ⟨N6, hN6⟩ : ∃ N6, N6 = g_up Nm 709 (row + t) (10 * (Xm 2 (g_pos (Xm 2) n (am + 1)) - 48) + Xm 2 ((g_pos (Xm 2) n (am + 1)) + 1) - 48) := ⟨_, rfl⟩
                      refine g_iaste (I2 := (y_M N6 (((g_pos (Xm 2) n (am + 1)) + 1) + 1) (-1) d)) hc ca_709 (by decide) (by omega) (by omega) ((y_M_p (by omega)).trans (by rw [hN6])) dX13_readItems_218 ?_
                      have he : y_env N6 704 240 0 n Lf := y_env_cg he (fun j => by rw [hN6]; exact g_up_k (by decide)) (by rw [hN6]; funext j; exact g_up_k (by decide)) (by rw [hN6]; funext j; exact g_up_k (by decide)) (by rw [hN6]; exact x_up32 hgN ⟨by omega, by omega⟩)
                      have hBm : q_by N6 704 0 = Xm 2 := (z_by_cg (by rw [hN6]; funext j; exact g_up_k (by decide))).trans hBm
                      have hfv : (g_numr (Xm 2) n (am + 1) (-1) 2 (g_st 3 t) (g_st 4 t)) = ((10 * (Xm 2 (g_pos (Xm 2) n (am + 1)) - 48) + Xm 2 ((g_pos (Xm 2) n (am + 1)) + 1) - 48), (((g_pos (Xm 2) n (am + 1)) + 1) + 1), -1) := by rw [hnum, z_fn, if_neg hd3, if_neg (by omega)]
                      obtain ⟨XN, hXN⟩ : ∃ XN, XN = (g_up (m_nm (g_st 3 t) (g_st 4 t) (m_adv (m_sk Xm))) 542 t (m_nv (g_st 3 t) (g_st 4 t) (m_adv (m_sk Xm)))) := ⟨_, rfl⟩
                      rw [← hXN] at hit
                      obtain ⟨hn1, hn2, hn3, hn4, hn5, hn6, hn7⟩ := z_xn (T := 542) hb hX hXn hXq ham.symm hsg9 (by decide) ⟨hlo9.2.2 (by decide), hlo9.2.1⟩ hfv hXN
                      have hr4 : ∀ j : Int, 0 ≤ j → j < 2 → N6 709 (row + j) = XN 542 j := fun j j0 j1 => by
                        rw [hN6]
                        by_cases e9 : j = t
                        · rw [e9, g_up_s, hn7]
                        · rw [g_up_i (by omega), hn6 j e9]; exact hrw j j0 j1
                      have hf4 : ∀ (k : Nat) (j : Int), ¬ (k = 709 ∧ row ≤ j ∧ j < row + 2) → N6 k j = N k j := fun k j hk => by rw [hN6]; exact (g_up_n (by omega)).trans (hfN k j hk)
                      have hg4 : ∀ k j, g32 (N6 k j) := he.2.2.2.2.1
                      refine g_aload_n hc dX13_readItems_219 rfl ?_
                      refine g_aldn hc dX13_readItems_220 rfl ?_
                      refine g_V0r hc (z_look w hR he hBm (by omega) (by omega)) my_X13_look mv_X13_look ca_703 rfl rfl lm_X13_144 rfl (by decide) (Nat.le_of_ble_eq_true rfl) hm dX13_readItems_221 ?_
                      refine g_S2r hc (c_X13_placeOf w (i := 1) (c := (g_sgn (Xm 2) n (((g_pos (Xm 2) n (am + 1)) + 1) + 1))) (by decide) (by first | assumption | with_reducible exact z_sg32 hXb | with_reducible exact z_sg32 hXb0 | with_reducible exact g_and32 | with_reducible exact g_or32 | exact ⟨by omega, by omega⟩)) my_X13_placeOf ms_X13_placeOf lm_X13_220 rfl (by decide) (Nat.le_of_ble_eq_true rfl) hm dX13_readItems_224 ?_
                      refine g_istore_7 hc dX13_readItems_227 rfl ?_
                      refine g_goto (tgt := 13) hc dX13_readItems_229 (by decide) ?_
                      refine G_sub (L' := [some (gvr w 703), some (gvr w 709), some (gvI row), some (.ref (w.2.2.2.2 101)), some (.ref (w.2.2.2.2 107)), some (.ref (w.2.2.2.2 108)), some (gvI (g_or e (g_shl 1 t))), some (gvI (g_inx 1 (g_sgn (Xm 2) n (((g_pos (Xm 2) n (am + 1)) + 1) + 1)))), none, none, none]) (show g_le _ _ from ⟨rfl, ⟨rfl, ⟨rfl, ⟨rfl, ⟨rfl, ⟨rfl, ⟨rfl, ⟨rfl, trivial⟩⟩⟩⟩⟩⟩⟩⟩) ?_
                      refine ih_13 k2 _ _ _ XN _ ?_ ?_ ?_ ?_ ?_ ?_ ?_ ?_ ?_ ?_ ?_
                      · exact hit
                      · omega
                      · exact w2
                      · exact hn5
                      · exact ⟨hn1, hn2.trans hXB, hn3⟩
                      · rw [hn2, hn4]
                      · rw [z_inx (by decide) (z_sgm hXb).1, z_sg_eq, hn2, hn1, hn4]
                      · exact hf4
                      · exact hg4
                      · exact hr4
                      · omega
                    · skip
                      have hin := c13
                      refine g_aldn hc dX13_readItems_195 rfl ?_
                      refine g_dup hc dX13_readItems_196 rfl ?_
                      refine g_getIe hc lk_X13_125 ca_703 10 rfl (y_M_a) dX13_readItems_197 ?_
                      refine g_iconst hc dX13_readItems_200 ?_
                      refine g_isub hc dX13_readItems_201 ?_
                      refine g_putIe (I2 := (y_M Nm ((((g_pos (Xm 2) n (am + 1)) + 1) + 1) - 1) (-1) d)) hc lk_X13_125 ca_703 10 rfl y_M_pa dX13_readItems_202 ?_
                      refine g_aldn hc dX13_readItems_205 rfl ?_
                      refine g_V0r hc (d_fails w hR he (by omega) (by omega)) my_X13_fails mv_X13_fails ca_703 rfl rfl lm_X13_140 rfl (by decide) (Nat.le_of_ble_eq_true rfl) hm dX13_readItems_206 ?_
                      refine g_pop hc dX13_readItems_209 rfl ?_
                      refine g_vret hc hm dX13_readItems_210 ?_
                      have hq8 : (g_numr (Xm 2) n (am + 1) (-1) 2 (g_st 3 t) (g_st 4 t)).2.2 = ((((g_pos (Xm 2) n (am + 1)) + 1) + 1) - 1) := by
                        rw [hnum, z_fn, if_neg hd3, if_pos (by omega)]
                      have hq7 : (g_up (m_nm (g_st 3 t) (g_st 4 t) (m_adv (m_sk Xm))) 542 t (m_nv (g_st 3 t) (g_st 4 t) (m_adv (m_sk Xm)))) 1 3 = ((((g_pos (Xm 2) n (am + 1)) + 1) + 1) - 1) := by rw [g_up_k (by decide), z5]; exact hq8
                      have hq9 : (m_items 542 2 1 3 4 5 X) 1 3 = ((((g_pos (Xm 2) n (am + 1)) + 1) + 1) - 1) := by rw [hit, z_itn_q (by decide) _ _ _ (by rw [hq7]; omega)]; exact hq7
                      exact ⟨rfl, rfl, rfl, rfl, ((((g_pos (Xm 2) n (am + 1)) + 1) + 1) - 1), Nm, by rw [hq9, g_q1, if_pos rfl], by omega, hfN, hgN, fun z => by rw [hq9] at z; omega⟩
                · skip
                  have hd3 := c10
                  refine g_aldn hc dX13_readItems_137 rfl ?_
                  refine g_V0r hc (d_fails w hR he (by omega) (by omega)) my_X13_fails mv_X13_fails ca_703 rfl rfl lm_X13_140 rfl (by decide) (Nat.le_of_ble_eq_true rfl) hm dX13_readItems_138 ?_
                  refine g_pop hc dX13_readItems_141 rfl ?_
                  refine g_vret hc hm dX13_readItems_142 ?_
                  have hq8 : (g_numr (Xm 2) n (am + 1) (-1) 2 (g_st 3 t) (g_st 4 t)).2.2 = (((g_pos (Xm 2) n (am + 1)) + 1) + 1) := by
                    rw [hnum, z_fn, if_pos hd3]
                  have hq7 : (g_up (m_nm (g_st 3 t) (g_st 4 t) (m_adv (m_sk Xm))) 542 t (m_nv (g_st 3 t) (g_st 4 t) (m_adv (m_sk Xm)))) 1 3 = (((g_pos (Xm 2) n (am + 1)) + 1) + 1) := by rw [g_up_k (by decide), z5]; exact hq8
                  have hq9 : (m_items 542 2 1 3 4 5 X) 1 3 = (((g_pos (Xm 2) n (am + 1)) + 1) + 1) := by rw [hit, z_itn_q (by decide) _ _ _ (by rw [hq7]; omega)]; exact hq7
                  exact ⟨rfl, rfl, rfl, rfl, (((g_pos (Xm 2) n (am + 1)) + 1) + 1), Nm, by rw [hq9, g_q1, if_pos rfl], by omega, hfN, hgN, fun z => by rw [hq9] at z; omega⟩
            · skip
              have hd1 := c4
              refine g_aldn hc dX13_readItems_75 rfl ?_
              refine g_V0r hc (d_fails w hR he (by omega) (by omega)) my_X13_fails mv_X13_fails ca_703 rfl rfl lm_X13_140 rfl (by decide) (Nat.le_of_ble_eq_true rfl) hm dX13_readItems_76 ?_
              refine g_pop hc dX13_readItems_79 rfl ?_
              refine g_vret hc hm dX13_readItems_80 ?_
              have hq8 : (g_numr (Xm 2) n (am + 1) (-1) 2 (g_st 3 t) (g_st 4 t)).2.2 = (g_pos (Xm 2) n (am + 1)) := by
                exact y1 hd1
              have hq7 : (g_up (m_nm (g_st 3 t) (g_st 4 t) (m_adv (m_sk Xm))) 542 t (m_nv (g_st 3 t) (g_st 4 t) (m_adv (m_sk Xm)))) 1 3 = (g_pos (Xm 2) n (am + 1)) := by rw [g_up_k (by decide), z5]; exact hq8
              have hq9 : (m_items 542 2 1 3 4 5 X) 1 3 = (g_pos (Xm 2) n (am + 1)) := by rw [hit, z_itn_q (by decide) _ _ _ (by rw [hq7]; omega)]; exact hq7
              exact ⟨rfl, rfl, rfl, rfl, (g_pos (Xm 2) n (am + 1)), Nm, by rw [hq9, g_q1, if_pos rfl], by omega, hfN, hgN, fun z => by rw [hq9] at z; omega⟩
          · skip
            rw [if_pos c3] at hit
            have hY3 : (m_items 542 2 1 3 4 5 X) 1 3 = am := by rw [hit]; unfold m_fl; rw [g_ts_q, z_sk_q, hXq, g_q1, if_pos rfl]; unfold m_sk; rw [g_ts_n, g_ts_a, show g_ts Xm (g_pos (Xm 2) (Xm 1 1) (Xm 1 2)) (Xm 1 3) 2 = Xm 2 from g_ts_f (by decide), hXn, g_pos_pos (by omega), ham]
            refine g_aldn hc dX13_readItems_37 rfl ?_
            refine g_V0r hc (d_fails w hR he (by omega) (by omega)) my_X13_fails mv_X13_fails ca_703 rfl rfl lm_X13_140 rfl (by decide) (Nat.le_of_ble_eq_true rfl) hm dX13_readItems_38 ?_
            refine g_pop hc dX13_readItems_41 rfl ?_
            refine g_vret hc hm dX13_readItems_42 ?_
            exact ⟨rfl, rfl, rfl, rfl, am, Nm, by rw [hY3, g_q1, if_pos rfl], by omega, hfN, hgN, fun z => by rw [hY3] at z; omega⟩
  refine lp_13 4 3 0 _ _ (m_us 542 5 X) _ ?_ ?_ ?_ ?_ ?_ ?_ ?_ ?_ ?_ ?_ (?_)
  · show m_itn 542 2 1 3 4 ((2 : Int).toNat + 1) 0 (m_us 542 5 X) = _
    rw [show (2 : Int).toNat + 1 = 3 from rfl]
  · rw [z_pcz.2]; rfl
  · decide
  · exact m_us_ok hb hX0 (by decide) (by decide)
  · exact ⟨(z_us_1 (by decide)).trans hXn0, (z_us_k (by decide)).trans hXB0, (z_us_1 (by decide)).trans hXq0⟩
  · rw [z_us_k (by decide), z_us_1 (by decide), hXa0]
  · rw [z_inx (by decide) (z_sgm hXb0).1, z_sg_eq, z_us_k (by decide), z_us_1 (by decide), z_us_1 (by decide), hXa0, hXn0]
  · exact fun _ _ _ => rfl
  · exact hgN0
  · exact fun j j0 j1 => by rw [hus j j0 j1, z_us_t j0 (by rw [z_sarl5]; exact j1)]
  · decide
set_option maxHeartbeats 4000000 in
set_option maxRecDepth 100000 in
/-- X13_readItems -/
theorem r_bran (w : g_W) {J : g_J} {R : g_R} {lb : Nat} (hR : g_rf w R lb 704) {N : g_I} {n : Int} {Lf : Int → Int} (he : y_env N 704 240 0 n Lf) {row a d : Int} (hrow : 0 ≤ row ∧ row + 5 ≤ 1728) (ha0 : 0 ≤ a ∧ a ≤ n) {X : g_I} {b : Nat} (hb : g_life b) (hX0 : l_ok b X) (hXn0 : X 1 1 = n) (hXB0 : X 2 = q_by N 704 0) (hXa0 : X 1 2 = a) (hXq0 : X 1 3 = -1) (hus : ∀ j : Int, 0 ≤ j → j < 5 → N 710 (row + j) = g_st 8 j) : g_Met w g_n (y_M N a (-1) d) J R yX13_readItems cX13_readItems 11 none 5 0 0 [(gvr w 703), (gvr w 710), (gvI row), (.ref (w.2.2.2.2 102)), (.ref (w.2.2.2.2 110)), (.ref (w.2.2.2.2 111))] (z_it n d N J R 710 row 5 544 (m_items 544 5 2 6 7 8 X)) := by
  refine g_intro (own := RX13) [some (gvr w 703), some (gvr w 710), some (gvI row), some (.ref (w.2.2.2.2 102)), some (.ref (w.2.2.2.2 110)), some (.ref (w.2.2.2.2 111)), none, none, none, none, none] (by decide +kernel) rfl (by decide) (Nat.le_of_ble_eq_true rfl) rfl (fun i v hv => g_args 5 i v hv rfl) (fun x hc hm => ?_)
  have hlm9 : g_tln 11 = 5 := by decide +kernel
  have hll9 : g_tln 10 = 5 := by decide +kernel
  have he0 := he
  have he5 := he.2.2.1
  have hgN0 := he.2.2.2.2.1
  have hBx : q_by N 704 0 = X 2 := hXB0.symm
  have hXb0 := hX0.2.2.2.2.1
  refine g_iconst hc dX13_readItems_0 ?_
  refine g_istore_6 hc dX13_readItems_1 rfl ?_
  refine g_aload_n hc dX13_readItems_3 rfl ?_
  refine g_aldn hc dX13_readItems_4 rfl ?_
  refine g_V0r hc (z_look w hR he hBx (by omega) (by omega)) my_X13_look mv_X13_look ca_703 rfl rfl lm_X13_144 rfl (by decide) (Nat.le_of_ble_eq_true rfl) hm dX13_readItems_5 ?_
  refine g_S2r hc (c_X13_placeOf w (i := 2) (c := (g_sgn (X 2) n a)) (by decide) (by first | assumption | with_reducible exact z_sg32 hXb | with_reducible exact z_sg32 hXb0 | with_reducible exact g_and32 | with_reducible exact g_or32 | exact ⟨by omega, by omega⟩)) my_X13_placeOf ms_X13_placeOf lm_X13_220 rfl (by decide) (Nat.le_of_ble_eq_true rfl) hm dX13_readItems_8 ?_
  refine g_istore_7 hc dX13_readItems_11 rfl ?_
  have lp_13 : ∀ (fu : Nat) (k : Nat) (e t am : Int) (Xm Nm : g_I), m_items 544 5 2 6 7 8 X = m_itn 544 5 2 6 7 k e Xm → (k : Int) + z_pc 5 e = 5 + 1 → (0 ≤ e ∧ e < 32) → l_ok b Xm → (Xm 1 1 = n ∧ Xm 2 = q_by N 704 0 ∧ Xm 1 3 = -1) → am = g_pos (Xm 2) n (Xm 1 2) → t = (m_it 2 (m_sg Xm)) → (∀ (k : Nat) (j : Int), ¬ (k = 710 ∧ row ≤ j ∧ j < row + 5) → Nm k j = N k j) → (∀ k j, g32 (Nm k j)) → (∀ j : Int, 0 ≤ j → j < 5 → Nm 710 (row + j) = Xm 544 j) → (k : Int) < (fu : Int) → G w x (z_it n d N J R 710 row 5 544 (m_items 544 5 2 6 7 8 X)) 0 0 g_n (y_M Nm am (-1) d) J R 13 [some (gvr w 703), some (gvr w 710), some (gvI row), some (.ref (w.2.2.2.2 102)), some (.ref (w.2.2.2.2 110)), some (.ref (w.2.2.2.2 111)), some (gvI e), some (gvI t), none, none, none] [] := by
    intro fu
    induction fu with
    | zero => intro k e t am Xm Nm hit hpc he9 hX hXs ham ht hfN hgN hrw hfu; exfalso; omega
    | succ fu ih =>
      intro k e t am Xm Nm hit hpc he9 hX hXs ham ht hfN hgN hrw hfu
      obtain ⟨hXn, hXB, hXq⟩ := hXs
      have he : y_env Nm 704 240 0 n Lf := y_env_cg he0 (fun j => hfN 703 j (by omega)) (funext fun j => hfN 704 j (by omega)) (funext fun j => hfN 707 j (by omega)) hgN
      have he5 := he.2.2.1
      have hBm : q_by Nm 704 0 = Xm 2 := (z_by_cg (funext fun j => hfN 704 j (by omega))).trans hXB.symm
      have hXa := hX.2.1
      have hXb := hX.2.2.2.2.1
      have hpin := g_pos_in (B := Xm 2) (len := n) (a := Xm 1 2) (by omega)
      have ha : 0 ≤ am ∧ am ≤ n := by omega
      have hti : -1 ≤ t ∧ t < 5 := by
        have := m_it_in (X := 2) (c := m_sg Xm) (by decide)
        rw [ht]
        omega
      have hk1 : 1 ≤ k := by
        have := (z_pcs (L := 5) (e := e) (j := 0) (by decide) he9 ⟨by decide, by decide⟩).1.1
        omega
      obtain ⟨k2, rfl⟩ : ∃ k2, k = k2 + 1 := ⟨k - 1, by omega⟩
      rw [m_itn, ← ht] at hit
      have ih_13 := ih
      refine g_iload hc dX13_readItems_13 rfl ?_
      refine g_iconst hc dX13_readItems_15 ?_
      refine g_icmp_eq (tgt := 232) hc dX13_readItems_16 (by decide) (by first | assumption | with_reducible exact z_sg32 hXb | with_reducible exact z_sg32 hXb0 | with_reducible exact g_and32 | with_reducible exact g_or32 | exact ⟨by omega, by omega⟩) (by first | assumption | with_reducible exact z_sg32 hXb | with_reducible exact z_sg32 hXb0 | with_reducible exact g_and32 | with_reducible exact g_or32 | exact ⟨by omega, by omega⟩) (fun c1 => ?_) (fun c1 => ?_)
      · skip
        have ht0 : t = -1 := c1
        rw [if_pos (Or.inl (by omega))] at hit
        have hY3 : (m_items 544 5 2 6 7 8 X) 1 3 = -1 := by rw [hit, z_sk_q]; exact hXq
        have hY2 : (m_items 544 5 2 6 7 8 X) 1 2 = am := by rw [hit, ham]; unfold m_sk; rw [g_ts_a, hXn]
        have hYT : ∀ j, (m_items 544 5 2 6 7 8 X) 544 j = Xm 544 j := fun j => by rw [hit]; exact congrFun (g_ts_f (by decide)) j
        refine g_vret hc hm dX13_readItems_232 ?_
        exact ⟨rfl, rfl, rfl, rfl, am, Nm, by rw [hY3], by omega, hfN, hgN, fun _ => ⟨hY2.symm, fun j j0 j1 => by rw [hYT]; exact hrw j j0 j1⟩⟩
      · skip
        have ht0 : 0 ≤ t := by omega
        rw [if_neg (show ¬ (t < 0 ∨ 5 ≤ t) by omega)] at hit
        refine g_aldn hc dX13_readItems_19 rfl ?_
        refine g_getIe hc lk_X13_134 ca_703 11 rfl (y_M_q) dX13_readItems_20 ?_
        refine g_iconst hc dX13_readItems_23 ?_
        refine g_icmp_ne (tgt := 232) hc dX13_readItems_24 (by decide) (by first | assumption | with_reducible exact z_sg32 hXb | with_reducible exact z_sg32 hXb0 | with_reducible exact g_and32 | with_reducible exact g_or32 | exact ⟨by omega, by omega⟩) (by first | assumption | with_reducible exact z_sg32 hXb | with_reducible exact z_sg32 hXb0 | with_reducible exact g_and32 | with_reducible exact g_or32 | exact ⟨by omega, by omega⟩) (fun c2 => ?_) (fun c2 => ?_)
        · exfalso; omega
        · skip
          refine g_iload hc dX13_readItems_27 rfl ?_
          refine g_iload hc dX13_readItems_29 rfl ?_
          refine g_S2r hc (c_X13_has w) my_X13_has ms_X13_has lm_X13_224 rfl (by decide) (Nat.le_of_ble_eq_true rfl) hm dX13_readItems_31 ?_
          refine g_ifb_eq (tgt := 43) hc dX13_readItems_34 (by decide)  (fun c3 => ?_) (fun c3 => ?_)
          · skip
            rw [if_neg c3] at hit
            obtain ⟨z1, z2, z3, z4, z5⟩ := z_step (X := Xm) (n := n) (lo := g_st 6 t) (hi := g_st 7 t) hXn hXq ham.symm
            obtain ⟨y1, y2, y3⟩ := @z_num (Xm 2) n (am + 1) (g_st 6 t) (g_st 7 t)
            obtain ⟨w1, w2⟩ := z_pcs (L := 5) (e := e) (j := t) (by decide) he9 ⟨by omega, by omega⟩
            have w3 := w1.2 c3
            have hsg9 : ¬ m_sg Xm = -1 := fun z => by
              have : m_it 2 (m_sg Xm) = -1 := by rw [z]; rfl
              omega
            have hp0 : am < n := by
              have := m_sg_in hX hsg9
              unfold m_sk at this
              rw [g_ts_a, g_ts_n, hXn] at this
              omega
            have hpin2 := g_pos_in (B := Xm 2) (len := n) (a := am + 1) (by omega)
            obtain ⟨b1, b2⟩ := z_bdb t (by omega) (by omega)
            have htx8 := (g_txc (i := 11) (j := t) (by decide) ht0 (by omega)).2.2
            have htx9 := (g_txc (i := 10) (j := t) (by decide) ht0 (by omega)).2.2
            have hlo9 := g_st_b (i := 6) (j := t) (by decide) (by omega)
            have hhi9 := g_st_b (i := 7) (j := t) (by decide) (by omega)
            refine g_iload hc dX13_readItems_43 rfl ?_
            refine g_iconst hc dX13_readItems_45 ?_
            refine g_iload hc dX13_readItems_46 rfl ?_
            refine g_ishl hc dX13_readItems_48 ?_
            refine g_ior hc dX13_readItems_49 ?_
            refine g_istore_6 hc dX13_readItems_50 rfl ?_
            refine g_aldn hc dX13_readItems_52 rfl ?_
            refine g_dup hc dX13_readItems_53 rfl ?_
            refine g_getIe hc lk_X13_125 ca_703 10 rfl (y_M_a) dX13_readItems_54 ?_
            refine g_iconst hc dX13_readItems_57 ?_
            refine g_iadd hc dX13_readItems_58 ?_
            refine g_putIe (I2 := (y_M Nm (am + 1) (-1) d)) hc lk_X13_125 ca_703 10 rfl y_M_pa dX13_readItems_59 ?_
            refine g_aldn hc dX13_readItems_62 rfl ?_
            refine g_V0r hc (z_look w hR he hBm (by omega) (by omega)) my_X13_look mv_X13_look ca_703 rfl rfl lm_X13_144 rfl (by decide) (Nat.le_of_ble_eq_true rfl) hm dX13_readItems_63 ?_
            refine g_istore_8 hc dX13_readItems_66 rfl ?_
            refine g_aldn hc dX13_readItems_68 rfl ?_
            refine g_V0r hc (z_isDigit w hR he hBm (by omega) (by omega)) my_X13_isDigit mv_X13_isDigit ca_703 rfl rfl lm_X13_174 rfl (by decide) (Nat.le_of_ble_eq_true rfl) hm dX13_readItems_69 ?_
            refine g_ifb_ne (tgt := 81) hc dX13_readItems_72 (by decide)  (fun c4 => ?_) (fun c4 => ?_)
            · skip
              have hd1 : z_dg (Xm 2) n (g_pos (Xm 2) n (am + 1)) := c4
              have hth : g_sgn (Xm 2) n (am + 1) = Xm 2 (g_pos (Xm 2) n (am + 1)) := if_pos hd1.1
              refine g_iload hc dX13_readItems_81 rfl ?_
              refine g_bipush hc dX13_readItems_83 (by decide +kernel) ?_
              refine g_isub hc dX13_readItems_85 ?_
              rw [show (g_sgn (Xm 2) n (am + 1)) - 48 = Xm 2 (g_pos (Xm 2) n (am + 1)) - 48 from by rw [hth]]
              refine g_istore_9 hc dX13_readItems_86 rfl ?_
              refine g_aldn hc dX13_readItems_88 rfl ?_
              refine g_dup hc dX13_readItems_89 rfl ?_
              refine g_getIe hc lk_X13_125 ca_703 10 rfl (y_M_a) dX13_readItems_90 ?_
              refine g_iconst hc dX13_readItems_93 ?_
              refine g_iadd hc dX13_readItems_94 ?_
              refine g_putIe (I2 := (y_M Nm ((g_pos (Xm 2) n (am + 1)) + 1) (-1) d)) hc lk_X13_125 ca_703 10 rfl y_M_pa dX13_readItems_95 ?_
              refine g_aldn hc dX13_readItems_98 rfl ?_
              refine g_V0r hc (z_isDigit w hR he hBm (by omega) (by omega)) my_X13_isDigit mv_X13_isDigit ca_703 rfl rfl lm_X13_174 rfl (by decide) (Nat.le_of_ble_eq_true rfl) hm dX13_readItems_99 ?_
              refine g_ifb_eq (tgt := 130) hc dX13_readItems_102 (by decide)  (fun c5 => ?_) (fun c5 => ?_)
              · skip
                have hd2 : ¬ z_dg (Xm 2) n ((g_pos (Xm 2) n (am + 1)) + 1) := c5
                have hnum := y2 hd1 hd2
                refine g_aldn hc dX13_readItems_130 rfl ?_
                refine g_V0r hc (z_isDigit w hR he hBm (by omega) (by omega)) my_X13_isDigit mv_X13_isDigit ca_703 rfl rfl lm_X13_174 rfl (by decide) (Nat.le_of_ble_eq_true rfl) hm dX13_readItems_131 ?_
                refine g_ifb_eq (tgt := 143) hc dX13_readItems_134 (by decide)  (fun c6 => ?_) (fun c6 => ?_)
                · skip
                  have hd3 := c6
                  refine g_aload hc dX13_readItems_143 rfl ?_
                  refine g_iload hc dX13_readItems_145 rfl ?_
                  refine g_T1r (i := 11) (by decide) hc (c_J0_charAt_5068e w (by decide) (by omega)) my_J0_charAt_5068e mv_J0_charAt_5068e rfl lm_X13_111 rfl (by decide) (Nat.le_of_ble_eq_true rfl) hm dX13_readItems_147 ?_
                  refine g_bipush hc dX13_readItems_150 (by decide +kernel) ?_
                  refine g_icmp_ne (tgt := 160) hc dX13_readItems_152 (by decide) (by first | assumption | with_reducible exact z_sg32 hXb | with_reducible exact z_sg32 hXb0 | with_reducible exact g_and32 | with_reducible exact g_or32 | exact ⟨by omega, by omega⟩) (by first | assumption | with_reducible exact z_sg32 hXb | with_reducible exact z_sg32 hXb0 | with_reducible exact g_and32 | with_reducible exact g_or32 | exact ⟨by omega, by omega⟩) (fun c7 => ?_) (fun c7 => ?_)
                  · skip
                    have hbd : g_tx 11 t - 48 = g_st 7 t := by rw [if_neg c7] at b2; exact b2
                    refine g_aload hc dX13_readItems_160 rfl ?_
                    refine g_iload hc dX13_readItems_162 rfl ?_
                    refine g_T1r (i := 11) (by decide) hc (c_J0_charAt_5068e w (by decide) (by omega)) my_J0_charAt_5068e mv_J0_charAt_5068e rfl lm_X13_111 rfl (by decide) (Nat.le_of_ble_eq_true rfl) hm dX13_readItems_164 ?_
                    refine g_bipush hc dX13_readItems_167 (by decide +kernel) ?_
                    refine g_isub hc dX13_readItems_169 ?_
                    rw [show (g_tx 11 t) - 48 = g_st 7 t from hbd]
                    refine g_istore_10 hc dX13_readItems_170 rfl ?_
                    refine g_iload hc dX13_readItems_172 rfl ?_
                    refine g_i2l hc dX13_readItems_174 (by first | assumption | with_reducible exact z_sg32 hXb | with_reducible exact z_sg32 hXb0 | with_reducible exact g_and32 | with_reducible exact g_or32 | exact ⟨by omega, by omega⟩) ?_
                    refine g_aload hc dX13_readItems_175 rfl ?_
                    refine g_iload hc dX13_readItems_177 rfl ?_
                    refine g_T1r (i := 10) (by decide) hc (c_J0_charAt_5068e w (by decide) (by omega)) my_J0_charAt_5068e mv_J0_charAt_5068e rfl lm_X13_111 rfl (by decide) (Nat.le_of_ble_eq_true rfl) hm dX13_readItems_179 ?_
                    refine g_bipush hc dX13_readItems_182 (by decide +kernel) ?_
                    refine g_isub hc dX13_readItems_184 ?_
                    rw [show (g_tx 10 t) - 48 = g_st 6 t from b1]
                    refine g_i2l hc dX13_readItems_185 (by first | assumption | with_reducible exact z_sg32 hXb | with_reducible exact z_sg32 hXb0 | with_reducible exact g_and32 | with_reducible exact g_or32 | exact ⟨by omega, by omega⟩) ?_
                    refine g_iload hc dX13_readItems_186 rfl ?_
                    refine g_i2l hc dX13_readItems_188 (by first | assumption | with_reducible exact z_sg32 hXb | with_reducible exact z_sg32 hXb0 | with_reducible exact g_and32 | with_reducible exact g_or32 | exact ⟨by omega, by omega⟩) ?_
                    refine g_S3r hc (c_X13_isIn w (by first | assumption | with_reducible exact z_sg32 hXb | with_reducible exact z_sg32 hXb0 | with_reducible exact g_and32 | with_reducible exact g_or32 | exact ⟨by omega, by omega⟩) (by first | assumption | with_reducible exact z_sg32 hXb | with_reducible exact z_sg32 hXb0 | with_reducible exact g_and32 | with_reducible exact g_or32 | exact ⟨by omega, by omega⟩) (by first | assumption | with_reducible exact z_sg32 hXb | with_reducible exact z_sg32 hXb0 | with_reducible exact g_and32 | with_reducible exact g_or32 | exact ⟨by omega, by omega⟩)) my_X13_isIn ms_X13_isIn lm_X13_231 rfl (by decide) (Nat.le_of_ble_eq_true rfl) hm dX13_readItems_189 ?_
                    refine g_ifb_ne (tgt := 211) hc dX13_readItems_192 (by decide)  (fun c8 => ?_) (fun c8 => ?_)
                    · skip
                      have hin := c8
                      refine g_aldn hc dX13_readItems_211 rfl ?_
                      refine g_iload_n hc dX13_readItems_212 rfl ?_
                      refine g_iload hc dX13_readItems_213 rfl ?_
                      refine g_iadd hc dX13_readItems_215 ?_
                      refine g_iload hc dX13_readItems_216 rfl ?_
                      obtain ⟨N3, hN3⟩ : ∃ N3, N3 = g_up Nm 710 (row + t) (Xm 2 (g_pos (Xm 2) n (am + 1)) - 48) := ⟨_, rfl⟩
                      refine g_iaste (I2 := (y_M N3 ((g_pos (Xm 2) n (am + 1)) + 1) (-1) d)) hc ca_710 (by decide) (by omega) (by omega) ((y_M_p (by omega)).trans (by rw [hN3])) dX13_readItems_218 ?_
                      have he : y_env N3 704 240 0 n Lf := y_env_cg he (fun j => by rw [hN3]; exact g_up_k (by decide)) (by rw [hN3]; funext j; exact g_up_k (by decide)) (by rw [hN3]; funext j; exact g_up_k (by decide)) (by rw [hN3]; exact x_up32 hgN ⟨by omega, by omega⟩)
                      have hBm : q_by N3 704 0 = Xm 2 := (z_by_cg (by rw [hN3]; funext j; exact g_up_k (by decide))).trans hBm
                      have hfv : (g_numr (Xm 2) n (am + 1) (-1) 2 (g_st 6 t) (g_st 7 t)) = ((Xm 2 (g_pos (Xm 2) n (am + 1)) - 48), ((g_pos (Xm 2) n (am + 1)) + 1), -1) := by rw [hnum, z_fn, if_neg hd3, if_neg (by omega)]
                      obtain ⟨XN, hXN⟩ : ∃ XN, XN = (g_up (m_nm (g_st 6 t) (g_st 7 t) (m_adv (m_sk Xm))) 544 t (m_nv (g_st 6 t) (g_st 7 t) (m_adv (m_sk Xm)))) := ⟨_, rfl⟩
                      rw [← hXN] at hit
                      obtain ⟨hn1, hn2, hn3, hn4, hn5, hn6, hn7⟩ := z_xn (T := 544) hb hX hXn hXq ham.symm hsg9 (by decide) ⟨hlo9.2.2 (by decide), hlo9.2.1⟩ hfv hXN
                      have hr4 : ∀ j : Int, 0 ≤ j → j < 5 → N3 710 (row + j) = XN 544 j := fun j j0 j1 => by
                        rw [hN3]
                        by_cases e9 : j = t
                        · rw [e9, g_up_s, hn7]
                        · rw [g_up_i (by omega), hn6 j e9]; exact hrw j j0 j1
                      have hf4 : ∀ (k : Nat) (j : Int), ¬ (k = 710 ∧ row ≤ j ∧ j < row + 5) → N3 k j = N k j := fun k j hk => by rw [hN3]; exact (g_up_n (by omega)).trans (hfN k j hk)
                      have hg4 : ∀ k j, g32 (N3 k j) := he.2.2.2.2.1
                      refine g_aload_n hc dX13_readItems_219 rfl ?_
                      refine g_aldn hc dX13_readItems_220 rfl ?_
                      refine g_V0r hc (z_look w hR he hBm (by omega) (by omega)) my_X13_look mv_X13_look ca_703 rfl rfl lm_X13_144 rfl (by decide) (Nat.le_of_ble_eq_true rfl) hm dX13_readItems_221 ?_
                      refine g_S2r hc (c_X13_placeOf w (i := 2) (c := (g_sgn (Xm 2) n ((g_pos (Xm 2) n (am + 1)) + 1))) (by decide) (by first | assumption | with_reducible exact z_sg32 hXb | with_reducible exact z_sg32 hXb0 | with_reducible exact g_and32 | with_reducible exact g_or32 | exact ⟨by omega, by omega⟩)) my_X13_placeOf ms_X13_placeOf lm_X13_220 rfl (by decide) (Nat.le_of_ble_eq_true rfl) hm dX13_readItems_224 ?_
                      refine g_istore_7 hc dX13_readItems_227 rfl ?_
                      refine g_goto (tgt := 13) hc dX13_readItems_229 (by decide) ?_
                      refine G_sub (L' := [some (gvr w 703), some (gvr w 710), some (gvI row), some (.ref (w.2.2.2.2 102)), some (.ref (w.2.2.2.2 110)), some (.ref (w.2.2.2.2 111)), some (gvI (g_or e (g_shl 1 t))), some (gvI (g_inx 2 (g_sgn (Xm 2) n ((g_pos (Xm 2) n (am + 1)) + 1)))), none, none, none]) (show g_le _ _ from ⟨rfl, ⟨rfl, ⟨rfl, ⟨rfl, ⟨rfl, ⟨rfl, ⟨rfl, ⟨rfl, trivial⟩⟩⟩⟩⟩⟩⟩⟩) ?_
                      refine ih_13 k2 _ _ _ XN _ ?_ ?_ ?_ ?_ ?_ ?_ ?_ ?_ ?_ ?_ ?_
                      · exact hit
                      · omega
                      · exact w2
                      · exact hn5
                      · exact ⟨hn1, hn2.trans hXB, hn3⟩
                      · rw [hn2, hn4]
                      · rw [z_inx (by decide) (z_sgm hXb).1, z_sg_eq, hn2, hn1, hn4]
                      · exact hf4
                      · exact hg4
                      · exact hr4
                      · omega
                    · skip
                      have hin := c8
                      refine g_aldn hc dX13_readItems_195 rfl ?_
                      refine g_dup hc dX13_readItems_196 rfl ?_
                      refine g_getIe hc lk_X13_125 ca_703 10 rfl (y_M_a) dX13_readItems_197 ?_
                      refine g_iconst hc dX13_readItems_200 ?_
                      refine g_isub hc dX13_readItems_201 ?_
                      refine g_putIe (I2 := (y_M Nm (((g_pos (Xm 2) n (am + 1)) + 1) - 1) (-1) d)) hc lk_X13_125 ca_703 10 rfl y_M_pa dX13_readItems_202 ?_
                      refine g_aldn hc dX13_readItems_205 rfl ?_
                      refine g_V0r hc (d_fails w hR he (by omega) (by omega)) my_X13_fails mv_X13_fails ca_703 rfl rfl lm_X13_140 rfl (by decide) (Nat.le_of_ble_eq_true rfl) hm dX13_readItems_206 ?_
                      refine g_pop hc dX13_readItems_209 rfl ?_
                      refine g_vret hc hm dX13_readItems_210 ?_
                      have hq8 : (g_numr (Xm 2) n (am + 1) (-1) 2 (g_st 6 t) (g_st 7 t)).2.2 = (((g_pos (Xm 2) n (am + 1)) + 1) - 1) := by
                        rw [hnum, z_fn, if_neg hd3, if_pos (by omega)]
                      have hq7 : (g_up (m_nm (g_st 6 t) (g_st 7 t) (m_adv (m_sk Xm))) 544 t (m_nv (g_st 6 t) (g_st 7 t) (m_adv (m_sk Xm)))) 1 3 = (((g_pos (Xm 2) n (am + 1)) + 1) - 1) := by rw [g_up_k (by decide), z5]; exact hq8
                      have hq9 : (m_items 544 5 2 6 7 8 X) 1 3 = (((g_pos (Xm 2) n (am + 1)) + 1) - 1) := by rw [hit, z_itn_q (by decide) _ _ _ (by rw [hq7]; omega)]; exact hq7
                      exact ⟨rfl, rfl, rfl, rfl, (((g_pos (Xm 2) n (am + 1)) + 1) - 1), Nm, by rw [hq9, g_q1, if_pos rfl], by omega, hfN, hgN, fun z => by rw [hq9] at z; omega⟩
                  · skip
                    have hbd : (99 : Int) = g_st 7 t := by rw [if_pos c7] at b2; exact b2
                    refine g_bipush hc dX13_readItems_155 (by decide +kernel) ?_
                    refine g_goto (tgt := 170) hc dX13_readItems_157 (by decide) ?_
                    rw [show 99 = g_st 7 t from hbd]
                    refine g_istore_10 hc dX13_readItems_170 rfl ?_
                    refine g_iload hc dX13_readItems_172 rfl ?_
                    refine g_i2l hc dX13_readItems_174 (by first | assumption | with_reducible exact z_sg32 hXb | with_reducible exact z_sg32 hXb0 | with_reducible exact g_and32 | with_reducible exact g_or32 | exact ⟨by omega, by omega⟩) ?_
                    refine g_aload hc dX13_readItems_175 rfl ?_
                    refine g_iload hc dX13_readItems_177 rfl ?_
                    refine g_T1r (i := 10) (by decide) hc (c_J0_charAt_5068e w (by decide) (by omega)) my_J0_charAt_5068e mv_J0_charAt_5068e rfl lm_X13_111 rfl (by decide) (Nat.le_of_ble_eq_true rfl) hm dX13_readItems_179 ?_
                    refine g_bipush hc dX13_readItems_182 (by decide +kernel) ?_
                    refine g_isub hc dX13_readItems_184 ?_
                    rw [show (g_tx 10 t) - 48 = g_st 6 t from b1]
                    refine g_i2l hc dX13_readItems_185 (by first | assumption | with_reducible exact z_sg32 hXb | with_reducible exact z_sg32 hXb0 | with_reducible exact g_and32 | with_reducible exact g_or32 | exact ⟨by omega, by omega⟩) ?_
                    refine g_iload hc dX13_readItems_186 rfl ?_
                    refine g_i2l hc dX13_readItems_188 (by first | assumption | with_reducible exact z_sg32 hXb | with_reducible exact z_sg32 hXb0 | with_reducible exact g_and32 | with_reducible exact g_or32 | exact ⟨by omega, by omega⟩) ?_
                    refine g_S3r hc (c_X13_isIn w (by first | assumption | with_reducible exact z_sg32 hXb | with_reducible exact z_sg32 hXb0 | with_reducible exact g_and32 | with_reducible exact g_or32 | exact ⟨by omega, by omega⟩) (by first | assumption | with_reducible exact z_sg32 hXb | with_reducible exact z_sg32 hXb0 | with_reducible exact g_and32 | with_reducible exact g_or32 | exact ⟨by omega, by omega⟩) (by first | assumption | with_reducible exact z_sg32 hXb | with_reducible exact z_sg32 hXb0 | with_reducible exact g_and32 | with_reducible exact g_or32 | exact ⟨by omega, by omega⟩)) my_X13_isIn ms_X13_isIn lm_X13_231 rfl (by decide) (Nat.le_of_ble_eq_true rfl) hm dX13_readItems_189 ?_
                    refine g_ifb_ne (tgt := 211) hc dX13_readItems_192 (by decide)  (fun c9 => ?_) (fun c9 => ?_)
                    · skip
                      have hin := c9
                      refine g_aldn hc dX13_readItems_211 rfl ?_
                      refine g_iload_n hc dX13_readItems_212 rfl ?_
                      refine g_iload hc dX13_readItems_213 rfl ?_
                      refine g_iadd hc dX13_readItems_215 ?_
                      refine g_iload hc dX13_readItems_216 rfl ?_
                      obtain ⟨N4, hN4⟩ : ∃ N4, N4 = g_up Nm 710 (row + t) (Xm 2 (g_pos (Xm 2) n (am + 1)) - 48) := ⟨_, rfl⟩
                      refine g_iaste (I2 := (y_M N4 ((g_pos (Xm 2) n (am + 1)) + 1) (-1) d)) hc ca_710 (by decide) (by omega) (by omega) ((y_M_p (by omega)).trans (by rw [hN4])) dX13_readItems_218 ?_
                      have he : y_env N4 704 240 0 n Lf := y_env_cg he (fun j => by rw [hN4]; exact g_up_k (by decide)) (by rw [hN4]; funext j; exact g_up_k (by decide)) (by rw [hN4]; funext j; exact g_up_k (by decide)) (by rw [hN4]; exact x_up32 hgN ⟨by omega, by omega⟩)
                      have hBm : q_by N4 704 0 = Xm 2 := (z_by_cg (by rw [hN4]; funext j; exact g_up_k (by decide))).trans hBm
                      have hfv : (g_numr (Xm 2) n (am + 1) (-1) 2 (g_st 6 t) (g_st 7 t)) = ((Xm 2 (g_pos (Xm 2) n (am + 1)) - 48), ((g_pos (Xm 2) n (am + 1)) + 1), -1) := by rw [hnum, z_fn, if_neg hd3, if_neg (by omega)]
                      obtain ⟨XN, hXN⟩ : ∃ XN, XN = (g_up (m_nm (g_st 6 t) (g_st 7 t) (m_adv (m_sk Xm))) 544 t (m_nv (g_st 6 t) (g_st 7 t) (m_adv (m_sk Xm)))) := ⟨_, rfl⟩
                      rw [← hXN] at hit
                      obtain ⟨hn1, hn2, hn3, hn4, hn5, hn6, hn7⟩ := z_xn (T := 544) hb hX hXn hXq ham.symm hsg9 (by decide) ⟨hlo9.2.2 (by decide), hlo9.2.1⟩ hfv hXN
                      have hr4 : ∀ j : Int, 0 ≤ j → j < 5 → N4 710 (row + j) = XN 544 j := fun j j0 j1 => by
                        rw [hN4]
                        by_cases e9 : j = t
                        · rw [e9, g_up_s, hn7]
                        · rw [g_up_i (by omega), hn6 j e9]; exact hrw j j0 j1
                      have hf4 : ∀ (k : Nat) (j : Int), ¬ (k = 710 ∧ row ≤ j ∧ j < row + 5) → N4 k j = N k j := fun k j hk => by rw [hN4]; exact (g_up_n (by omega)).trans (hfN k j hk)
                      have hg4 : ∀ k j, g32 (N4 k j) := he.2.2.2.2.1
                      refine g_aload_n hc dX13_readItems_219 rfl ?_
                      refine g_aldn hc dX13_readItems_220 rfl ?_
                      refine g_V0r hc (z_look w hR he hBm (by omega) (by omega)) my_X13_look mv_X13_look ca_703 rfl rfl lm_X13_144 rfl (by decide) (Nat.le_of_ble_eq_true rfl) hm dX13_readItems_221 ?_
                      refine g_S2r hc (c_X13_placeOf w (i := 2) (c := (g_sgn (Xm 2) n ((g_pos (Xm 2) n (am + 1)) + 1))) (by decide) (by first | assumption | with_reducible exact z_sg32 hXb | with_reducible exact z_sg32 hXb0 | with_reducible exact g_and32 | with_reducible exact g_or32 | exact ⟨by omega, by omega⟩)) my_X13_placeOf ms_X13_placeOf lm_X13_220 rfl (by decide) (Nat.le_of_ble_eq_true rfl) hm dX13_readItems_224 ?_
                      refine g_istore_7 hc dX13_readItems_227 rfl ?_
                      refine g_goto (tgt := 13) hc dX13_readItems_229 (by decide) ?_
                      refine G_sub (L' := [some (gvr w 703), some (gvr w 710), some (gvI row), some (.ref (w.2.2.2.2 102)), some (.ref (w.2.2.2.2 110)), some (.ref (w.2.2.2.2 111)), some (gvI (g_or e (g_shl 1 t))), some (gvI (g_inx 2 (g_sgn (Xm 2) n ((g_pos (Xm 2) n (am + 1)) + 1)))), none, none, none]) (show g_le _ _ from ⟨rfl, ⟨rfl, ⟨rfl, ⟨rfl, ⟨rfl, ⟨rfl, ⟨rfl, ⟨rfl, trivial⟩⟩⟩⟩⟩⟩⟩⟩) ?_
                      refine ih_13 k2 _ _ _ XN _ ?_ ?_ ?_ ?_ ?_ ?_ ?_ ?_ ?_ ?_ ?_
                      · exact hit
                      · omega
                      · exact w2
                      · exact hn5
                      · exact ⟨hn1, hn2.trans hXB, hn3⟩
                      · rw [hn2, hn4]
                      · rw [z_inx (by decide) (z_sgm hXb).1, z_sg_eq, hn2, hn1, hn4]
                      · exact hf4
                      · exact hg4
                      · exact hr4
                      · omega
                    · skip
                      have hin := c9
                      refine g_aldn hc dX13_readItems_195 rfl ?_
                      refine g_dup hc dX13_readItems_196 rfl ?_
                      refine g_getIe hc lk_X13_125 ca_703 10 rfl (y_M_a) dX13_readItems_197 ?_
                      refine g_iconst hc dX13_readItems_200 ?_
                      refine g_isub hc dX13_readItems_201 ?_
                      refine g_putIe (I2 := (y_M Nm (((g_pos (Xm 2) n (am + 1)) + 1) - 1) (-1) d)) hc lk_X13_125 ca_703 10 rfl y_M_pa dX13_readItems_202 ?_
                      refine g_aldn hc dX13_readItems_205 rfl ?_
                      refine g_V0r hc (d_fails w hR he (by omega) (by omega)) my_X13_fails mv_X13_fails ca_703 rfl rfl lm_X13_140 rfl (by decide) (Nat.le_of_ble_eq_true rfl) hm dX13_readItems_206 ?_
                      refine g_pop hc dX13_readItems_209 rfl ?_
                      refine g_vret hc hm dX13_readItems_210 ?_
                      have hq8 : (g_numr (Xm 2) n (am + 1) (-1) 2 (g_st 6 t) (g_st 7 t)).2.2 = (((g_pos (Xm 2) n (am + 1)) + 1) - 1) := by
                        rw [hnum, z_fn, if_neg hd3, if_pos (by omega)]
                      have hq7 : (g_up (m_nm (g_st 6 t) (g_st 7 t) (m_adv (m_sk Xm))) 544 t (m_nv (g_st 6 t) (g_st 7 t) (m_adv (m_sk Xm)))) 1 3 = (((g_pos (Xm 2) n (am + 1)) + 1) - 1) := by rw [g_up_k (by decide), z5]; exact hq8
                      have hq9 : (m_items 544 5 2 6 7 8 X) 1 3 = (((g_pos (Xm 2) n (am + 1)) + 1) - 1) := by rw [hit, z_itn_q (by decide) _ _ _ (by rw [hq7]; omega)]; exact hq7
                      exact ⟨rfl, rfl, rfl, rfl, (((g_pos (Xm 2) n (am + 1)) + 1) - 1), Nm, by rw [hq9, g_q1, if_pos rfl], by omega, hfN, hgN, fun z => by rw [hq9] at z; omega⟩
                · skip
                  have hd3 := c6
                  refine g_aldn hc dX13_readItems_137 rfl ?_
                  refine g_V0r hc (d_fails w hR he (by omega) (by omega)) my_X13_fails mv_X13_fails ca_703 rfl rfl lm_X13_140 rfl (by decide) (Nat.le_of_ble_eq_true rfl) hm dX13_readItems_138 ?_
                  refine g_pop hc dX13_readItems_141 rfl ?_
                  refine g_vret hc hm dX13_readItems_142 ?_
                  have hq8 : (g_numr (Xm 2) n (am + 1) (-1) 2 (g_st 6 t) (g_st 7 t)).2.2 = ((g_pos (Xm 2) n (am + 1)) + 1) := by
                    rw [hnum, z_fn, if_pos hd3]
                  have hq7 : (g_up (m_nm (g_st 6 t) (g_st 7 t) (m_adv (m_sk Xm))) 544 t (m_nv (g_st 6 t) (g_st 7 t) (m_adv (m_sk Xm)))) 1 3 = ((g_pos (Xm 2) n (am + 1)) + 1) := by rw [g_up_k (by decide), z5]; exact hq8
                  have hq9 : (m_items 544 5 2 6 7 8 X) 1 3 = ((g_pos (Xm 2) n (am + 1)) + 1) := by rw [hit, z_itn_q (by decide) _ _ _ (by rw [hq7]; omega)]; exact hq7
                  exact ⟨rfl, rfl, rfl, rfl, ((g_pos (Xm 2) n (am + 1)) + 1), Nm, by rw [hq9, g_q1, if_pos rfl], by omega, hfN, hgN, fun z => by rw [hq9] at z; omega⟩
              · skip
                have hd2 : z_dg (Xm 2) n ((g_pos (Xm 2) n (am + 1)) + 1) := c5
                have hnum := y3 hd1 hd2
                have hd2n := hd2.1
                refine g_bipush hc dX13_readItems_105 (by decide +kernel) ?_
                refine g_iload hc dX13_readItems_107 rfl ?_
                refine g_imul hc dX13_readItems_109 ?_
                refine g_aldn hc dX13_readItems_110 rfl ?_
                refine g_V0r hc (z_here w hR he hBm (by omega) (by omega)) my_X13_here mv_X13_here ca_703 rfl rfl lm_X13_228 rfl (by decide) (Nat.le_of_ble_eq_true rfl) hm dX13_readItems_111 ?_
                refine g_iadd hc dX13_readItems_114 ?_
                refine g_bipush hc dX13_readItems_115 (by decide +kernel) ?_
                refine g_isub hc dX13_readItems_117 ?_
                rw [show ((10 * (Xm 2 (g_pos (Xm 2) n (am + 1)) - 48)) + (if ((g_pos (Xm 2) n (am + 1)) + 1) < n then (Xm 2) ((g_pos (Xm 2) n (am + 1)) + 1) else -1)) - 48 = 10 * (Xm 2 (g_pos (Xm 2) n (am + 1)) - 48) + Xm 2 ((g_pos (Xm 2) n (am + 1)) + 1) - 48 from by rw [if_pos hd2n]]
                refine g_istore_9 hc dX13_readItems_118 rfl ?_
                refine g_aldn hc dX13_readItems_120 rfl ?_
                refine g_dup hc dX13_readItems_121 rfl ?_
                refine g_getIe hc lk_X13_125 ca_703 10 rfl (y_M_a) dX13_readItems_122 ?_
                refine g_iconst hc dX13_readItems_125 ?_
                refine g_iadd hc dX13_readItems_126 ?_
                refine g_putIe (I2 := (y_M Nm (((g_pos (Xm 2) n (am + 1)) + 1) + 1) (-1) d)) hc lk_X13_125 ca_703 10 rfl y_M_pa dX13_readItems_127 ?_
                refine g_aldn hc dX13_readItems_130 rfl ?_
                refine g_V0r hc (z_isDigit w hR he hBm (by omega) (by omega)) my_X13_isDigit mv_X13_isDigit ca_703 rfl rfl lm_X13_174 rfl (by decide) (Nat.le_of_ble_eq_true rfl) hm dX13_readItems_131 ?_
                refine g_ifb_eq (tgt := 143) hc dX13_readItems_134 (by decide)  (fun c10 => ?_) (fun c10 => ?_)
                · skip
                  have hd3 := c10
                  refine g_aload hc dX13_readItems_143 rfl ?_
                  refine g_iload hc dX13_readItems_145 rfl ?_
                  refine g_T1r (i := 11) (by decide) hc (c_J0_charAt_5068e w (by decide) (by omega)) my_J0_charAt_5068e mv_J0_charAt_5068e rfl lm_X13_111 rfl (by decide) (Nat.le_of_ble_eq_true rfl) hm dX13_readItems_147 ?_
                  refine g_bipush hc dX13_readItems_150 (by decide +kernel) ?_
                  refine g_icmp_ne (tgt := 160) hc dX13_readItems_152 (by decide) (by first | assumption | with_reducible exact z_sg32 hXb | with_reducible exact z_sg32 hXb0 | with_reducible exact g_and32 | with_reducible exact g_or32 | exact ⟨by omega, by omega⟩) (by first | assumption | with_reducible exact z_sg32 hXb | with_reducible exact z_sg32 hXb0 | with_reducible exact g_and32 | with_reducible exact g_or32 | exact ⟨by omega, by omega⟩) (fun c11 => ?_) (fun c11 => ?_)
                  · skip
                    have hbd : g_tx 11 t - 48 = g_st 7 t := by rw [if_neg c11] at b2; exact b2
                    refine g_aload hc dX13_readItems_160 rfl ?_
                    refine g_iload hc dX13_readItems_162 rfl ?_
                    refine g_T1r (i := 11) (by decide) hc (c_J0_charAt_5068e w (by decide) (by omega)) my_J0_charAt_5068e mv_J0_charAt_5068e rfl lm_X13_111 rfl (by decide) (Nat.le_of_ble_eq_true rfl) hm dX13_readItems_164 ?_
                    refine g_bipush hc dX13_readItems_167 (by decide +kernel) ?_
                    refine g_isub hc dX13_readItems_169 ?_
                    rw [show (g_tx 11 t) - 48 = g_st 7 t from hbd]
                    refine g_istore_10 hc dX13_readItems_170 rfl ?_
                    refine g_iload hc dX13_readItems_172 rfl ?_
                    refine g_i2l hc dX13_readItems_174 (by first | assumption | with_reducible exact z_sg32 hXb | with_reducible exact z_sg32 hXb0 | with_reducible exact g_and32 | with_reducible exact g_or32 | exact ⟨by omega, by omega⟩) ?_
                    refine g_aload hc dX13_readItems_175 rfl ?_
                    refine g_iload hc dX13_readItems_177 rfl ?_
                    refine g_T1r (i := 10) (by decide) hc (c_J0_charAt_5068e w (by decide) (by omega)) my_J0_charAt_5068e mv_J0_charAt_5068e rfl lm_X13_111 rfl (by decide) (Nat.le_of_ble_eq_true rfl) hm dX13_readItems_179 ?_
                    refine g_bipush hc dX13_readItems_182 (by decide +kernel) ?_
                    refine g_isub hc dX13_readItems_184 ?_
                    rw [show (g_tx 10 t) - 48 = g_st 6 t from b1]
                    refine g_i2l hc dX13_readItems_185 (by first | assumption | with_reducible exact z_sg32 hXb | with_reducible exact z_sg32 hXb0 | with_reducible exact g_and32 | with_reducible exact g_or32 | exact ⟨by omega, by omega⟩) ?_
                    refine g_iload hc dX13_readItems_186 rfl ?_
                    refine g_i2l hc dX13_readItems_188 (by first | assumption | with_reducible exact z_sg32 hXb | with_reducible exact z_sg32 hXb0 | with_reducible exact g_and32 | with_reducible exact g_or32 | exact ⟨by omega, by omega⟩) ?_
                    refine g_S3r hc (c_X13_isIn w (by first | assumption | with_reducible exact z_sg32 hXb | with_reducible exact z_sg32 hXb0 | with_reducible exact g_and32 | with_reducible exact g_or32 | exact ⟨by omega, by omega⟩) (by first | assumption | with_reducible exact z_sg32 hXb | with_reducible exact z_sg32 hXb0 | with_reducible exact g_and32 | with_reducible exact g_or32 | exact ⟨by omega, by omega⟩) (by first | assumption | with_reducible exact z_sg32 hXb | with_reducible exact z_sg32 hXb0 | with_reducible exact g_and32 | with_reducible exact g_or32 | exact ⟨by omega, by omega⟩)) my_X13_isIn ms_X13_isIn lm_X13_231 rfl (by decide) (Nat.le_of_ble_eq_true rfl) hm dX13_readItems_189 ?_
                    refine g_ifb_ne (tgt := 211) hc dX13_readItems_192 (by decide)  (fun c12 => ?_) (fun c12 => ?_)
                    · skip
                      have hin := c12
                      refine g_aldn hc dX13_readItems_211 rfl ?_
                      refine g_iload_n hc dX13_readItems_212 rfl ?_
                      refine g_iload hc dX13_readItems_213 rfl ?_
                      refine g_iadd hc dX13_readItems_215 ?_
                      refine g_iload hc dX13_readItems_216 rfl ?_
                      obtain ⟨N5, hN5⟩ : ∃ N5, N5 = g_up Nm 710 (row + t) (10 * (Xm 2 (g_pos (Xm 2) n (am + 1)) - 48) + Xm 2 ((g_pos (Xm 2) n (am + 1)) + 1) - 48) := ⟨_, rfl⟩
                      refine g_iaste (I2 := (y_M N5 (((g_pos (Xm 2) n (am + 1)) + 1) + 1) (-1) d)) hc ca_710 (by decide) (by omega) (by omega) ((y_M_p (by omega)).trans (by rw [hN5])) dX13_readItems_218 ?_
                      have he : y_env N5 704 240 0 n Lf := y_env_cg he (fun j => by rw [hN5]; exact g_up_k (by decide)) (by rw [hN5]; funext j; exact g_up_k (by decide)) (by rw [hN5]; funext j; exact g_up_k (by decide)) (by rw [hN5]; exact x_up32 hgN ⟨by omega, by omega⟩)
                      have hBm : q_by N5 704 0 = Xm 2 := (z_by_cg (by rw [hN5]; funext j; exact g_up_k (by decide))).trans hBm
                      have hfv : (g_numr (Xm 2) n (am + 1) (-1) 2 (g_st 6 t) (g_st 7 t)) = ((10 * (Xm 2 (g_pos (Xm 2) n (am + 1)) - 48) + Xm 2 ((g_pos (Xm 2) n (am + 1)) + 1) - 48), (((g_pos (Xm 2) n (am + 1)) + 1) + 1), -1) := by rw [hnum, z_fn, if_neg hd3, if_neg (by omega)]
                      obtain ⟨XN, hXN⟩ : ∃ XN, XN = (g_up (m_nm (g_st 6 t) (g_st 7 t) (m_adv (m_sk Xm))) 544 t (m_nv (g_st 6 t) (g_st 7 t) (m_adv (m_sk Xm)))) := ⟨_, rfl⟩
                      rw [← hXN] at hit
                      obtain ⟨hn1, hn2, hn3, hn4, hn5, hn6, hn7⟩ := z_xn (T := 544) hb hX hXn hXq ham.symm hsg9 (by decide) ⟨hlo9.2.2 (by decide), hlo9.2.1⟩ hfv hXN
                      have hr4 : ∀ j : Int, 0 ≤ j → j < 5 → N5 710 (row + j) = XN 544 j := fun j j0 j1 => by
                        rw [hN5]
                        by_cases e9 : j = t
                        · rw [e9, g_up_s, hn7]
                        · rw [g_up_i (by omega), hn6 j e9]; exact hrw j j0 j1
                      have hf4 : ∀ (k : Nat) (j : Int), ¬ (k = 710 ∧ row ≤ j ∧ j < row + 5) → N5 k j = N k j := fun k j hk => by rw [hN5]; exact (g_up_n (by omega)).trans (hfN k j hk)
                      have hg4 : ∀ k j, g32 (N5 k j) := he.2.2.2.2.1
                      refine g_aload_n hc dX13_readItems_219 rfl ?_
                      refine g_aldn hc dX13_readItems_220 rfl ?_
                      refine g_V0r hc (z_look w hR he hBm (by omega) (by omega)) my_X13_look mv_X13_look ca_703 rfl rfl lm_X13_144 rfl (by decide) (Nat.le_of_ble_eq_true rfl) hm dX13_readItems_221 ?_
                      refine g_S2r hc (c_X13_placeOf w (i := 2) (c := (g_sgn (Xm 2) n (((g_pos (Xm 2) n (am + 1)) + 1) + 1))) (by decide) (by first | assumption | with_reducible exact z_sg32 hXb | with_reducible exact z_sg32 hXb0 | with_reducible exact g_and32 | with_reducible exact g_or32 | exact ⟨by omega, by omega⟩)) my_X13_placeOf ms_X13_placeOf lm_X13_220 rfl (by decide) (Nat.le_of_ble_eq_true rfl) hm dX13_readItems_224 ?_
                      refine g_istore_7 hc dX13_readItems_227 rfl ?_
                      refine g_goto (tgt := 13) hc dX13_readItems_229 (by decide) ?_
                      refine G_sub (L' := [some (gvr w 703), some (gvr w 710), some (gvI row), some (.ref (w.2.2.2.2 102)), some (.ref (w.2.2.2.2 110)), some (.ref (w.2.2.2.2 111)), some (gvI (g_or e (g_shl 1 t))), some (gvI (g_inx 2 (g_sgn (Xm 2) n (((g_pos (Xm 2) n (am + 1)) + 1) + 1)))), none, none, none]) (show g_le _ _ from ⟨rfl, ⟨rfl, ⟨rfl, ⟨rfl, ⟨rfl, ⟨rfl, ⟨rfl, ⟨rfl, trivial⟩⟩⟩⟩⟩⟩⟩⟩) ?_
                      refine ih_13 k2 _ _ _ XN _ ?_ ?_ ?_ ?_ ?_ ?_ ?_ ?_ ?_ ?_ ?_
                      · exact hit
                      · omega
                      · exact w2
                      · exact hn5
                      · exact ⟨hn1, hn2.trans hXB, hn3⟩
                      · rw [hn2, hn4]
                      · rw [z_inx (by decide) (z_sgm hXb).1, z_sg_eq, hn2, hn1, hn4]
                      · exact hf4
                      · exact hg4
                      · exact hr4
                      · omega
                    · skip
                      have hin := c12
                      refine g_aldn hc dX13_readItems_195 rfl ?_
                      refine g_dup hc dX13_readItems_196 rfl ?_
                      refine g_getIe hc lk_X13_125 ca_703 10 rfl (y_M_a) dX13_readItems_197 ?_
                      refine g_iconst hc dX13_readItems_200 ?_
                      refine g_isub hc dX13_readItems_201 ?_
                      refine g_putIe (I2 := (y_M Nm ((((g_pos (Xm 2) n (am + 1)) + 1) + 1) - 1) (-1) d)) hc lk_X13_125 ca_703 10 rfl y_M_pa dX13_readItems_202 ?_
                      refine g_aldn hc dX13_readItems_205 rfl ?_
                      refine g_V0r hc (d_fails w hR he (by omega) (by omega)) my_X13_fails mv_X13_fails ca_703 rfl rfl lm_X13_140 rfl (by decide) (Nat.le_of_ble_eq_true rfl) hm dX13_readItems_206 ?_
                      refine g_pop hc dX13_readItems_209 rfl ?_
                      refine g_vret hc hm dX13_readItems_210 ?_
                      have hq8 : (g_numr (Xm 2) n (am + 1) (-1) 2 (g_st 6 t) (g_st 7 t)).2.2 = ((((g_pos (Xm 2) n (am + 1)) + 1) + 1) - 1) := by
                        rw [hnum, z_fn, if_neg hd3, if_pos (by omega)]
                      have hq7 : (g_up (m_nm (g_st 6 t) (g_st 7 t) (m_adv (m_sk Xm))) 544 t (m_nv (g_st 6 t) (g_st 7 t) (m_adv (m_sk Xm)))) 1 3 = ((((g_pos (Xm 2) n (am + 1)) + 1) + 1) - 1) := by rw [g_up_k (by decide), z5]; exact hq8
                      have hq9 : (m_items 544 5 2 6 7 8 X) 1 3 = ((((g_pos (Xm 2) n (am + 1)) + 1) + 1) - 1) := by rw [hit, z_itn_q (by decide) _ _ _ (by rw [hq7]; omega)]; exact hq7
                      exact ⟨rfl, rfl, rfl, rfl, ((((g_pos (Xm 2) n (am + 1)) + 1) + 1) - 1), Nm, by rw [hq9, g_q1, if_pos rfl], by omega, hfN, hgN, fun z => by rw [hq9] at z; omega⟩
                  · skip
                    have hbd : (99 : Int) = g_st 7 t := by rw [if_pos c11] at b2; exact b2
                    refine g_bipush hc dX13_readItems_155 (by decide +kernel) ?_
                    refine g_goto (tgt := 170) hc dX13_readItems_157 (by decide) ?_
                    rw [show 99 = g_st 7 t from hbd]
                    refine g_istore_10 hc dX13_readItems_170 rfl ?_
                    refine g_iload hc dX13_readItems_172 rfl ?_
                    refine g_i2l hc dX13_readItems_174 (by first | assumption | with_reducible exact z_sg32 hXb | with_reducible exact z_sg32 hXb0 | with_reducible exact g_and32 | with_reducible exact g_or32 | exact ⟨by omega, by omega⟩) ?_
                    refine g_aload hc dX13_readItems_175 rfl ?_
                    refine g_iload hc dX13_readItems_177 rfl ?_
                    refine g_T1r (i := 10) (by decide) hc (c_J0_charAt_5068e w (by decide) (by omega)) my_J0_charAt_5068e mv_J0_charAt_5068e rfl lm_X13_111 rfl (by decide) (Nat.le_of_ble_eq_true rfl) hm dX13_readItems_179 ?_
                    refine g_bipush hc dX13_readItems_182 (by decide +kernel) ?_
                    refine g_isub hc dX13_readItems_184 ?_
                    rw [show (g_tx 10 t) - 48 = g_st 6 t from b1]
                    refine g_i2l hc dX13_readItems_185 (by first | assumption | with_reducible exact z_sg32 hXb | with_reducible exact z_sg32 hXb0 | with_reducible exact g_and32 | with_reducible exact g_or32 | exact ⟨by omega, by omega⟩) ?_
                    refine g_iload hc dX13_readItems_186 rfl ?_
                    refine g_i2l hc dX13_readItems_188 (by first | assumption | with_reducible exact z_sg32 hXb | with_reducible exact z_sg32 hXb0 | with_reducible exact g_and32 | with_reducible exact g_or32 | exact ⟨by omega, by omega⟩) ?_
                    refine g_S3r hc (c_X13_isIn w (by first | assumption | with_reducible exact z_sg32 hXb | with_reducible exact z_sg32 hXb0 | with_reducible exact g_and32 | with_reducible exact g_or32 | exact ⟨by omega, by omega⟩) (by first | assumption | with_reducible exact z_sg32 hXb | with_reducible exact z_sg32 hXb0 | with_reducible exact g_and32 | with_reducible exact g_or32 | exact ⟨by omega, by omega⟩) (by first | assumption | with_reducible exact z_sg32 hXb | with_reducible exact z_sg32 hXb0 | with_reducible exact g_and32 | with_reducible exact g_or32 | exact ⟨by omega, by omega⟩)) my_X13_isIn ms_X13_isIn lm_X13_231 rfl (by decide) (Nat.le_of_ble_eq_true rfl) hm dX13_readItems_189 ?_
                    refine g_ifb_ne (tgt := 211) hc dX13_readItems_192 (by decide)  (fun c13 => ?_) (fun c13 => ?_)
                    · skip
                      have hin := c13
                      refine g_aldn hc dX13_readItems_211 rfl ?_
                      refine g_iload_n hc dX13_readItems_212 rfl ?_
                      refine g_iload hc dX13_readItems_213 rfl ?_
                      refine g_iadd hc dX13_readItems_215 ?_
                      refine g_iload hc dX13_readItems_216 rfl ?_
                      obtain ⟨N6, hN6⟩ : ∃ N6, N6 = g_up Nm 710 (row + t) (10 * (Xm 2 (g_pos (Xm 2) n (am + 1)) - 48) + Xm 2 ((g_pos (Xm 2) n (am + 1)) + 1) - 48) := ⟨_, rfl⟩
                      refine g_iaste (I2 := (y_M N6 (((g_pos (Xm 2) n (am + 1)) + 1) + 1) (-1) d)) hc ca_710 (by decide) (by omega) (by omega) ((y_M_p (by omega)).trans (by rw [hN6])) dX13_readItems_218 ?_
                      have he : y_env N6 704 240 0 n Lf := y_env_cg he (fun j => by rw [hN6]; exact g_up_k (by decide)) (by rw [hN6]; funext j; exact g_up_k (by decide)) (by rw [hN6]; funext j; exact g_up_k (by decide)) (by rw [hN6]; exact x_up32 hgN ⟨by omega, by omega⟩)
                      have hBm : q_by N6 704 0 = Xm 2 := (z_by_cg (by rw [hN6]; funext j; exact g_up_k (by decide))).trans hBm
                      have hfv : (g_numr (Xm 2) n (am + 1) (-1) 2 (g_st 6 t) (g_st 7 t)) = ((10 * (Xm 2 (g_pos (Xm 2) n (am + 1)) - 48) + Xm 2 ((g_pos (Xm 2) n (am + 1)) + 1) - 48), (((g_pos (Xm 2) n (am + 1)) + 1) + 1), -1) := by rw [hnum, z_fn, if_neg hd3, if_neg (by omega)]
                      obtain ⟨XN, hXN⟩ : ∃ XN, XN = (g_up (m_nm (g_st 6 t) (g_st 7 t) (m_adv (m_sk Xm))) 544 t (m_nv (g_st 6 t) (g_st 7 t) (m_adv (m_sk Xm)))) := ⟨_, rfl⟩
                      rw [← hXN] at hit
                      obtain ⟨hn1, hn2, hn3, hn4, hn5, hn6, hn7⟩ := z_xn (T := 544) hb hX hXn hXq ham.symm hsg9 (by decide) ⟨hlo9.2.2 (by decide), hlo9.2.1⟩ hfv hXN
                      have hr4 : ∀ j : Int, 0 ≤ j → j < 5 → N6 710 (row + j) = XN 544 j := fun j j0 j1 => by
                        rw [hN6]
                        by_cases e9 : j = t
                        · rw [e9, g_up_s, hn7]
                        · rw [g_up_i (by omega), hn6 j e9]; exact hrw j j0 j1
                      have hf4 : ∀ (k : Nat) (j : Int), ¬ (k = 710 ∧ row ≤ j ∧ j < row + 5) → N6 k j = N k j := fun k j hk => by rw [hN6]; exact (g_up_n (by omega)).trans (hfN k j hk)
                      have hg4 : ∀ k j, g32 (N6 k j) := he.2.2.2.2.1
                      refine g_aload_n hc dX13_readItems_219 rfl ?_
                      refine g_aldn hc dX13_readItems_220 rfl ?_
                      refine g_V0r hc (z_look w hR he hBm (by omega) (by omega)) my_X13_look mv_X13_look ca_703 rfl rfl lm_X13_144 rfl (by decide) (Nat.le_of_ble_eq_true rfl) hm dX13_readItems_221 ?_
                      refine g_S2r hc (c_X13_placeOf w (i := 2) (c := (g_sgn (Xm 2) n (((g_pos (Xm 2) n (am + 1)) + 1) + 1))) (by decide) (by first | assumption | with_reducible exact z_sg32 hXb | with_reducible exact z_sg32 hXb0 | with_reducible exact g_and32 | with_reducible exact g_or32 | exact ⟨by omega, by omega⟩)) my_X13_placeOf ms_X13_placeOf lm_X13_220 rfl (by decide) (Nat.le_of_ble_eq_true rfl) hm dX13_readItems_224 ?_
                      refine g_istore_7 hc dX13_readItems_227 rfl ?_
                      refine g_goto (tgt := 13) hc dX13_readItems_229 (by decide) ?_
                      refine G_sub (L' := [some (gvr w 703), some (gvr w 710), some (gvI row), some (.ref (w.2.2.2.2 102)), some (.ref (w.2.2.2.2 110)), some (.ref (w.2.2.2.2 111)), some (gvI (g_or e (g_shl 1 t))), some (gvI (g_inx 2 (g_sgn (Xm 2) n (((g_pos (Xm 2) n (am + 1)) + 1) + 1)))), none, none, none]) (show g_le _ _ from ⟨rfl, ⟨rfl, ⟨rfl, ⟨rfl, ⟨rfl, ⟨rfl, ⟨rfl, ⟨rfl, trivial⟩⟩⟩⟩⟩⟩⟩⟩) ?_
                      refine ih_13 k2 _ _ _ XN _ ?_ ?_ ?_ ?_ ?_ ?_ ?_ ?_ ?_ ?_ ?_
                      · exact hit
                      · omega
                      · exact w2
                      · exact hn5
                      · exact ⟨hn1, hn2.trans hXB, hn3⟩
                      · rw [hn2, hn4]
                      · rw [z_inx (by decide) (z_sgm hXb).1, z_sg_eq, hn2, hn1, hn4]
                      · exact hf4
                      · exact hg4
                      · exact hr4
                      · omega
                    · skip
                      have hin := c13
                      refine g_aldn hc dX13_readItems_195 rfl ?_
                      refine g_dup hc dX13_readItems_196 rfl ?_
                      refine g_getIe hc lk_X13_125 ca_703 10 rfl (y_M_a) dX13_readItems_197 ?_
                      refine g_iconst hc dX13_readItems_200 ?_
                      refine g_isub hc dX13_readItems_201 ?_
                      refine g_putIe (I2 := (y_M Nm ((((g_pos (Xm 2) n (am + 1)) + 1) + 1) - 1) (-1) d)) hc lk_X13_125 ca_703 10 rfl y_M_pa dX13_readItems_202 ?_
                      refine g_aldn hc dX13_readItems_205 rfl ?_
                      refine g_V0r hc (d_fails w hR he (by omega) (by omega)) my_X13_fails mv_X13_fails ca_703 rfl rfl lm_X13_140 rfl (by decide) (Nat.le_of_ble_eq_true rfl) hm dX13_readItems_206 ?_
                      refine g_pop hc dX13_readItems_209 rfl ?_
                      refine g_vret hc hm dX13_readItems_210 ?_
                      have hq8 : (g_numr (Xm 2) n (am + 1) (-1) 2 (g_st 6 t) (g_st 7 t)).2.2 = ((((g_pos (Xm 2) n (am + 1)) + 1) + 1) - 1) := by
                        rw [hnum, z_fn, if_neg hd3, if_pos (by omega)]
                      have hq7 : (g_up (m_nm (g_st 6 t) (g_st 7 t) (m_adv (m_sk Xm))) 544 t (m_nv (g_st 6 t) (g_st 7 t) (m_adv (m_sk Xm)))) 1 3 = ((((g_pos (Xm 2) n (am + 1)) + 1) + 1) - 1) := by rw [g_up_k (by decide), z5]; exact hq8
                      have hq9 : (m_items 544 5 2 6 7 8 X) 1 3 = ((((g_pos (Xm 2) n (am + 1)) + 1) + 1) - 1) := by rw [hit, z_itn_q (by decide) _ _ _ (by rw [hq7]; omega)]; exact hq7
                      exact ⟨rfl, rfl, rfl, rfl, ((((g_pos (Xm 2) n (am + 1)) + 1) + 1) - 1), Nm, by rw [hq9, g_q1, if_pos rfl], by omega, hfN, hgN, fun z => by rw [hq9] at z; omega⟩
                · skip
                  have hd3 := c10
                  refine g_aldn hc dX13_readItems_137 rfl ?_
                  refine g_V0r hc (d_fails w hR he (by omega) (by omega)) my_X13_fails mv_X13_fails ca_703 rfl rfl lm_X13_140 rfl (by decide) (Nat.le_of_ble_eq_true rfl) hm dX13_readItems_138 ?_
                  refine g_pop hc dX13_readItems_141 rfl ?_
                  refine g_vret hc hm dX13_readItems_142 ?_
                  have hq8 : (g_numr (Xm 2) n (am + 1) (-1) 2 (g_st 6 t) (g_st 7 t)).2.2 = (((g_pos (Xm 2) n (am + 1)) + 1) + 1) := by
                    rw [hnum, z_fn, if_pos hd3]
                  have hq7 : (g_up (m_nm (g_st 6 t) (g_st 7 t) (m_adv (m_sk Xm))) 544 t (m_nv (g_st 6 t) (g_st 7 t) (m_adv (m_sk Xm)))) 1 3 = (((g_pos (Xm 2) n (am + 1)) + 1) + 1) := by rw [g_up_k (by decide), z5]; exact hq8
                  have hq9 : (m_items 544 5 2 6 7 8 X) 1 3 = (((g_pos (Xm 2) n (am + 1)) + 1) + 1) := by rw [hit, z_itn_q (by decide) _ _ _ (by rw [hq7]; omega)]; exact hq7
                  exact ⟨rfl, rfl, rfl, rfl, (((g_pos (Xm 2) n (am + 1)) + 1) + 1), Nm, by rw [hq9, g_q1, if_pos rfl], by omega, hfN, hgN, fun z => by rw [hq9] at z; omega⟩
            · skip
              have hd1 := c4
              refine g_aldn hc dX13_readItems_75 rfl ?_
              refine g_V0r hc (d_fails w hR he (by omega) (by omega)) my_X13_fails mv_X13_fails ca_703 rfl rfl lm_X13_140 rfl (by decide) (Nat.le_of_ble_eq_true rfl) hm dX13_readItems_76 ?_
              refine g_pop hc dX13_readItems_79 rfl ?_
              refine g_vret hc hm dX13_readItems_80 ?_
              have hq8 : (g_numr (Xm 2) n (am + 1) (-1) 2 (g_st 6 t) (g_st 7 t)).2.2 = (g_pos (Xm 2) n (am + 1)) := by
                exact y1 hd1
              have hq7 : (g_up (m_nm (g_st 6 t) (g_st 7 t) (m_adv (m_sk Xm))) 544 t (m_nv (g_st 6 t) (g_st 7 t) (m_adv (m_sk Xm)))) 1 3 = (g_pos (Xm 2) n (am + 1)) := by rw [g_up_k (by decide), z5]; exact hq8
              have hq9 : (m_items 544 5 2 6 7 8 X) 1 3 = (g_pos (Xm 2) n (am + 1)) := by rw [hit, z_itn_q (by decide) _ _ _ (by rw [hq7]; omega)]; exact hq7
              exact ⟨rfl, rfl, rfl, rfl, (g_pos (Xm 2) n (am + 1)), Nm, by rw [hq9, g_q1, if_pos rfl], by omega, hfN, hgN, fun z => by rw [hq9] at z; omega⟩
          · skip
            rw [if_pos c3] at hit
            have hY3 : (m_items 544 5 2 6 7 8 X) 1 3 = am := by rw [hit]; unfold m_fl; rw [g_ts_q, z_sk_q, hXq, g_q1, if_pos rfl]; unfold m_sk; rw [g_ts_n, g_ts_a, show g_ts Xm (g_pos (Xm 2) (Xm 1 1) (Xm 1 2)) (Xm 1 3) 2 = Xm 2 from g_ts_f (by decide), hXn, g_pos_pos (by omega), ham]
            refine g_aldn hc dX13_readItems_37 rfl ?_
            refine g_V0r hc (d_fails w hR he (by omega) (by omega)) my_X13_fails mv_X13_fails ca_703 rfl rfl lm_X13_140 rfl (by decide) (Nat.le_of_ble_eq_true rfl) hm dX13_readItems_38 ?_
            refine g_pop hc dX13_readItems_41 rfl ?_
            refine g_vret hc hm dX13_readItems_42 ?_
            exact ⟨rfl, rfl, rfl, rfl, am, Nm, by rw [hY3, g_q1, if_pos rfl], by omega, hfN, hgN, fun z => by rw [hY3] at z; omega⟩
  refine lp_13 7 6 0 _ _ (m_us 544 8 X) _ ?_ ?_ ?_ ?_ ?_ ?_ ?_ ?_ ?_ ?_ (?_)
  · show m_itn 544 5 2 6 7 ((5 : Int).toNat + 1) 0 (m_us 544 8 X) = _
    rw [show (5 : Int).toNat + 1 = 6 from rfl]
  · rw [z_pcz.1]; rfl
  · decide
  · exact m_us_ok hb hX0 (by decide) (by decide)
  · exact ⟨(z_us_1 (by decide)).trans hXn0, (z_us_k (by decide)).trans hXB0, (z_us_1 (by decide)).trans hXq0⟩
  · rw [z_us_k (by decide), z_us_1 (by decide), hXa0]
  · rw [z_inx (by decide) (z_sgm hXb0).1, z_sg_eq, z_us_k (by decide), z_us_1 (by decide), z_us_1 (by decide), hXa0, hXn0]
  · exact fun _ _ _ => rfl
  · exact hgN0
  · exact fun j j0 j1 => by rw [hus j j0 j1, z_us_t j0 (by rw [z_sarl8]; exact j1)]
  · decide
