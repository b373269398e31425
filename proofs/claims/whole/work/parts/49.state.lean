/-- the acts, the eldest away where they are full -/
def g_tlf (I : g_I) : g_I := if I 549 5 = 40 then g_up (g_cpy (g_cpy I 552 1 552 0 39) 553 1 553 0 39) 549 5 39 else I
/-- the state told otherwise -/
def g_tell (I : g_I) (p v : Int) : g_I := g_up (g_up (g_up (g_up (g_tlf I) 552 (g_tlf I 549 5) p) 553 (g_tlf I 549 5) (g_tlf I 550 p)) 549 5 (g_tlf I 549 5 + 1)) 550 p v
def g_unt (I : g_I) : g_I := g_up (g_up I 549 5 (I 549 5 - 1)) 550 (I 552 (I 549 5 - 1)) (I 553 (I 549 5 - 1))
def g_fgt (I : g_I) : g_I := g_up (g_up I 549 5 0) 549 4 0
def g_kim (I : g_I) : g_I := g_up (g_cpy I 550 0 551 0 24) 549 4 1
def g_tim (I : g_I) : g_I := g_up (g_cpy I 551 0 550 0 24) 549 5 0
set_option maxHeartbeats 4000000 in
set_option maxRecDepth 100000 in
/-- X6_tell -/
theorem c_X6_tell (w : g_W) {I : g_I} {J : g_J} {R : g_R} {lb tx : Nat} (hR : g_rf w R lb tx) (hI : ∀ k j, g32 (I k j)) {p v : Int} (h1 : 0 ≤ p ∧ p < 24) (h2 : 0 ≤ I 549 5 ∧ I 549 5 ≤ 40) : g_Met w g_n I J R yX6_tell cX6_tell 3 (some .int) 1 0 0 [(gvr w 549), (gvI p), (gvI v)] (g_post (some (gvI (g_tlf I 549 5 + 1))) g_n (g_tell I p v) J R) := by
  refine g_intro (own := RX6) [some (gvr w 549), some (gvI p), some (gvI v)] (by decide +kernel) rfl (by decide) (Nat.le_of_ble_eq_true rfl) rfl (fun i v hv => g_args 0 i v hv rfl) (fun x hc hm => ?_)
  refine g_aldn hc dX6_tell_0 rfl ?_
  refine g_getI' hc lk_X6_24 ca_549 5 rfl dX6_tell_1 ?_
  refine g_bipush hc dX6_tell_4 (by decide +kernel) ?_
  refine g_icmp_ne (tgt := 49) hc dX6_tell_6 (by decide) (by first | exact hI _ _ | exact hxI2 _ _ | exact hIa _ _ | exact hIb _ _ | exact g_b32 | exact g_and32 | assumption | exact ⟨by omega, by omega⟩) (by first | exact hI _ _ | exact hxI2 _ _ | exact hIa _ _ | exact hIb _ _ | exact g_b32 | exact g_and32 | assumption | exact ⟨by omega, by omega⟩) (fun c1 => ?_) (fun c1 => ?_)
  · skip
    obtain ⟨T, hT⟩ : ∃ T, T = g_tlf I := ⟨_, rfl⟩
    have hT2 : I = T := by rw [hT]; first | exact e46 | (rw [g_tlf, if_neg (by omega)])
    have hTb : 0 ≤ I 549 5 ∧ I 549 5 < 40 := by omega
    have hTc : 0 ≤ T 549 5 ∧ T 549 5 < 40 := by rw [← hT2]; exact hTb
    refine g_aldn hc dX6_tell_49 rfl ?_
    refine g_getRk hc lk_X6_18 ca_549 (rc_549_2 hR) dX6_tell_50 ?_
    refine g_aldn hc dX6_tell_53 rfl ?_
    refine g_getI' hc lk_X6_24 ca_549 5 rfl dX6_tell_54 ?_
    refine g_iload_n hc dX6_tell_57 rfl ?_
    refine g_iast' hc ca_552 (by decide) (by omega) (by omega)  dX6_tell_58 (fun I3 hI3 => ?_)
    have eA : I3 549 5 = T 549 5 := by rw [hI3, g_up_k (by decide), hT2]
    have eA2 : I3 550 p = T 550 p := by rw [hI3, g_up_k (by decide), hT2]
    have fA := hI3
    rw [hT2] at fA
    refine g_aldn hc dX6_tell_59 rfl ?_
    refine g_getRk hc lk_X6_21 ca_549 (rc_549_3 hR) dX6_tell_60 ?_
    refine g_aldn hc dX6_tell_63 rfl ?_
    refine g_getI' hc lk_X6_24 ca_549 5 rfl dX6_tell_64 ?_
    refine g_aldn hc dX6_tell_67 rfl ?_
    refine g_getRk hc lk_X6_9 ca_549 (rc_549_0 hR) dX6_tell_68 ?_
    refine g_iload_n hc dX6_tell_71 rfl ?_
    refine g_iald hc ca_550 (by decide) (by omega) (by omega) dX6_tell_72 ?_
    refine g_iast' hc ca_553 (by decide) (by omega) (by omega)  dX6_tell_73 (fun I4 hI4 => ?_)
    have eB : I4 549 5 = T 549 5 := by rw [hI4, g_up_k (by decide)]; exact eA
    have fB := hI4
    rw [eA, eA2, fA] at fB
    refine g_aldn hc dX6_tell_74 rfl ?_
    refine g_dup hc dX6_tell_75 rfl ?_
    refine g_getI' hc lk_X6_24 ca_549 5 rfl dX6_tell_76 ?_
    refine g_iconst hc dX6_tell_79 ?_
    refine g_iadd hc dX6_tell_80 ?_
    refine g_putI' hc lk_X6_24 ca_549 5 rfl dX6_tell_81 (fun I5 hI5 => ?_)
    have eC : I5 549 5 = T 549 5 + 1 := by rw [hI5, g_up_s, eB]
    have fC := hI5
    rw [eB, fB] at fC
    refine g_aldn hc dX6_tell_84 rfl ?_
    refine g_getRk hc lk_X6_9 ca_549 (rc_549_0 hR) dX6_tell_85 ?_
    refine g_iload_n hc dX6_tell_88 rfl ?_
    refine g_iload_n hc dX6_tell_89 rfl ?_
    refine g_iast' hc ca_550 (by decide) (by omega) (by omega)  dX6_tell_90 (fun I6 hI6 => ?_)
    have eD : I6 549 5 = g_tlf I 549 5 + 1 := by rw [hI6, g_up_k (by decide), eC, hT]
    have eE : I6 = g_tell I p v := by rw [hI6, fC, hT]; rfl
    refine g_aldn hc dX6_tell_91 rfl ?_
    refine g_getI' hc lk_X6_24 ca_549 5 rfl dX6_tell_92 ?_
    refine g_iret hc hm dX6_tell_95 ?_
    exact ⟨by rw [eD], rfl, eE, rfl, rfl⟩
  · skip
    refine g_aldn hc dX6_tell_9 rfl ?_
    refine g_getRk hc lk_X6_18 ca_549 (rc_549_2 hR) dX6_tell_10 ?_
    refine g_iconst hc dX6_tell_13 ?_
    refine g_aldn hc dX6_tell_14 rfl ?_
    refine g_getRk hc lk_X6_18 ca_549 (rc_549_2 hR) dX6_tell_15 ?_
    refine g_iconst hc dX6_tell_18 ?_
    refine g_bipush hc dX6_tell_19 (by decide +kernel) ?_
    refine g_copy hc ca_552 ca_552 (by decide) (by decide) rfl ac_X6_28 ac_nat ac_sta ac_ini (by omega) (by omega) (by omega) (by omega) (by omega) (by decide) (Nat.le_of_ble_eq_true rfl) dX6_tell_21 (fun I7 hI7 => ?_)
    have e21 : I7 549 5 = I 549 5 := by rw [hI7, g_cpy_k (by decide)]
    have f21 := hI7
    refine g_aldn hc dX6_tell_24 rfl ?_
    refine g_getRk hc lk_X6_21 ca_549 (rc_549_3 hR) dX6_tell_25 ?_
    refine g_iconst hc dX6_tell_28 ?_
    refine g_aldn hc dX6_tell_29 rfl ?_
    refine g_getRk hc lk_X6_21 ca_549 (rc_549_3 hR) dX6_tell_30 ?_
    refine g_iconst hc dX6_tell_33 ?_
    refine g_bipush hc dX6_tell_34 (by decide +kernel) ?_
    refine g_copy hc ca_553 ca_553 (by decide) (by decide) rfl ac_X6_28 ac_nat ac_sta ac_ini (by omega) (by omega) (by omega) (by omega) (by omega) (by decide) (Nat.le_of_ble_eq_true rfl) dX6_tell_36 (fun I8 hI8 => ?_)
    have e36 : I8 549 5 = I 549 5 := by rw [hI8, g_cpy_k (by decide)]; exact e21
    have f36 := hI8
    rw [f21] at f36
    refine g_aldn hc dX6_tell_39 rfl ?_
    refine g_dup hc dX6_tell_40 rfl ?_
    refine g_getI' hc lk_X6_24 ca_549 5 rfl dX6_tell_41 ?_
    refine g_iconst hc dX6_tell_44 ?_
    refine g_isub hc dX6_tell_45 ?_
    refine g_putI' hc lk_X6_24 ca_549 5 rfl dX6_tell_46 (fun I9 hI9 => ?_)
    have e46 : I9 = g_tlf I := by rw [g_tlf, if_pos (by omega), hI9, e36, show I 549 5 = 40 by omega, f36]; rfl
    have e47 : I9 549 5 = 39 := by rw [hI9, g_up_s]; omega
    obtain ⟨T, hT⟩ : ∃ T, T = g_tlf I := ⟨_, rfl⟩
    have hT2 : I9 = T := by rw [hT]; first | exact e46 | (rw [g_tlf, if_neg (by omega)])
    have hTb : 0 ≤ I9 549 5 ∧ I9 549 5 < 40 := by omega
    have hTc : 0 ≤ T 549 5 ∧ T 549 5 < 40 := by rw [← hT2]; exact hTb
    refine g_aldn hc dX6_tell_49 rfl ?_
    refine g_getRk hc lk_X6_18 ca_549 (rc_549_2 hR) dX6_tell_50 ?_
    refine g_aldn hc dX6_tell_53 rfl ?_
    refine g_getI' hc lk_X6_24 ca_549 5 rfl dX6_tell_54 ?_
    refine g_iload_n hc dX6_tell_57 rfl ?_
    refine g_iast' hc ca_552 (by decide) (by omega) (by omega)  dX6_tell_58 (fun I10 hI10 => ?_)
    have eA : I10 549 5 = T 549 5 := by rw [hI10, g_up_k (by decide), hT2]
    have eA2 : I10 550 p = T 550 p := by rw [hI10, g_up_k (by decide), hT2]
    have fA := hI10
    rw [hT2] at fA
    refine g_aldn hc dX6_tell_59 rfl ?_
    refine g_getRk hc lk_X6_21 ca_549 (rc_549_3 hR) dX6_tell_60 ?_
    refine g_aldn hc dX6_tell_63 rfl ?_
    refine g_getI' hc lk_X6_24 ca_549 5 rfl dX6_tell_64 ?_
    refine g_aldn hc dX6_tell_67 rfl ?_
    refine g_getRk hc lk_X6_9 ca_549 (rc_549_0 hR) dX6_tell_68 ?_
    refine g_iload_n hc dX6_tell_71 rfl ?_
    refine g_iald hc ca_550 (by decide) (by omega) (by omega) dX6_tell_72 ?_
    refine g_iast' hc ca_553 (by decide) (by omega) (by omega)  dX6_tell_73 (fun I11 hI11 => ?_)
    have eB : I11 549 5 = T 549 5 := by rw [hI11, g_up_k (by decide)]; exact eA
    have fB := hI11
    rw [eA, eA2, fA] at fB
    refine g_aldn hc dX6_tell_74 rfl ?_
    refine g_dup hc dX6_tell_75 rfl ?_
    refine g_getI' hc lk_X6_24 ca_549 5 rfl dX6_tell_76 ?_
    refine g_iconst hc dX6_tell_79 ?_
    refine g_iadd hc dX6_tell_80 ?_
    refine g_putI' hc lk_X6_24 ca_549 5 rfl dX6_tell_81 (fun I12 hI12 => ?_)
    have eC : I12 549 5 = T 549 5 + 1 := by rw [hI12, g_up_s, eB]
    have fC := hI12
    rw [eB, fB] at fC
    refine g_aldn hc dX6_tell_84 rfl ?_
    refine g_getRk hc lk_X6_9 ca_549 (rc_549_0 hR) dX6_tell_85 ?_
    refine g_iload_n hc dX6_tell_88 rfl ?_
    refine g_iload_n hc dX6_tell_89 rfl ?_
    refine g_iast' hc ca_550 (by decide) (by omega) (by omega)  dX6_tell_90 (fun I13 hI13 => ?_)
    have eD : I13 549 5 = g_tlf I 549 5 + 1 := by rw [hI13, g_up_k (by decide), eC, hT]
    have eE : I13 = g_tell I p v := by rw [hI13, fC, hT]; rfl
    refine g_aldn hc dX6_tell_91 rfl ?_
    refine g_getI' hc lk_X6_24 ca_549 5 rfl dX6_tell_92 ?_
    refine g_iret hc hm dX6_tell_95 ?_
    exact ⟨by rw [eD], rfl, eE, rfl, rfl⟩
set_option maxHeartbeats 4000000 in
set_option maxRecDepth 100000 in
/-- X6_untell -/
theorem c_X6_untell (w : g_W) {I : g_I} {J : g_J} {R : g_R} {lb tx : Nat} (hR : g_rf w R lb tx) (hI : ∀ k j, g32 (I k j)) (h2 : 0 ≤ I 549 5 ∧ I 549 5 ≤ 40) (h3 : ∀ k : Int, 0 ≤ k → k < I 549 5 → 0 ≤ I 552 k ∧ I 552 k < 24) : g_Met w g_n I J R yX6_untell cX6_untell 1 (some .int) 0 0 0 [(gvr w 549)] (g_post (some (gvI (if I 549 5 = 0 then -1 else I 549 5 - 1))) g_n (if I 549 5 = 0 then I else g_unt I) J R) := by
  refine g_intro (own := RX6) [some (gvr w 549)] (by decide +kernel) rfl (by decide) (Nat.le_of_ble_eq_true rfl) rfl (fun i v hv => g_args 0 i v hv rfl) (fun x hc hm => ?_)
  refine g_aldn hc dX6_untell_0 rfl ?_
  refine g_getI' hc lk_X6_24 ca_549 5 rfl dX6_untell_1 ?_
  refine g_if_ne (tgt := 9) hc dX6_untell_4 (by decide) (by first | exact hI _ _ | exact hxI2 _ _ | exact hIa _ _ | exact hIb _ _ | exact g_b32 | exact g_and32 | assumption | exact ⟨by omega, by omega⟩) (fun c1 => ?_) (fun c1 => ?_)
  · skip
    refine g_aldn hc dX6_untell_9 rfl ?_
    refine g_dup hc dX6_untell_10 rfl ?_
    refine g_getI' hc lk_X6_24 ca_549 5 rfl dX6_untell_11 ?_
    refine g_iconst hc dX6_untell_14 ?_
    refine g_isub hc dX6_untell_15 ?_
    refine g_putI' hc lk_X6_24 ca_549 5 rfl dX6_untell_16 (fun I3 hI3 => ?_)
    have e1 : I3 549 5 = I 549 5 - 1 := by rw [hI3, g_up_s]
    have e2 : I3 552 (I3 549 5) = I 552 (I 549 5 - 1) := by rw [e1, hI3, g_up_k (by decide)]
    have e3 : I3 553 (I3 549 5) = I 553 (I 549 5 - 1) := by rw [e1, hI3, g_up_k (by decide)]
    have hp := h3 (I 549 5 - 1) (by omega) (by omega)
    refine g_aldn hc dX6_untell_19 rfl ?_
    refine g_getRk hc lk_X6_9 ca_549 (rc_549_0 hR) dX6_untell_20 ?_
    refine g_aldn hc dX6_untell_23 rfl ?_
    refine g_getRk hc lk_X6_18 ca_549 (rc_549_2 hR) dX6_untell_24 ?_
    refine g_aldn hc dX6_untell_27 rfl ?_
    refine g_getI' hc lk_X6_24 ca_549 5 rfl dX6_untell_28 ?_
    refine g_iald hc ca_552 (by decide) (by omega) (by omega) dX6_untell_31 ?_
    refine g_aldn hc dX6_untell_32 rfl ?_
    refine g_getRk hc lk_X6_21 ca_549 (rc_549_3 hR) dX6_untell_33 ?_
    refine g_aldn hc dX6_untell_36 rfl ?_
    refine g_getI' hc lk_X6_24 ca_549 5 rfl dX6_untell_37 ?_
    refine g_iald hc ca_553 (by decide) (by omega) (by omega) dX6_untell_40 ?_
    refine g_iast' hc ca_550 (by decide) (by omega) (by omega)  dX6_untell_41 (fun I4 hI4 => ?_)
    have e4 : I4 549 5 = I 549 5 - 1 := by rw [hI4, g_up_k (by decide)]; exact e1
    have e5 : I4 = g_unt I := by rw [hI4, e2, e3, hI3]; rfl
    refine g_aldn hc dX6_untell_42 rfl ?_
    refine g_getI' hc lk_X6_24 ca_549 5 rfl dX6_untell_43 ?_
    refine g_iret hc hm dX6_untell_46 ?_
    exact ⟨by rw [if_neg (by assumption), e4], rfl, by rw [if_neg (by assumption)]; exact e5, rfl, rfl⟩
  · skip
    refine g_iconst hc dX6_untell_7 ?_
    refine g_iret hc hm dX6_untell_8 ?_
    exact ⟨by rw [if_pos (by assumption)], rfl, by rw [if_pos (by assumption)], rfl, rfl⟩
set_option maxHeartbeats 4000000 in
set_option maxRecDepth 100000 in
/-- X6_forget -/
theorem c_X6_forget (w : g_W) {I : g_I} {J : g_J} {R : g_R} {lb tx : Nat} (hR : g_rf w R lb tx) (hI : ∀ k j, g32 (I k j)) : g_Met w g_n I J R yX6_forget cX6_forget 1 none 0 0 0 [(gvr w 549)] (g_post none g_n (g_fgt I) J R) := by
  refine g_intro (own := RX6) [some (gvr w 549)] (by decide +kernel) rfl (by decide) (Nat.le_of_ble_eq_true rfl) rfl (fun i v hv => g_args 0 i v hv rfl) (fun x hc hm => ?_)
  refine g_aldn hc dX6_forget_0 rfl ?_
  refine g_iconst hc dX6_forget_1 ?_
  refine g_putI' hc lk_X6_24 ca_549 5 rfl dX6_forget_2 (fun I3 hI3 => ?_)
  refine g_aldn hc dX6_forget_5 rfl ?_
  refine g_iconst hc dX6_forget_6 ?_
  refine g_putZ' hc lk_X6_34 ca_549 (by first | exact g_b01 | omega) 4 rfl dX6_forget_7 (fun I4 hI4 => ?_)
  refine g_vret hc hm dX6_forget_10 ?_
  exact ⟨rfl, rfl, by rw [hI4, hI3]; rfl, rfl, rfl⟩
set_option maxHeartbeats 4000000 in
set_option maxRecDepth 100000 in
/-- X6_keepImage -/
theorem c_X6_keepImage (w : g_W) {I : g_I} {J : g_J} {R : g_R} {lb tx : Nat} (hR : g_rf w R lb tx) (hI : ∀ k j, g32 (I k j)) : g_Met w g_n I J R yX6_keepImage cX6_keepImage 1 none 1 0 0 [(gvr w 549)] (g_post none g_n (g_kim I) J R) := by
  refine g_intro (own := RX6) [some (gvr w 549)] (by decide +kernel) rfl (by decide) (Nat.le_of_ble_eq_true rfl) rfl (fun i v hv => g_args 0 i v hv rfl) (fun x hc hm => ?_)
  refine g_aldn hc dX6_keepImage_0 rfl ?_
  refine g_getRk hc lk_X6_9 ca_549 (rc_549_0 hR) dX6_keepImage_1 ?_
  refine g_iconst hc dX6_keepImage_4 ?_
  refine g_aldn hc dX6_keepImage_5 rfl ?_
  refine g_getRk hc lk_X6_15 ca_549 (rc_549_1 hR) dX6_keepImage_6 ?_
  refine g_iconst hc dX6_keepImage_9 ?_
  refine g_aldn hc dX6_keepImage_10 rfl ?_
  refine g_getRk hc lk_X6_9 ca_549 (rc_549_0 hR) dX6_keepImage_11 ?_
  refine g_alen hc ca_550 (by decide) dX6_keepImage_14 ?_
  refine g_copy hc ca_550 ca_551 (by decide) (by decide) rfl ac_X6_28 ac_nat ac_sta ac_ini (by omega) (by omega) (by omega) (by omega) (by omega) (by decide) (Nat.le_of_ble_eq_true rfl) dX6_keepImage_15 (fun I3 hI3 => ?_)
  refine g_aldn hc dX6_keepImage_18 rfl ?_
  refine g_iconst hc dX6_keepImage_19 ?_
  refine g_putZ' hc lk_X6_34 ca_549 (by first | exact g_b01 | omega) 4 rfl dX6_keepImage_20 (fun I4 hI4 => ?_)
  refine g_vret hc hm dX6_keepImage_23 ?_
  exact ⟨rfl, rfl, by rw [hI4, hI3]; rfl, rfl, rfl⟩
set_option maxHeartbeats 4000000 in
set_option maxRecDepth 100000 in
/-- X6_takeImage -/
theorem c_X6_takeImage (w : g_W) {I : g_I} {J : g_J} {R : g_R} {lb tx : Nat} (hR : g_rf w R lb tx) (hI : ∀ k j, g32 (I k j)) : g_Met w g_n I J R yX6_takeImage cX6_takeImage 1 none 1 0 0 [(gvr w 549)] (g_post none g_n (g_tim I) J R) := by
  refine g_intro (own := RX6) [some (gvr w 549)] (by decide +kernel) rfl (by decide) (Nat.le_of_ble_eq_true rfl) rfl (fun i v hv => g_args 0 i v hv rfl) (fun x hc hm => ?_)
  refine g_aldn hc dX6_takeImage_0 rfl ?_
  refine g_getRk hc lk_X6_15 ca_549 (rc_549_1 hR) dX6_takeImage_1 ?_
  refine g_iconst hc dX6_takeImage_4 ?_
  refine g_aldn hc dX6_takeImage_5 rfl ?_
  refine g_getRk hc lk_X6_9 ca_549 (rc_549_0 hR) dX6_takeImage_6 ?_
  refine g_iconst hc dX6_takeImage_9 ?_
  refine g_aldn hc dX6_takeImage_10 rfl ?_
  refine g_getRk hc lk_X6_9 ca_549 (rc_549_0 hR) dX6_takeImage_11 ?_
  refine g_alen hc ca_550 (by decide) dX6_takeImage_14 ?_
  refine g_copy hc ca_551 ca_550 (by decide) (by decide) rfl ac_X6_28 ac_nat ac_sta ac_ini (by omega) (by omega) (by omega) (by omega) (by omega) (by decide) (Nat.le_of_ble_eq_true rfl) dX6_takeImage_15 (fun I3 hI3 => ?_)
  refine g_aldn hc dX6_takeImage_18 rfl ?_
  refine g_iconst hc dX6_takeImage_19 ?_
  refine g_putI' hc lk_X6_24 ca_549 5 rfl dX6_takeImage_20 (fun I4 hI4 => ?_)
  refine g_vret hc hm dX6_takeImage_23 ?_
  exact ⟨rfl, rfl, by rw [hI4, hI3]; rfl, rfl, rfl⟩
