/-- every node that a LIFE may hold -/
theorem s_node (w : g_W) {b : Nat} (hb : g_life b) : ∀ k : Nat, k ≤ 6 → C_nod w b k
  | 0, _ => fun hR h {_} hd => s_nod0 w hR hb h (by omega)
  | k + 1, hk => fun hR h {_} hd => s_nodS w hR hb h hd (by omega) (s_node w hb k (by omega))
set_option maxHeartbeats 4000000 in
set_option maxRecDepth 100000 in
/-- X5_read -/
theorem c_X5_read (w : g_W) {I : g_I} {J : g_J} {R : g_R} {lb tx : Nat} (hR : g_rf w R lb tx) {b : Nat} (hb : g_life b) (hx : x_lk I) : g_Met w g_n I J R yX5_read cX5_read 2 (some .int) 26 0 0 [(gvr w 538), (gvr w b)] (g_post (some (gvI (m_life b I 1 3))) g_n (m_life b I) J R) := by
  refine g_intro (own := RX5) [some (gvr w 538), some (gvr w b)] (by decide +kernel) rfl (by decide) (Nat.le_of_ble_eq_true rfl) rfl (fun i v hv => g_args 0 i v hv rfl) (fun x hc hm => ?_)
  have hb5 := hb
  unfold g_life at hb5
  refine g_aldn hc dX5_read_0 rfl ?_
  refine g_iconst hc dX5_read_1 ?_
  refine g_putI' hc lk_X5_70 (la_0 hb) 0 rfl dX5_read_2 (fun I3 hI3 => ?_)
  refine g_aldn hc dX5_read_5 rfl ?_
  refine g_iconst hc dX5_read_6 ?_
  refine g_putI' hc lk_X5_76 (la_0 hb) 1 rfl dX5_read_7 (fun I4 hI4 => ?_)
  refine g_aldn hc dX5_read_10 rfl ?_
  refine g_getRk hc lk_X5_66 ca_538 (rc_538_0 hR) dX5_read_11 ?_
  refine g_V0v hc (c_X8_begin w) my_X8_begin mv_X8_begin ca_1 rfl rfl lm_X5_79 rfl (by decide) (Nat.le_of_ble_eq_true rfl) hm dX5_read_14 ?_
  generalize hMI5 : g_ts I4 0 (-1) = I5
  have hmI5 : l_ok b I5 := hMI5 ▸ (by rw [hI4, hI3]; exact x_beg_ok hb hx)
  refine g_aldn hc dX5_read_17 rfl ?_
  refine g_aldn hc dX5_read_18 rfl ?_
  refine g_iconst hc dX5_read_19 ?_
  refine g_V2r hc (s_node w hb 6 (by decide) hR hmI5 (by decide)) my_X5_readNode mv_X5_readNode ca_538 rfl rfl lm_X5_84 rfl (by decide) (Nat.le_of_ble_eq_true rfl) hm dX5_read_20 ?_
  obtain ⟨q1v, I6, hMq1⟩ : ∃ (z9 : Int) (m9 : g_I), m_node b 6 I5 = (z9, m9) := ⟨_, _, rfl⟩
  rw [hMq1]
  dsimp only
  have hmI6 : l_ok b I6 := by have z := m_node_ok hb 6 (by decide) _ hmI5; rw [hMq1] at z; exact z.1
  have hvq1 := m_node_ok hb 6 (by decide) _ hmI5
  rw [hMq1] at hvq1
  replace hvq1 := hvq1.2
  dsimp only at hvq1
  refine g_pop hc dX5_read_23 rfl ?_
  refine g_aldn hc dX5_read_24 rfl ?_
  refine g_getRk hc lk_X5_66 ca_538 (rc_538_0 hR) dX5_read_25 ?_
  refine g_V0r hc (m_finish w hR hmI6) my_X8_finish mv_X8_finish ca_1 rfl rfl lm_X5_88 rfl (by decide) (Nat.le_of_ble_eq_true rfl) hm dX5_read_28 ?_
  generalize hMI7 : m_fin I6 = I7
  have hmI7 : l_ok b I7 := hMI7 ▸ m_fin_ok hb hmI6
  refine g_iret hc hm dX5_read_31 ?_
  have hE : m_life b I = I7 := by
    unfold m_life
    rw [show m_beg b I = I5 by rw [← hMI5, hI4, hI3]; rfl, hMq1]
    exact hMI7
  exact ⟨by rw [hE], rfl, hE.symm, rfl, rfl⟩
/-- the class's memory as a FAULT has been looked for -/
def x_flI (I : g_I) (v : Int) : g_I := if v = 0 then m_life (4 + 128 * (I 0 10).toNat) I else if v = 1 then t_M I (517 + 3 * (I 0 11).toNat) (t_read (I 2) (I 1 1)) else I
set_option maxHeartbeats 4000000 in
set_option maxRecDepth 100000 in
/-- X12_fault -/
theorem c_X12_fault (w : g_W) {I : g_I} {J : g_J} {R : g_R} {lb tx : Nat} (hR : g_rf w R lb tx) (hx : x_lk I) (hl3 : 0 ≤ I 0 10 ∧ I 0 10 ≤ 3) (ht6 : 0 ≤ I 0 11 ∧ I 0 11 ≤ 6) {v : Int} (g1 : g32 v) : g_Met w g_n I J R yX12_fault cX12_fault 2 (some .int) 33 0 0 [(gvr w 0), (gvI v)] (g_post (some (gvI (x_flt I v))) g_n (x_flI I v) J R) := by
  refine g_intro (own := RX12) [some (gvr w 0), some (gvI v)] (by decide +kernel) rfl (by decide) (Nat.le_of_ble_eq_true rfl) rfl (fun i v hv => g_args 0 i v hv rfl) (fun x hc hm => ?_)
  have hI := hx.1
  refine g_iload_n hc dX12_fault_0 rfl ?_
  refine g_if_ne (tgt := 21) hc dX12_fault_1 (by decide) (by first | exact hI _ _ | exact hxI2 _ _ | exact hIa _ _ | exact hIb _ _ | exact g_b32 | exact g_and32 | assumption | exact ⟨by omega, by omega⟩) (fun c1 => ?_) (fun c1 => ?_)
  · skip
    refine g_iload_n hc dX12_fault_21 rfl ?_
    refine g_iconst hc dX12_fault_22 ?_
    refine g_icmp_ne (tgt := 45) hc dX12_fault_23 (by decide) (by first | exact hI _ _ | exact hxI2 _ _ | exact hIa _ _ | exact hIb _ _ | exact g_b32 | exact g_and32 | assumption | exact ⟨by omega, by omega⟩) (by first | exact hI _ _ | exact hxI2 _ _ | exact hIa _ _ | exact hIb _ _ | exact g_b32 | exact g_and32 | assumption | exact ⟨by omega, by omega⟩) (fun c2 => ?_) (fun c2 => ?_)
    · skip
      refine g_bipush hc dX12_fault_45 (by decide +kernel) ?_
      refine g_iret hc hm dX12_fault_47 ?_
      first | (exfalso; omega) | exact ⟨by rw [x_flt, if_neg (by omega), if_pos (by omega)], rfl, by rw [x_flI, if_neg (by omega), if_pos (by omega)], rfl, rfl⟩ | exact ⟨by rw [x_flt, if_neg (by omega), if_neg (by omega)], rfl, by rw [x_flI, if_neg (by omega), if_neg (by omega)], rfl, rfl⟩
    · skip
      refine g_aldn hc dX12_fault_26 rfl ?_
      refine g_getRk hc lk_X12_42 ca_0 (rc_0_4 hR) dX12_fault_27 ?_
      refine g_aldn hc dX12_fault_30 rfl ?_
      refine g_getRk hc lk_X12_25 ca_0 (rc_0_2 hR) dX12_fault_31 ?_
      refine g_aldn hc dX12_fault_34 rfl ?_
      refine g_getI' hc lk_X12_109 ca_0 11 rfl dX12_fault_35 ?_
      refine g_aaldk hc ca_516 (by decide) rfl rfl (by decide) (by omega) (by omega) (ra_516 hR (by omega) (by omega)) dX12_fault_38 ?_
      refine g_V1r hc (c_X10_read w hR hx.1 hx.2.1 hx.2.2.1 (gt_of (i := I 0 11) (by omega) (by omega))) my_X10_read mv_X10_read ca_547 rfl rfl lm_X12_112 rfl (by decide) (Nat.le_of_ble_eq_true rfl) hm dX12_fault_39 ?_
      refine g_goto (tgt := 47) hc dX12_fault_42 (by decide) ?_
      refine g_iret hc hm dX12_fault_47 ?_
      first | (exfalso; omega) | exact ⟨by rw [x_flt, if_neg (by omega), if_pos (by omega)], rfl, by rw [x_flI, if_neg (by omega), if_pos (by omega)], rfl, rfl⟩ | exact ⟨by rw [x_flt, if_neg (by omega), if_neg (by omega)], rfl, by rw [x_flI, if_neg (by omega), if_neg (by omega)], rfl, rfl⟩
  · skip
    refine g_aldn hc dX12_fault_4 rfl ?_
    refine g_getRk hc lk_X12_35 ca_0 (rc_0_3 hR) dX12_fault_5 ?_
    refine g_aldn hc dX12_fault_8 rfl ?_
    refine g_getRk hc lk_X12_18 ca_0 (rc_0_1 hR) dX12_fault_9 ?_
    refine g_aldn hc dX12_fault_12 rfl ?_
    refine g_getI' hc lk_X12_102 ca_0 10 rfl dX12_fault_13 ?_
    refine g_aaldk hc ca_3 (by decide) rfl rfl (by decide) (by omega) (by omega) (ra_3 hR (by omega) (by omega)) dX12_fault_16 ?_
    refine g_V1r hc (c_X5_read w hR (gl_of (i := I 0 10) (by omega) (by omega)) hx) my_X5_read mv_X5_read ca_538 rfl rfl lm_X12_105 rfl (by decide) (Nat.le_of_ble_eq_true rfl) hm dX12_fault_17 ?_
    refine g_iret hc hm dX12_fault_20 ?_
    exact ⟨by rw [x_flt, if_pos (by omega)], rfl, by rw [x_flI, if_pos (by omega)], rfl, rfl⟩
theorem x_ful50 : ∀ n : Fin 5, 0 ≤ g_shl 1 (n.val : Int) - 1 ∧ g_shl 1 (n.val : Int) - 1 ≤ 15 := by decide +kernel
theorem x_ful5 {n : Int} (h : 0 ≤ n ∧ n ≤ 4) : 0 ≤ g_shl 1 n - 1 ∧ g_shl 1 n - 1 ≤ 15 := by
  have := x_ful50 ⟨n.toNat, by omega⟩
  dsimp only at this
  rwa [show ((n.toNat : Nat) : Int) = n by omega] at this
set_option maxHeartbeats 4000000 in
set_option maxRecDepth 100000 in
theorem c2_X12_bringToTable (w : g_W) {I : g_I} {J : g_J} {R : g_R} {lb tx : Nat} (hR : g_rf w R lb tx) (hI : ∀ k j, g32 (I k j)) {l : Int} (hl : 0 ≤ l ∧ l ≤ 2) (hn1 : 0 ≤ I (4 + 128 * l.toNat) 1 ∧ I (4 + 128 * l.toNat) 1 ≤ 20) (hL43 : z_43 (4 + 128 * l.toNat) I)  : g_Met w g_n I J R yX12_bringToTable cX12_bringToTable 3 none 1 0 0 [(gvr w 0), (gvI l)] (fun rr nn II JJ RR => rr = none ∧ nn = g_n ∧ JJ = J ∧ g_rf w RR (4 + 128 * l.toNat) tx ∧ x_cal I l II ∧ ∀ k : Nat, k ≠ 0 → k ≠ 549 → k ≠ 550 → k ≠ 697 → k ≠ 701 → II k = I k) := by
  refine g_intro (own := RX12) [some (gvr w 0), some (gvI l), none] (by decide +kernel) rfl (by decide) (Nat.le_of_ble_eq_true rfl) rfl (fun i v hv => g_args 1 i v hv rfl) (fun x hc hm => ?_)
  have hlb2 : g_life (4 + 128 * l.toNat) := gl_of hl.1 (by omega)
  refine g_aldn hc dX12_bringToTable_0 rfl ?_
  refine g_iload_n hc dX12_bringToTable_1 rfl ?_
  refine g_putI' hc lk_X12_87 ca_0 12 rfl dX12_bringToTable_2 (fun I3 hI3 => ?_)
  refine g_aldn hc dX12_bringToTable_5 rfl ?_
  refine g_getRk hc lk_X12_51 ca_0 (rc_0_5 hR) dX12_bringToTable_6 ?_
  refine g_aldn hc dX12_bringToTable_9 rfl ?_
  refine g_getRk hc lk_X12_18 ca_0 (rc_0_1 hR) dX12_bringToTable_10 ?_
  refine g_iload_n hc dX12_bringToTable_13 rfl ?_
  refine g_aaldk hc ca_3 (by decide) rfl rfl (by decide) (by omega) (by omega) (ra_3 hR (by omega) (by omega)) dX12_bringToTable_14 ?_
  refine g_putR (ty := .object "OtherSelves$Life") hc lk_X12_118 ca_548 (by decide) rfl rfl dX12_bringToTable_15 ?_
  generalize hR9 : g_upR R 548 ((3 : Nat) : Int) (some (w.2.2.2.1 + (4 + 128 * l.toNat))) = R9
  have hR : g_rf w R9 (4 + 128 * l.toNat) tx := hR9 ▸ g_rf_lb hR
  refine g_aldn hc dX12_bringToTable_18 rfl ?_
  refine g_getRk hc lk_X12_51 ca_0 (rc_0_5 hR) dX12_bringToTable_19 ?_
  refine g_getRk hc lk_X12_200 ca_548 (rc_548_1 hR) dX12_bringToTable_22 ?_
  refine g_V0v hc (c_X6_forget w hR (by rw [hI3]; exact x_up32 hI ⟨by omega, by omega⟩)) my_X6_forget mv_X6_forget ca_549 rfl rfl lm_X12_362 rfl (by decide) (Nat.le_of_ble_eq_true rfl) hm dX12_bringToTable_25 ?_
  obtain ⟨X, hX⟩ : ∃ X, X = g_fgt I3 := ⟨_, rfl⟩
  rw [← hX]
  have hgX : ∀ k j, g32 (X k j) := by rw [hX, hI3]; exact x_up32 (x_up32 (x_up32 hI ⟨by omega, by omega⟩) ⟨by decide, by decide⟩) ⟨by decide, by decide⟩
  have hkX : ∀ k : Nat, k ≠ 0 → k ≠ 549 → k ≠ 550 → X k = I k := fun k a c _ => by funext j; rw [hX, g_fgt, g_up_k c, g_up_k c, hI3, g_up_k a]
  have h0X : X 0 12 = l ∧ ∀ j : Int, j ≠ 12 → X 0 j = I 0 j := ⟨by rw [hX, g_fgt, g_up_k (by decide), g_up_k (by decide), hI3, g_up_s], fun j hj => by rw [hX, g_fgt, g_up_k (by decide), g_up_k (by decide), hI3, g_up_i hj]⟩
  have h9X : X 549 5 = 0 ∧ X 549 4 = 0 := ⟨by rw [hX, g_fgt, g_up_i (by decide), g_up_s], by rw [hX, g_fgt, g_up_s]⟩
  have h5X : ∀ j : Int, 0 ≤ j → j < 4 → X 550 j = I 550 j := fun j _ _ => by rw [hX, g_fgt, g_up_k (by decide), g_up_k (by decide), hI3, g_up_k (by decide)]
  skip
  refine g_iconst hc dX12_bringToTable_28 ?_
  refine g_istore_2 hc dX12_bringToTable_29 rfl ?_
  have lp_30 : ∀ (fu : Nat) (i : Int) (Im : g_I), 0 ≤ i ∧ i ≤ I (4 + 128 * l.toNat) 1 → (∀ k j, g32 (Im k j)) → (∀ k : Nat, k ≠ 0 → k ≠ 549 → k ≠ 550 → Im k = I k) → (Im 0 12 = l ∧ ∀ j : Int, j ≠ 12 → Im 0 j = I 0 j) → (Im 549 5 = 0 ∧ Im 549 4 = 0) → (∀ j : Int, 0 ≤ j → j < 4 → Im 550 j = I 550 j) → (∀ f : Int, 0 ≤ f → f < i → Im 550 (4 + f) = g_shl 1 (I ((4 + 128 * l.toNat) + 43) f) - 1) → I (4 + 128 * l.toNat) 1 - i < (fu : Int) → G w x (fun rr nn II JJ RR => rr = none ∧ nn = g_n ∧ JJ = J ∧ g_rf w RR (4 + 128 * l.toNat) tx ∧ x_cal I l II ∧ ∀ k : Nat, k ≠ 0 → k ≠ 549 → k ≠ 550 → k ≠ 697 → k ≠ 701 → II k = I k) 0 0 g_n Im J R9 30 [some (gvr w 0), some (gvI l), some (gvI i)] [] := by
    intro fu
    induction fu with
    | zero => intro i Im h3 hgIm hkIm h0Im h9Im h5Im hfIm hfu; exfalso; omega
    | succ fu ih =>
      intro i Im h3 hgIm hkIm h0Im h9Im h5Im hfIm hfu
      have e41 : Im (4 + 128 * l.toNat) 1 = I (4 + 128 * l.toNat) 1 := by rw [hkIm _ (by omega) (by omega) (by omega)]
      have ih_30 := ih
      refine g_iload_n hc dX12_bringToTable_30 rfl ?_
      refine g_aldn hc dX12_bringToTable_31 rfl ?_
      refine g_getRk hc lk_X12_51 ca_0 (rc_0_5 hR) dX12_bringToTable_32 ?_
      refine g_getRvk hc lk_X12_118 ca_548 (rc_548_3 hR) dX12_bringToTable_35 ?_
      refine g_getI' hc lk_X12_353 (la_0 hlb2) 1 rfl dX12_bringToTable_38 ?_
      refine g_icmp_ge (tgt := 75) hc dX12_bringToTable_41 (by decide) (by first | exact hI _ _ | exact hxI2 _ _ | exact hIa _ _ | exact hIb _ _ | exact g_b32 | exact g_and32 | assumption | exact ⟨by omega, by omega⟩) (by first | exact hI _ _ | exact hxI2 _ _ | exact hIa _ _ | exact hIb _ _ | exact g_b32 | exact g_and32 | assumption | exact ⟨by omega, by omega⟩) (fun c1 => ?_) (fun c1 => ?_)
      · skip
        refine g_aldn hc dX12_bringToTable_75 rfl ?_
        refine g_getRk hc lk_X12_76 ca_0 (rc_0_8 hR) dX12_bringToTable_76 ?_
        refine g_iconst hc dX12_bringToTable_79 ?_
        refine g_putI' hc lk_X12_356 ca_697 4 rfl dX12_bringToTable_80 (fun I4 hI4 => ?_)
        refine g_aldn hc dX12_bringToTable_83 rfl ?_
        refine g_getRk hc lk_X12_83 ca_0 (rc_0_9 hR) dX12_bringToTable_84 ?_
        refine g_iconst hc dX12_bringToTable_87 ?_
        refine g_putI' hc lk_X12_330 ca_701 2 rfl dX12_bringToTable_88 (fun I5 hI5 => ?_)
        refine g_vret hc hm dX12_bringToTable_91 ?_
        exact ⟨rfl, rfl, rfl, hR, ⟨by rw [hI5]; exact x_up32 (by rw [hI4]; exact x_up32 hgIm ⟨by decide, by decide⟩) ⟨by decide, by decide⟩, by rw [hI5, g_up_k (by decide), hI4, g_up_k (by decide)]; exact h0Im.1, fun j hj => by rw [hI5, g_up_k (by decide), hI4, g_up_k (by decide)]; exact h0Im.2 j hj, by rw [hI5, g_up_k (by decide), g_up_k (by decide), hI4, g_up_k (by decide), g_up_k (by decide)]; exact h9Im, fun j a c => by rw [hI5, g_up_k (by decide), hI4, g_up_k (by decide)]; exact h5Im j a c, fun f a c => by rw [hI5, g_up_k (by decide), hI4, g_up_k (by decide)]; exact hfIm f a (by omega), by rw [hI5, g_up_k (by decide), hI4, g_up_s], by rw [hI5, g_up_s], fun k hk => by funext j; rw [hI5, g_up_k (by omega), hI4, g_up_k (by omega), hkIm k (by omega) (by omega) (by omega)]⟩, fun k a c d e f => by funext j; rw [hI5, g_up_k f, hI4, g_up_k e, hkIm k a c d]⟩
      · skip
        refine g_aldn hc dX12_bringToTable_44 rfl ?_
        refine g_getRk hc lk_X12_51 ca_0 (rc_0_5 hR) dX12_bringToTable_45 ?_
        refine g_getRk hc lk_X12_200 ca_548 (rc_548_1 hR) dX12_bringToTable_48 ?_
        refine g_getRk hc lk_X12_212 ca_549 (rc_549_0 hR) dX12_bringToTable_51 ?_
        refine g_iconst hc dX12_bringToTable_54 ?_
        refine g_iload_n hc dX12_bringToTable_55 rfl ?_
        refine g_iadd hc dX12_bringToTable_56 ?_
        refine g_aldn hc dX12_bringToTable_57 rfl ?_
        refine g_getRk hc lk_X12_51 ca_0 (rc_0_5 hR) dX12_bringToTable_58 ?_
        refine g_getRvk hc lk_X12_118 ca_548 (rc_548_3 hR) dX12_bringToTable_61 ?_
        refine g_iload_n hc dX12_bringToTable_64 rfl ?_
        have hk9 := hL43 i
        have hfu9 := x_ful5 hk9
        refine g_V1r hc (c_X4_allMask w hR hgIm hlb2 (by omega)) my_X4_allMask mv_X4_allMask (la_0 hlb2) rfl rfl lm_X12_365 rfl (by decide) (Nat.le_of_ble_eq_true rfl) hm dX12_bringToTable_65 ?_
        rw [show g_shl 1 (Im ((4 + 128 * l.toNat) + 43) i) - 1 = g_shl 1 (I ((4 + 128 * l.toNat) + 43) i) - 1 from by rw [hkIm _ (by omega) (by omega) (by omega)]]
        refine g_iast' hc ca_550 (by decide) (by omega) (by omega)  dX12_bringToTable_68 (fun I6 hI6 => ?_)
        have hg4 : ∀ k j, g32 (I6 k j) := by rw [hI6]; exact x_up32 hgIm ⟨by omega, by omega⟩
        have hk4 : ∀ k : Nat, k ≠ 0 → k ≠ 549 → k ≠ 550 → I6 k = I k := fun k a c d => by rw [hI6]; funext j; rw [g_up_k d, hkIm k a c d]
        have h04 : I6 0 12 = l ∧ ∀ j : Int, j ≠ 12 → I6 0 j = I 0 j := ⟨by rw [hI6, g_up_k (by decide)]; exact h0Im.1, fun j hj => by rw [hI6, g_up_k (by decide)]; exact h0Im.2 j hj⟩
        have h94 : I6 549 5 = 0 ∧ I6 549 4 = 0 := by rw [hI6, g_up_k (by decide), g_up_k (by decide)]; exact h9Im
        have h54 : ∀ j : Int, 0 ≤ j → j < 4 → I6 550 j = I 550 j := fun j a c => by rw [hI6, g_up_i (by omega)]; exact h5Im j a c
        have hf4 : (∀ f : Int, 0 ≤ f → f < (i + 1) → I6 550 (4 + f) = g_shl 1 (I ((4 + 128 * l.toNat) + 43) f) - 1) := fun f a c => by
          rw [hI6]
          by_cases e : f = i
          · rw [e, g_up_s]
          · rw [g_up_i (by omega)]; exact hfIm f a (by omega)
        refine g_iinc_2 hc dX12_bringToTable_69 rfl ?_
        refine g_goto (tgt := 30) hc dX12_bringToTable_72 (by decide) ?_
        refine ih_30 _ _ ?_ ?_ ?_ ?_ ?_ ?_ ?_ ?_
        · omega
        · exact hg4
        · exact hk4
        · exact h04
        · exact h94
        · exact h54
        · exact hf4
        · omega
  refine lp_30 22 _ _ ?_ ?_ ?_ ?_ ?_ ?_ ?_ (?_)
  · omega
  · exact hgX
  · exact hkX
  · exact h0X
  · exact h9X
  · exact h5X
  · intro f a c; omega
  · omega
/-- the class's memory as a TASTE has been told -/
def x_tal (I : g_I) : g_I := g_up (g_up (t_M I (517 + 3 * (I 0 11).toNat) (t_read (I 2) (I 1 1))) 1 1 0) 0 11 (I 0 11 + 1)
theorem x_tM0 {I : g_I} {t : Nat} {s : g_S} {j : Int} (ht : g_taste t) : t_M I t s 0 j = I 0 j := by
  unfold g_taste at ht
  unfold t_M
  rw [g_ts_k (by decide), g_rw, if_neg (by omega), if_neg (by omega)]
set_option maxHeartbeats 4000000 in
set_option maxRecDepth 100000 in
/-- X12_text -/
theorem c_X12_text (w : g_W) {I : g_I} {J : g_J} {R : g_R} {lb tx : Nat} (hR : g_rf w R lb tx) (hx : x_lk I) (hl3 : 0 ≤ I 0 10 ∧ I 0 10 ≤ 3) (ht6 : 0 ≤ I 0 11 ∧ I 0 11 ≤ 6) {v : Int} (g1 : g32 v) (h43 : z_43 (4 + 128 * (I 0 10).toNat) I) : g_Met w g_n I J R yX12_text cX12_text 2 (some .int) 33 0 0 [(gvr w 0), (gvI v)] (fun rr nn II JJ RR => rr = some (gvI (if (v = 0 ∧ I 0 10 < 3 ∧ x_flt I v = -1) then I 0 10 else if (v = 1 ∧ I 0 11 < 6 ∧ x_flt I v = -1) then I 0 11 else -1)) ∧ nn = g_n ∧ JJ = J ∧ (¬ (v = 0 ∧ I 0 10 < 3 ∧ x_flt I v = -1) → ¬ (v = 1 ∧ I 0 11 < 6 ∧ x_flt I v = -1) → II = (if v = 0 ∧ I 0 10 < 3 then m_life (4 + 128 * (I 0 10).toNat) I else if v = 1 ∧ I 0 11 < 6 then t_M I (517 + 3 * (I 0 11).toNat) (t_read (I 2) (I 1 1)) else I) ∧ RR = R) ∧ ((v = 0 ∧ I 0 10 < 3 ∧ x_flt I v = -1) → g_rf w RR (4 + 128 * (I 0 10).toNat) tx ∧ x_cal (x_tld I) (I 0 10) II ∧ ∀ k : Nat, k ≠ 0 → k ≠ 549 → k ≠ 550 → k ≠ 697 → k ≠ 701 → II k = x_tld I k) ∧ ((v = 1 ∧ I 0 11 < 6 ∧ x_flt I v = -1) → II = x_tal I ∧ RR = R)) := by
  refine g_intro (own := RX12) [some (gvr w 0), some (gvI v)] (by decide +kernel) rfl (by decide) (Nat.le_of_ble_eq_true rfl) rfl (fun i v hv => g_args 0 i v hv rfl) (fun x hc hm => ?_)
  have hI := hx.1
  have hb0 := gl_of (i := I 0 10) hl3.1 (by omega)
  have ht0 := gt_of (i := I 0 11) ht6.1 (by omega)
  obtain ⟨y1, y2, y3⟩ := z_life_K hb0 hx
  have y43 := z_life43 hb0 hx h43
  have hf0 : v = 0 → x_flt I v = m_life (4 + 128 * (I 0 10).toNat) I 1 3 := fun z => by unfold x_flt; rw [if_pos z]
  have hf1 : v = 1 → x_flt I v = (t_read (I 2) (I 1 1)).2.1 := fun z => by unfold x_flt; rw [if_neg (by omega), if_pos z]
  have hr9 := (t_read_ok (B := I 2) (n := I 1 1) hx.2.1).2.1
  have hy9 := y2.2.2.2.1
  have k0 : m_life (4 + 128 * (I 0 10).toNat) I 0 10 = I 0 10 := by rw [y1 0 (by unfold z_in; omega)]
  refine g_iload_n hc dX12_text_0 rfl ?_
  refine g_if_ne (tgt := 67) hc dX12_text_1 (by decide) (by first | exact hI _ _ | exact hxI2 _ _ | exact hIa _ _ | exact hIb _ _ | exact g_b32 | exact g_and32 | assumption | exact ⟨by omega, by omega⟩) (fun c1 => ?_) (fun c1 => ?_)
  · skip
    refine g_iload_n hc dX12_text_67 rfl ?_
    refine g_iconst hc dX12_text_68 ?_
    refine g_icmp_ne (tgt := 126) hc dX12_text_69 (by decide) (by first | exact hI _ _ | exact hxI2 _ _ | exact hIa _ _ | exact hIb _ _ | exact g_b32 | exact g_and32 | assumption | exact ⟨by omega, by omega⟩) (by first | exact hI _ _ | exact hxI2 _ _ | exact hIa _ _ | exact hIb _ _ | exact g_b32 | exact g_and32 | assumption | exact ⟨by omega, by omega⟩) (fun c2 => ?_) (fun c2 => ?_)
    · skip
      refine g_iconst hc dX12_text_126 ?_
      refine g_iret hc hm dX12_text_127 ?_
      refine ⟨by rw [if_neg (by omega), if_neg (by omega)], rfl, rfl, fun _ _ => ⟨?_, rfl⟩, fun z => by omega, fun z => by omega⟩
      first | rw [if_pos (by omega)] | rw [if_neg (by omega), if_pos (by omega)] | rw [if_neg (by omega), if_neg (by omega)]
    · skip
      refine g_aldn hc dX12_text_72 rfl ?_
      refine g_getI' hc lk_X12_109 ca_0 11 rfl dX12_text_73 ?_
      refine g_bipush hc dX12_text_76 (by decide +kernel) ?_
      refine g_icmp_ge (tgt := 126) hc dX12_text_78 (by decide) (by first | exact hI _ _ | exact hxI2 _ _ | exact hIa _ _ | exact hIb _ _ | exact g_b32 | exact g_and32 | assumption | exact ⟨by omega, by omega⟩) (by first | exact hI _ _ | exact hxI2 _ _ | exact hIa _ _ | exact hIb _ _ | exact g_b32 | exact g_and32 | assumption | exact ⟨by omega, by omega⟩) (fun c3 => ?_) (fun c3 => ?_)
      · skip
        refine g_iconst hc dX12_text_126 ?_
        refine g_iret hc hm dX12_text_127 ?_
        refine ⟨by rw [if_neg (by omega), if_neg (by omega)], rfl, rfl, fun _ _ => ⟨?_, rfl⟩, fun z => by omega, fun z => by omega⟩
        first | rw [if_pos (by omega)] | rw [if_neg (by omega), if_pos (by omega)] | rw [if_neg (by omega), if_neg (by omega)]
      · skip
        refine g_aldn hc dX12_text_81 rfl ?_
        refine g_getRk hc lk_X12_42 ca_0 (rc_0_4 hR) dX12_text_82 ?_
        refine g_aldn hc dX12_text_85 rfl ?_
        refine g_getRk hc lk_X12_25 ca_0 (rc_0_2 hR) dX12_text_86 ?_
        refine g_aldn hc dX12_text_89 rfl ?_
        refine g_getI' hc lk_X12_109 ca_0 11 rfl dX12_text_90 ?_
        refine g_aaldk hc ca_516 (by decide) rfl rfl (by decide) (by omega) (by omega) (ra_516 hR (by omega) (by omega)) dX12_text_93 ?_
        refine g_V1r hc (c_X10_read w hR hx.1 hx.2.1 hx.2.2.1 (gt_of (i := I 0 11) (by omega) (by omega))) my_X10_read mv_X10_read ca_547 rfl rfl lm_X12_112 rfl (by decide) (Nat.le_of_ble_eq_true rfl) hm dX12_text_94 ?_
        refine g_iconst hc dX12_text_97 ?_
        refine g_icmp_ne (tgt := 126) hc dX12_text_98 (by decide) (by first | exact hI _ _ | exact hxI2 _ _ | exact hIa _ _ | exact hIb _ _ | exact g_b32 | exact g_and32 | assumption | exact ⟨by omega, by omega⟩) (by first | exact hI _ _ | exact hxI2 _ _ | exact hIa _ _ | exact hIb _ _ | exact g_b32 | exact g_and32 | assumption | exact ⟨by omega, by omega⟩) (fun c4 => ?_) (fun c4 => ?_)
        · skip
          have hq9 : ¬ x_flt I v = -1 := fun z => c4 ((hf1 (by omega)).symm.trans z)
          refine g_iconst hc dX12_text_126 ?_
          refine g_iret hc hm dX12_text_127 ?_
          refine ⟨by rw [if_neg (by omega), if_neg (by omega)], rfl, rfl, fun _ _ => ⟨?_, rfl⟩, fun z => by omega, fun z => by omega⟩
          first | rw [if_pos (by omega)] | rw [if_neg (by omega), if_pos (by omega)] | rw [if_neg (by omega), if_neg (by omega)]
        · skip
          have hq9 : x_flt I v = -1 := (hf1 (by omega)).trans c4
          refine g_aldn hc dX12_text_101 rfl ?_
          refine g_getRk hc lk_X12_10 ca_0 (rc_0_0 hR) dX12_text_102 ?_
          refine g_iconst hc dX12_text_105 ?_
          refine g_putI' hc lk_X12_95 ca_1 1 rfl dX12_text_106 (fun I3 hI3 => ?_)
          have hE106 := hI3
          have hc12 : I3 0 11 = I 0 11 := by rw [hI3, g_up_k (by decide)]; exact x_tM0 ht0
          refine g_aldn hc dX12_text_109 rfl ?_
          refine g_dup hc dX12_text_110 rfl ?_
          refine g_getI' hc lk_X12_109 ca_0 11 rfl dX12_text_111 ?_
          rw [show I3 0 11 = I 0 11 from hc12]
          refine g_iconst hc dX12_text_114 ?_
          refine g_iadd hc dX12_text_115 ?_
          refine g_putI' hc lk_X12_109 ca_0 11 rfl dX12_text_116 (fun I4 hI4 => ?_)
          have hT8 : I4 = x_tal I := by rw [hI4, hE106]; rfl
          have hc13 : I4 0 11 = I 0 11 + 1 := by rw [hI4, g_up_s]
          refine g_aldn hc dX12_text_119 rfl ?_
          refine g_getI' hc lk_X12_109 ca_0 11 rfl dX12_text_120 ?_
          rw [show I4 0 11 = I 0 11 + 1 from hc13]
          refine g_iconst hc dX12_text_123 ?_
          refine g_isub hc dX12_text_124 ?_
          refine g_iret hc hm dX12_text_125 ?_
          exact ⟨by rw [if_neg (by omega), if_pos ⟨by omega, by omega, hq9⟩, show I 0 11 + 1 - 1 = I 0 11 by omega], rfl, rfl, fun _ z => absurd ⟨by omega, by omega, hq9⟩ z, fun z => by omega, fun _ => ⟨hT8, rfl⟩⟩
  · skip
    refine g_aldn hc dX12_text_4 rfl ?_
    refine g_getI' hc lk_X12_102 ca_0 10 rfl dX12_text_5 ?_
    refine g_iconst hc dX12_text_8 ?_
    refine g_icmp_ge (tgt := 67) hc dX12_text_9 (by decide) (by first | exact hI _ _ | exact hxI2 _ _ | exact hIa _ _ | exact hIb _ _ | exact g_b32 | exact g_and32 | assumption | exact ⟨by omega, by omega⟩) (by first | exact hI _ _ | exact hxI2 _ _ | exact hIa _ _ | exact hIb _ _ | exact g_b32 | exact g_and32 | assumption | exact ⟨by omega, by omega⟩) (fun c5 => ?_) (fun c5 => ?_)
    · skip
      refine g_iload_n hc dX12_text_67 rfl ?_
      refine g_iconst hc dX12_text_68 ?_
      refine g_icmp_ne (tgt := 126) hc dX12_text_69 (by decide) (by first | exact hI _ _ | exact hxI2 _ _ | exact hIa _ _ | exact hIb _ _ | exact g_b32 | exact g_and32 | assumption | exact ⟨by omega, by omega⟩) (by first | exact hI _ _ | exact hxI2 _ _ | exact hIa _ _ | exact hIb _ _ | exact g_b32 | exact g_and32 | assumption | exact ⟨by omega, by omega⟩) (fun c6 => ?_) (fun c6 => ?_)
      · skip
        refine g_iconst hc dX12_text_126 ?_
        refine g_iret hc hm dX12_text_127 ?_
        refine ⟨by rw [if_neg (by omega), if_neg (by omega)], rfl, rfl, fun _ _ => ⟨?_, rfl⟩, fun z => by omega, fun z => by omega⟩
        first | rw [if_pos (by omega)] | rw [if_neg (by omega), if_pos (by omega)] | rw [if_neg (by omega), if_neg (by omega)]
      · exfalso; omega
    · skip
      refine g_aldn hc dX12_text_12 rfl ?_
      refine g_getRk hc lk_X12_35 ca_0 (rc_0_3 hR) dX12_text_13 ?_
      refine g_aldn hc dX12_text_16 rfl ?_
      refine g_getRk hc lk_X12_18 ca_0 (rc_0_1 hR) dX12_text_17 ?_
      refine g_aldn hc dX12_text_20 rfl ?_
      refine g_getI' hc lk_X12_102 ca_0 10 rfl dX12_text_21 ?_
      refine g_aaldk hc ca_3 (by decide) rfl rfl (by decide) (by omega) (by omega) (ra_3 hR (by omega) (by omega)) dX12_text_24 ?_
      refine g_V1r hc (c_X5_read w hR (gl_of (i := I 0 10) (by omega) (by omega)) hx) my_X5_read mv_X5_read ca_538 rfl rfl lm_X12_105 rfl (by decide) (Nat.le_of_ble_eq_true rfl) hm dX12_text_25 ?_
      refine g_iconst hc dX12_text_28 ?_
      refine g_icmp_ne (tgt := 67) hc dX12_text_29 (by decide) (by first | exact hI _ _ | exact hxI2 _ _ | exact hIa _ _ | exact hIb _ _ | exact g_b32 | exact g_and32 | assumption | exact ⟨by omega, by omega⟩) (by first | exact hI _ _ | exact hxI2 _ _ | exact hIa _ _ | exact hIb _ _ | exact g_b32 | exact g_and32 | assumption | exact ⟨by omega, by omega⟩) (fun c7 => ?_) (fun c7 => ?_)
      · skip
        have hq9 : ¬ x_flt I v = -1 := fun z => c7 ((hf0 (by omega)).symm.trans z)
        refine g_iload_n hc dX12_text_67 rfl ?_
        refine g_iconst hc dX12_text_68 ?_
        refine g_icmp_ne (tgt := 126) hc dX12_text_69 (by decide) (by first | exact hI _ _ | exact hxI2 _ _ | exact hIa _ _ | exact hIb _ _ | exact g_b32 | exact g_and32 | assumption | exact ⟨by omega, by omega⟩) (by first | exact hI _ _ | exact hxI2 _ _ | exact hIa _ _ | exact hIb _ _ | exact g_b32 | exact g_and32 | assumption | exact ⟨by omega, by omega⟩) (fun c8 => ?_) (fun c8 => ?_)
        · skip
          refine g_iconst hc dX12_text_126 ?_
          refine g_iret hc hm dX12_text_127 ?_
          refine ⟨by rw [if_neg (by omega), if_neg (by omega)], rfl, rfl, fun _ _ => ⟨?_, rfl⟩, fun z => by omega, fun z => by omega⟩
          first | rw [if_pos (by omega)] | rw [if_neg (by omega), if_pos (by omega)] | rw [if_neg (by omega), if_neg (by omega)]
        · exfalso; omega
      · skip
        have hq9 : x_flt I v = -1 := (hf0 (by omega)).trans c7
        refine g_aldn hc dX12_text_32 rfl ?_
        refine g_getRk hc lk_X12_10 ca_0 (rc_0_0 hR) dX12_text_33 ?_
        refine g_iconst hc dX12_text_36 ?_
        refine g_putI' hc lk_X12_95 ca_1 1 rfl dX12_text_37 (fun I5 hI5 => ?_)
        have hE37 := hI5
        have hc10 : I5 0 10 = I 0 10 := by rw [hI5, g_up_k (by decide)]; exact k0
        refine g_aldn hc dX12_text_40 rfl ?_
        refine g_dup hc dX12_text_41 rfl ?_
        refine g_getI' hc lk_X12_102 ca_0 10 rfl dX12_text_42 ?_
        rw [show I5 0 10 = I 0 10 from hc10]
        refine g_iconst hc dX12_text_45 ?_
        refine g_iadd hc dX12_text_46 ?_
        refine g_putI' hc lk_X12_102 ca_0 10 rfl dX12_text_47 (fun I6 hI6 => ?_)
        have hT9 : I6 = x_tld I := by rw [hI6, hE37]; rfl
        have hc11 : I6 0 10 = I 0 10 + 1 := by rw [hI6, g_up_s]
        have hg9 : ∀ k j, g32 (I6 k j) := by rw [hI6, hE37]; exact x_up32 (x_up32 y2.1 ⟨by decide, by decide⟩) ⟨by omega, by omega⟩
        have eb9 : ∀ k : Nat, k ≠ 0 → k ≠ 1 → I6 k = m_life (4 + 128 * (I 0 10).toNat) I k := fun k a c => by rw [hI6, hE37]; funext j; rw [g_up_k a, g_up_k c]
        refine g_aldn hc dX12_text_50 rfl ?_
        refine g_aldn hc dX12_text_51 rfl ?_
        refine g_getI' hc lk_X12_102 ca_0 10 rfl dX12_text_52 ?_
        rw [show I6 0 10 = I 0 10 + 1 from hc11]
        refine g_iconst hc dX12_text_55 ?_
        refine g_isub hc dX12_text_56 ?_
        rw [show (I 0 10 + 1) - 1 = I 0 10 from (show I 0 10 + 1 - 1 = I 0 10 by omega)]
        refine g_V1 hc (c2_X12_bringToTable w hR hg9 (l := I 0 10) ⟨by omega, by omega⟩ (by rw [eb9 _ (by omega) (by omega)]; exact y2.2.2.2.2.2.2.2.2) (z_43_eq y43 (eb9 _ (by omega) (by omega)))) my_X12_bringToTable mv_X12_bringToTable ca_0 rfl rfl lm_X12_115 rfl (by decide) (Nat.le_of_ble_eq_true rfl) hm dX12_text_57 (fun rB nB IB JB RB hpB => ?_)
        obtain ⟨rfl, rfl, rfl, hRB, hcB, hkB⟩ := hpB
        rw [hT9] at hcB hkB
        have hc14 : IB 0 10 = I 0 10 + 1 := by
          rw [hcB.2.2.1 10 (by decide), ← hT9]; exact hc11
        clear hR
        have hR := hRB
        refine g_aldn hc dX12_text_60 rfl ?_
        refine g_getI' hc lk_X12_102 ca_0 10 rfl dX12_text_61 ?_
        rw [show IB 0 10 = I 0 10 + 1 from hc14]
        refine g_iconst hc dX12_text_64 ?_
        refine g_isub hc dX12_text_65 ?_
        refine g_iret hc hm dX12_text_66 ?_
        exact ⟨by rw [if_pos ⟨by omega, by omega, hq9⟩, show I 0 10 + 1 - 1 = I 0 10 by omega], rfl, rfl, fun z => absurd ⟨by omega, by omega, hq9⟩ z, fun _ => ⟨hR, hcB, hkB⟩, fun z => by omega⟩
