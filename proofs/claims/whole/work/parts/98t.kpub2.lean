theorem g_rf_lb0 : (∀ q ∈ g_rtab, ¬ (q.1 = 548 ∧ q.2.1 = 3)) ∧ ∀ q ∈ g_etab, ¬ (q.1 = 548 ∧ q.2.1 = 3) := by decide +kernel
/-- another LIFE comes to the TABLE -/
theorem g_rf_lb {w : g_W} {R : g_R} {lb tx l2 : Nat} (h : g_rf w R lb tx) : g_rf w (g_upR R 548 3 (some (w.2.2.2.1 + l2))) l2 tx := by
  obtain ⟨h1, h2, h3, h4, h5, h6, h7, h8, h9⟩ := h
  have e : ∀ (a : Nat) (j : Int), a ≠ 548 → g_upR R 548 3 (some (w.2.2.2.1 + l2)) a j = R a j := fun a j ha => g_upR_k ha
  refine ⟨fun q hq => ?_, fun q hq => ?_, fun b hb => ?_, fun t ht => ?_, fun i a c => ?_, fun i a c => ?_, fun i a c => ?_, g_upR_s, ?_⟩
  · show (if q.1 = 548 ∧ q.2.1 = 3 then _ else _) = _
    rw [if_neg (g_rf_lb0.1 q hq)]; exact h1 q hq
  · show (if q.1 = 548 ∧ q.2.1 = 3 then _ else _) = _
    rw [if_neg (g_rf_lb0.2 q hq)]; exact h2 q hq
  · have hb2 := hb
    unfold g_life at hb2
    have h := h3 b hb
    unfold g_rfL at h ⊢
    have e0 : g_upR R 548 3 (some (w.2.2.2.1 + l2)) b = R b := funext fun j => e b j (by omega)
    have e1 : g_upR R 548 3 (some (w.2.2.2.1 + l2)) (b + 1) = R (b + 1) := funext fun j => e _ j (by omega)
    have e2 : g_upR R 548 3 (some (w.2.2.2.1 + l2)) (b + 15) = R (b + 15) := funext fun j => e _ j (by omega)
    have e3 : g_upR R 548 3 (some (w.2.2.2.1 + l2)) (b + 28) = R (b + 28) := funext fun j => e _ j (by omega)
    have e4 : g_upR R 548 3 (some (w.2.2.2.1 + l2)) (b + 46) = R (b + 46) := funext fun j => e _ j (by omega)
    rw [e0, e1, e2, e3, e4]
    exact h
  · have ht2 := ht
    unfold g_taste at ht2
    rw [e t 0 (by omega), e t 1 (by omega)]
    exact h4 t ht
  · rw [e 3 i (by decide)]; exact h5 i a c
  · rw [e 516 i (by decide)]; exact h6 i a c
  · rw [e 690 i (by decide)]; exact h7 i a c
  · rw [e 703 5 (by decide)]; exact h9
/-- who is THERE doesn't hang on what is put by -/
theorem x_thb_cg {I I' : g_I} {b : Nat} (hL : g_lok I b) (hb : g_life b) (ek : ∀ k : Nat, k ≠ 549 → k ≠ 551 → I' k = I k) : g_thb I' b = g_thb I b := by
  unfold g_life at hb
  have e : ∀ o : Nat, o < 128 → I' (b + o) = I (b + o) := fun o ho => ek _ (by omega) (by omega)
  have e0 : I' b = I b := e 0 (by omega)
  have hn := hL.1
  unfold g_thb
  rw [e0]
  refine g_ors_cg _ (fun s s0 s1 => ?_)
  have e16 : I' (b + 16 + s.toNat) = I (b + 16 + s.toNat) := by rw [Nat.add_assoc]; exact e _ (by omega)
  have e29 : I' (b + 29 + s.toNat) = I (b + 29 + s.toNat) := by rw [Nat.add_assoc]; exact e _ (by omega)
  unfold g_thr
  rw [e16, e29, e 14 (by omega), ek 550 (by decide) (by decide)]
set_option maxHeartbeats 4000000 in
set_option maxRecDepth 100000 in
/-- X12_isSetting -/
theorem c_X12_isSetting (w : g_W) {I : g_I} {J : g_J} {R : g_R} {lb tx : Nat} (hR : g_rf w R lb tx) (hlb : g_life lb) {I2 : g_I} (hI : ∀ k j, g32 (I k j)) (hsI2 : g_off I I2) (hxI2 : ∀ k j, g32 (I2 k j)) (hC : g_cin I lb) (hTb : I 0 12 = -1 ∨ (0 ≤ I 0 12 ∧ I 0 12 ≤ 2)) {s i : Int} (g1 : g32 s) (g2 : g32 i) : g_Met w g_n I2 J R yX12_isSetting cX12_isSetting 3 (some .boolean) 1 0 0 [(gvr w 0), (gvI s), (gvI i)] (g_post (some (gvI (g_b (((s = 0 ∨ s = 3) → 0 ≤ i ∧ i ≤ 3) ∧ (¬ (s = 0 ∨ s = 3) → -1 ≤ i ∧ i < I 0 11))))) g_n I2 J R) := by
  refine g_intro (own := RX12) [some (gvr w 0), some (gvI s), some (gvI i)] (by decide +kernel) rfl (by decide) (Nat.le_of_ble_eq_true rfl) rfl (fun i v hv => g_args 0 i v hv rfl) (fun x hc hm => ?_)
  have hL := hC.1
  obtain ⟨hn0, hn1, hLs, hLf⟩ := id hL
  obtain ⟨-, hC1, hC2, hC3, hC4, hC5, hC6, hC7⟩ := id hC
  have hlb5 := hlb
  unfold g_life at hlb5
  have hdI2 : ∀ k : Nat, ¬ g_sc k → I2 k = I2 k := fun _ _ => rfl
  refine g_iload_n hc dX12_isSetting_0 rfl ?_
  refine g_if_eq (tgt := 9) hc dX12_isSetting_1 (by decide) (by first | exact hI _ _ | exact hxI2 _ _ | exact hIa _ _ | exact hIb _ _ | exact g_b32 | exact g_and32 | assumption | exact ⟨by omega, by omega⟩) (fun c1 => ?_) (fun c1 => ?_)
  · skip
    refine g_iload_n hc dX12_isSetting_9 rfl ?_
    refine g_if_lt (tgt := 22) hc dX12_isSetting_10 (by decide) (by first | exact hI _ _ | exact hxI2 _ _ | exact hIa _ _ | exact hIb _ _ | exact g_b32 | exact g_and32 | assumption | exact ⟨by omega, by omega⟩) (fun c2 => ?_) (fun c2 => ?_)
    · skip
      refine g_iconst hc dX12_isSetting_22 ?_
      refine g_zret hc hm (by first | exact g_b01 | omega) dX12_isSetting_23 ?_
      first | (exfalso; omega) | (exfalso; omega) | exact g_postE (by rw [g_b1 (by omega)]) | exact g_postE (by rw [g_b0 (by omega)])
    · skip
      refine g_iload_n hc dX12_isSetting_13 rfl ?_
      refine g_iconst hc dX12_isSetting_14 ?_
      refine g_icmp_gt (tgt := 22) hc dX12_isSetting_15 (by decide) (by first | exact hI _ _ | exact hxI2 _ _ | exact hIa _ _ | exact hIb _ _ | exact g_b32 | exact g_and32 | assumption | exact ⟨by omega, by omega⟩) (by first | exact hI _ _ | exact hxI2 _ _ | exact hIa _ _ | exact hIb _ _ | exact g_b32 | exact g_and32 | assumption | exact ⟨by omega, by omega⟩) (fun c3 => ?_) (fun c3 => ?_)
      · skip
        refine g_iconst hc dX12_isSetting_22 ?_
        refine g_zret hc hm (by first | exact g_b01 | omega) dX12_isSetting_23 ?_
        first | (exfalso; omega) | (exfalso; omega) | exact g_postE (by rw [g_b1 (by omega)]) | exact g_postE (by rw [g_b0 (by omega)])
      · skip
        refine g_iconst hc dX12_isSetting_18 ?_
        refine g_goto (tgt := 23) hc dX12_isSetting_19 (by decide) ?_
        refine g_zret hc hm (by first | exact g_b01 | omega) dX12_isSetting_23 ?_
        first | (exfalso; omega) | (exfalso; omega) | exact g_postE (by rw [g_b1 (by omega)]) | exact g_postE (by rw [g_b0 (by omega)])
  · skip
    refine g_iload_n hc dX12_isSetting_4 rfl ?_
    refine g_iconst hc dX12_isSetting_5 ?_
    refine g_icmp_ne (tgt := 24) hc dX12_isSetting_6 (by decide) (by first | exact hI _ _ | exact hxI2 _ _ | exact hIa _ _ | exact hIb _ _ | exact g_b32 | exact g_and32 | assumption | exact ⟨by omega, by omega⟩) (by first | exact hI _ _ | exact hxI2 _ _ | exact hIa _ _ | exact hIb _ _ | exact g_b32 | exact g_and32 | assumption | exact ⟨by omega, by omega⟩) (fun c4 => ?_) (fun c4 => ?_)
    · skip
      refine g_iload_n hc dX12_isSetting_24 rfl ?_
      refine g_iconst hc dX12_isSetting_25 ?_
      refine g_icmp_eq (tgt := 37) hc dX12_isSetting_26 (by decide) (by first | exact hI _ _ | exact hxI2 _ _ | exact hIa _ _ | exact hIb _ _ | exact g_b32 | exact g_and32 | assumption | exact ⟨by omega, by omega⟩) (by first | exact hI _ _ | exact hxI2 _ _ | exact hIa _ _ | exact hIb _ _ | exact g_b32 | exact g_and32 | assumption | exact ⟨by omega, by omega⟩) (fun c5 => ?_) (fun c5 => ?_)
      · skip
        refine g_iconst hc dX12_isSetting_37 ?_
        refine g_goto (tgt := 42) hc dX12_isSetting_38 (by decide) ?_
        refine g_zret hc hm (by first | exact g_b01 | omega) dX12_isSetting_42 ?_
        first | (exfalso; omega) | (exfalso; omega) | exact g_postE (by rw [g_b1 (by omega)]) | exact g_postE (by rw [g_b0 (by omega)])
      · skip
        refine g_aldn hc dX12_isSetting_29 rfl ?_
        refine g_iload_n hc dX12_isSetting_30 rfl ?_
        refine g_V1r hc (c_X12_isTaste w hR hlb hI hsI2 hxI2 hC hTb (by first | assumption | exact hI _ _ | exact ⟨by omega, by omega⟩)) my_X12_isTaste mv_X12_isTaste ca_0 rfl rfl lm_X12_274 rfl (by decide) (Nat.le_of_ble_eq_true rfl) hm dX12_isSetting_31 ?_
        refine g_ifb_eq (tgt := 41) hc dX12_isSetting_34 (by decide)  (fun c6 => ?_) (fun c6 => ?_)
        · skip
          refine g_iconst hc dX12_isSetting_41 ?_
          refine g_zret hc hm (by first | exact g_b01 | omega) dX12_isSetting_42 ?_
          first | (exfalso; omega) | (exfalso; omega) | exact g_postE (by rw [g_b1 (by omega)]) | exact g_postE (by rw [g_b0 (by omega)])
        · skip
          refine g_iconst hc dX12_isSetting_37 ?_
          refine g_goto (tgt := 42) hc dX12_isSetting_38 (by decide) ?_
          refine g_zret hc hm (by first | exact g_b01 | omega) dX12_isSetting_42 ?_
          first | (exfalso; omega) | (exfalso; omega) | exact g_postE (by rw [g_b1 (by omega)]) | exact g_postE (by rw [g_b0 (by omega)])
    · skip
      refine g_iload_n hc dX12_isSetting_9 rfl ?_
      refine g_if_lt (tgt := 22) hc dX12_isSetting_10 (by decide) (by first | exact hI _ _ | exact hxI2 _ _ | exact hIa _ _ | exact hIb _ _ | exact g_b32 | exact g_and32 | assumption | exact ⟨by omega, by omega⟩) (fun c7 => ?_) (fun c7 => ?_)
      · skip
        refine g_iconst hc dX12_isSetting_22 ?_
        refine g_zret hc hm (by first | exact g_b01 | omega) dX12_isSetting_23 ?_
        first | (exfalso; omega) | (exfalso; omega) | exact g_postE (by rw [g_b1 (by omega)]) | exact g_postE (by rw [g_b0 (by omega)])
      · skip
        refine g_iload_n hc dX12_isSetting_13 rfl ?_
        refine g_iconst hc dX12_isSetting_14 ?_
        refine g_icmp_gt (tgt := 22) hc dX12_isSetting_15 (by decide) (by first | exact hI _ _ | exact hxI2 _ _ | exact hIa _ _ | exact hIb _ _ | exact g_b32 | exact g_and32 | assumption | exact ⟨by omega, by omega⟩) (by first | exact hI _ _ | exact hxI2 _ _ | exact hIa _ _ | exact hIb _ _ | exact g_b32 | exact g_and32 | assumption | exact ⟨by omega, by omega⟩) (fun c8 => ?_) (fun c8 => ?_)
        · skip
          refine g_iconst hc dX12_isSetting_22 ?_
          refine g_zret hc hm (by first | exact g_b01 | omega) dX12_isSetting_23 ?_
          first | (exfalso; omega) | (exfalso; omega) | exact g_postE (by rw [g_b1 (by omega)]) | exact g_postE (by rw [g_b0 (by omega)])
        · skip
          refine g_iconst hc dX12_isSetting_18 ?_
          refine g_goto (tgt := 23) hc dX12_isSetting_19 (by decide) ?_
          refine g_zret hc hm (by first | exact g_b01 | omega) dX12_isSetting_23 ?_
          first | (exfalso; omega) | (exfalso; omega) | exact g_postE (by rw [g_b1 (by omega)]) | exact g_postE (by rw [g_b0 (by omega)])
set_option maxHeartbeats 4000000 in
set_option maxRecDepth 100000 in
/-- X12_set -/
theorem c_X12_set (w : g_W) {I : g_I} {J : g_J} {R : g_R} {lb tx : Nat} (hR : g_rf w R lb tx) (hlb : g_life lb) (hI : ∀ k j, g32 (I k j)) (hC : g_cin I lb) (hTb : I 0 12 = -1 ∨ (0 ≤ I 0 12 ∧ I 0 12 ≤ 2)) {k v : Int} (g1 : g32 k) (g2 : g32 v) (hA : 0 ≤ I 549 5 ∧ I 549 5 ≤ 40) : g_Met w g_n I J R yX12_set cX12_set 3 (some .int) 2 0 0 [(gvr w 0), (gvI k), (gvI v)] (g_post (some (gvI (if (x_sg I k v) then g_tlf I 549 5 + 1 else -1))) g_n (if (x_sg I k v) then g_tell I k v else I) J R) := by
  refine g_intro (own := RX12) [some (gvr w 0), some (gvI k), some (gvI v)] (by decide +kernel) rfl (by decide) (Nat.le_of_ble_eq_true rfl) rfl (fun i v hv => g_args 0 i v hv rfl) (fun x hc hm => ?_)
  have hsI : g_off I I := g_off_rf
  have hxI := hI
  have hL := hC.1
  obtain ⟨hn0, hn1, hLs, hLf⟩ := id hL
  obtain ⟨-, hC1, hC2, hC3, hC4, hC5, hC6, hC7⟩ := id hC
  have hlb5 := hlb
  unfold g_life at hlb5
  refine g_aldn hc dX12_set_0 rfl ?_
  refine g_getI' hc lk_X12_87 ca_0 12 rfl dX12_set_1 ?_
  refine g_iconst hc dX12_set_4 ?_
  refine g_icmp_eq (tgt := 26) hc dX12_set_5 (by decide) (by first | exact hI _ _ | exact hxI2 _ _ | exact hIa _ _ | exact hIb _ _ | exact g_b32 | exact g_and32 | assumption | exact ⟨by omega, by omega⟩) (by first | exact hI _ _ | exact hxI2 _ _ | exact hIa _ _ | exact hIb _ _ | exact g_b32 | exact g_and32 | assumption | exact ⟨by omega, by omega⟩) (fun c1 => ?_) (fun c1 => ?_)
  · skip
    have hng : ¬ (x_sg I k v) := fun z => by
      obtain ⟨z1, z2, z3, z4, z5⟩ := z
      omega
    refine g_iconst hc dX12_set_26 ?_
    refine g_iret hc hm dX12_set_27 ?_
    exact ⟨by rw [if_neg hng], rfl, by rw [if_neg hng], rfl, rfl⟩
  · skip
    refine g_iload_n hc dX12_set_8 rfl ?_
    refine g_if_lt (tgt := 26) hc dX12_set_9 (by decide) (by first | exact hI _ _ | exact hxI2 _ _ | exact hIa _ _ | exact hIb _ _ | exact g_b32 | exact g_and32 | assumption | exact ⟨by omega, by omega⟩) (fun c2 => ?_) (fun c2 => ?_)
    · skip
      have hng : ¬ (x_sg I k v) := fun z => by
        obtain ⟨z1, z2, z3, z4, z5⟩ := z
        omega
      refine g_iconst hc dX12_set_26 ?_
      refine g_iret hc hm dX12_set_27 ?_
      exact ⟨by rw [if_neg hng], rfl, by rw [if_neg hng], rfl, rfl⟩
    · skip
      refine g_iload_n hc dX12_set_12 rfl ?_
      refine g_iconst hc dX12_set_13 ?_
      refine g_icmp_gt (tgt := 26) hc dX12_set_14 (by decide) (by first | exact hI _ _ | exact hxI2 _ _ | exact hIa _ _ | exact hIb _ _ | exact g_b32 | exact g_and32 | assumption | exact ⟨by omega, by omega⟩) (by first | exact hI _ _ | exact hxI2 _ _ | exact hIa _ _ | exact hIb _ _ | exact g_b32 | exact g_and32 | assumption | exact ⟨by omega, by omega⟩) (fun c3 => ?_) (fun c3 => ?_)
      · skip
        have hng : ¬ (x_sg I k v) := fun z => by
          obtain ⟨z1, z2, z3, z4, z5⟩ := z
          omega
        refine g_iconst hc dX12_set_26 ?_
        refine g_iret hc hm dX12_set_27 ?_
        exact ⟨by rw [if_neg hng], rfl, by rw [if_neg hng], rfl, rfl⟩
      · skip
        refine g_aldn hc dX12_set_17 rfl ?_
        refine g_iload_n hc dX12_set_18 rfl ?_
        refine g_iload_n hc dX12_set_19 rfl ?_
        refine g_V2r hc (c_X12_isSetting w hR hlb hI hsI hxI hC hTb (by first | assumption | exact hI _ _ | exact ⟨by omega, by omega⟩) (by first | assumption | exact hI _ _ | exact ⟨by omega, by omega⟩)) my_X12_isSetting mv_X12_isSetting ca_0 rfl rfl lm_X12_209 rfl (by decide) (Nat.le_of_ble_eq_true rfl) hm dX12_set_20 ?_
        refine g_ifb_ne (tgt := 28) hc dX12_set_23 (by decide)  (fun c4 => ?_) (fun c4 => ?_)
        · skip
          refine g_aldn hc dX12_set_28 rfl ?_
          refine g_getRk hc lk_X12_51 ca_0 (rc_0_5 hR) dX12_set_29 ?_
          refine g_getRk hc lk_X12_200 ca_548 (rc_548_1 hR) dX12_set_32 ?_
          refine g_getRk hc lk_X12_212 ca_549 (rc_549_0 hR) dX12_set_35 ?_
          refine g_iload_n hc dX12_set_38 rfl ?_
          refine g_iald hc ca_550 (by decide) (by omega) (by omega) dX12_set_39 ?_
          refine g_iload_n hc dX12_set_40 rfl ?_
          refine g_icmp_ne (tgt := 48) hc dX12_set_41 (by decide) (by first | exact hI _ _ | exact hxI2 _ _ | exact hIa _ _ | exact hIb _ _ | exact g_b32 | exact g_and32 | assumption | exact ⟨by omega, by omega⟩) (by first | exact hI _ _ | exact hxI2 _ _ | exact hIa _ _ | exact hIb _ _ | exact g_b32 | exact g_and32 | assumption | exact ⟨by omega, by omega⟩) (fun c5 => ?_) (fun c5 => ?_)
          · skip
            have hpg : (x_sg I k v) := ⟨by omega, by omega, by omega, by omega, c5⟩
            refine g_aldn hc dX12_set_48 rfl ?_
            refine g_getRk hc lk_X12_51 ca_0 (rc_0_5 hR) dX12_set_49 ?_
            refine g_getRk hc lk_X12_200 ca_548 (rc_548_1 hR) dX12_set_52 ?_
            refine g_iload_n hc dX12_set_55 rfl ?_
            refine g_iload_n hc dX12_set_56 rfl ?_
            refine g_V2r hc (c_X6_tell w hR hI (by omega) (by omega)) my_X6_tell mv_X6_tell ca_549 rfl rfl lm_X12_204 rfl (by decide) (Nat.le_of_ble_eq_true rfl) hm dX12_set_57 ?_
            refine g_iret hc hm dX12_set_60 ?_
            exact ⟨by rw [if_pos hpg], rfl, by rw [if_pos hpg], rfl, rfl⟩
          · skip
            have hng : ¬ (x_sg I k v) := fun z => z.2.2.2.2 c5
            refine g_iconst hc dX12_set_44 ?_
            refine g_goto (tgt := 60) hc dX12_set_45 (by decide) ?_
            refine g_iret hc hm dX12_set_60 ?_
            exact ⟨by rw [if_neg hng], rfl, by rw [if_neg hng], rfl, rfl⟩
        · skip
          have hng : ¬ (x_sg I k v) := fun z => by
            obtain ⟨z1, z2, z3, z4, z5⟩ := z
            omega
          refine g_iconst hc dX12_set_26 ?_
          refine g_iret hc hm dX12_set_27 ?_
          exact ⟨by rw [if_neg hng], rfl, by rw [if_neg hng], rfl, rfl⟩
set_option maxHeartbeats 4000000 in
set_option maxRecDepth 100000 in
/-- X12_open -/
theorem c_X12_open (w : g_W) {I : g_I} {J : g_J} {R : g_R} {lb tx : Nat} (hR : g_rf w R lb tx) (hlb : g_life lb) (hI : ∀ k j, g32 (I k j)) (hC : g_cin I lb) (hTb : I 0 12 = -1 ∨ (0 ≤ I 0 12 ∧ I 0 12 ≤ 2)) {f r b : Int} (g1 : g32 f) (g2 : g32 r) (hb : b = 0 ∨ b = 1) (hA : 0 ≤ I 549 5 ∧ I 549 5 ≤ 40) : g_Met w g_n I J R yX12_open cX12_open 5 (some .int) 2 0 0 [(gvr w 0), (gvI f), (gvI r), (gvI b)] (g_post (some (gvI (if (x_og I lb f r b) then g_tlf I 549 5 + 1 else -1))) g_n (if (x_og I lb f r b) then (g_tell I (4 + f) (g_xor (I 550 (4 + f)) (g_shl 1 r))) else I) J R) := by
  refine g_intro (own := RX12) [some (gvr w 0), some (gvI f), some (gvI r), some (gvI b), none] (by decide +kernel) rfl (by decide) (Nat.le_of_ble_eq_true rfl) rfl (fun i v hv => g_args 1 i v hv rfl) (fun x hc hm => ?_)
  have hsI : g_off I I := g_off_rf
  have hxI := hI
  have hL := hC.1
  obtain ⟨hn0, hn1, hLs, hLf⟩ := id hL
  obtain ⟨-, hC1, hC2, hC3, hC4, hC5, hC6, hC7⟩ := id hC
  have hlb5 := hlb
  unfold g_life at hlb5
  refine g_aldn hc dX12_open_0 rfl ?_
  refine g_getRk hc lk_X12_51 ca_0 (rc_0_5 hR) dX12_open_1 ?_
  refine g_getRvk hc lk_X12_118 ca_548 (rc_548_3 hR) dX12_open_4 ?_
  refine g_iload_n hc dX12_open_7 rfl ?_
  refine g_iload_n hc dX12_open_8 rfl ?_
  refine g_V2r hc (c_X4_hasBranch w hR hI hlb (by first | exact hI _ _ | exact hxI2 _ _ | exact hIa _ _ | exact hIb _ _ | exact g_b32 | exact g_and32 | assumption | exact ⟨by omega, by omega⟩) (by first | exact hI _ _ | exact hxI2 _ _ | exact hIa _ _ | exact hIb _ _ | exact g_b32 | exact g_and32 | assumption | exact ⟨by omega, by omega⟩) (by first | omega | (rw [g_off_rf _ (g_nl hlb (by omega) (by omega))]; omega))) my_X4_hasBranch mv_X4_hasBranch (la_0 hlb) rfl rfl lm_X12_179 rfl (by decide) (Nat.le_of_ble_eq_true rfl) hm dX12_open_9 ?_
  refine g_ifb_eq (tgt := 28) hc dX12_open_12 (by decide)  (fun c1 => ?_) (fun c1 => ?_)
  · skip
    have hng : ¬ (x_og I lb f r b) := fun z => c1 z.1
    refine g_iconst hc dX12_open_28 ?_
    refine g_iret hc hm dX12_open_29 ?_
    exact ⟨by rw [if_neg hng], rfl, by rw [if_neg hng], rfl, rfl⟩
  · skip
    have hbr := c1
    obtain ⟨hk2, hk1, hy, hit⟩ := hLf f hbr.1.1 hbr.1.2
    refine g_aldn hc dX12_open_15 rfl ?_
    refine g_getRk hc lk_X12_51 ca_0 (rc_0_5 hR) dX12_open_16 ?_
    refine g_iload_n hc dX12_open_19 rfl ?_
    refine g_iload_n hc dX12_open_20 rfl ?_
    refine g_V2r hc (c_X7_isOpen w hR hI (by omega)) my_X7_isOpen mv_X7_isOpen ca_548 rfl rfl lm_X12_183 rfl (by decide) (Nat.le_of_ble_eq_true rfl) hm dX12_open_21 ?_
    refine g_iload_n hc dX12_open_24 rfl ?_
    refine g_icmp_ne (tgt := 30) hc dX12_open_25 (by decide) g_b32 (by exact ⟨by omega, by omega⟩) (fun c2 => ?_) (fun c2 => ?_)
    · skip
      have hne := c2
      refine g_aldn hc dX12_open_30 rfl ?_
      refine g_getRk hc lk_X12_51 ca_0 (rc_0_5 hR) dX12_open_31 ?_
      refine g_iload_n hc dX12_open_34 rfl ?_
      refine g_V1r hc (c_X7_openMask w hR hI (by omega)) my_X7_openMask mv_X7_openMask ca_548 rfl rfl lm_X12_165 rfl (by decide) (Nat.le_of_ble_eq_true rfl) hm dX12_open_35 ?_
      refine g_iconst hc dX12_open_38 ?_
      refine g_iload_n hc dX12_open_39 rfl ?_
      refine g_ishl hc dX12_open_40 ?_
      refine g_ixor hc dX12_open_41 ?_
      refine g_istore_4 hc dX12_open_42 rfl ?_
      refine g_iload hc dX12_open_44 rfl ?_
      refine g_if_ne (tgt := 53) hc dX12_open_46 (by decide) (by first | exact g_xor32 | exact g32_of _) (fun c3 => ?_) (fun c3 => ?_)
      · skip
        have hpg : (x_og I lb f r b) := ⟨hbr, hne, c3⟩
        refine g_aldn hc dX12_open_53 rfl ?_
        refine g_getRk hc lk_X12_51 ca_0 (rc_0_5 hR) dX12_open_54 ?_
        refine g_getRk hc lk_X12_200 ca_548 (rc_548_1 hR) dX12_open_57 ?_
        refine g_iconst hc dX12_open_60 ?_
        refine g_iload_n hc dX12_open_61 rfl ?_
        refine g_iadd hc dX12_open_62 ?_
        refine g_iload hc dX12_open_63 rfl ?_
        refine g_V2r hc (c_X6_tell w hR hI (by omega) (by omega)) my_X6_tell mv_X6_tell ca_549 rfl rfl lm_X12_204 rfl (by decide) (Nat.le_of_ble_eq_true rfl) hm dX12_open_65 ?_
        refine g_iret hc hm dX12_open_68 ?_
        exact ⟨by rw [if_pos hpg], rfl, by rw [if_pos hpg], rfl, rfl⟩
      · skip
        have hng : ¬ (x_og I lb f r b) := fun z => z.2.2 c3
        refine g_iconst hc dX12_open_49 ?_
        refine g_goto (tgt := 68) hc dX12_open_50 (by decide) ?_
        refine g_iret hc hm dX12_open_68 ?_
        exact ⟨by rw [if_neg hng], rfl, by rw [if_neg hng], rfl, rfl⟩
    · skip
      have hng : ¬ (x_og I lb f r b) := fun z => z.2.1 c2
      refine g_iconst hc dX12_open_28 ?_
      refine g_iret hc hm dX12_open_29 ?_
      exact ⟨by rw [if_neg hng], rfl, by rw [if_neg hng], rfl, rfl⟩
set_option maxHeartbeats 4000000 in
set_option maxRecDepth 100000 in
/-- X12_undo -/
theorem c_X12_undo (w : g_W) {I : g_I} {J : g_J} {R : g_R} {lb tx : Nat} (hR : g_rf w R lb tx) (hlb : g_life lb) (hI : ∀ k j, g32 (I k j)) (hC : g_cin I lb) (hTb : I 0 12 = -1 ∨ (0 ≤ I 0 12 ∧ I 0 12 ≤ 2)) (hA : 0 ≤ I 549 5 ∧ I 549 5 ≤ 40) (h3 : ∀ k : Int, 0 ≤ k → k < I 549 5 → 0 ≤ I 552 k ∧ I 552 k < 24) : g_Met w g_n I J R yX12_undo cX12_undo 1 (some .int) 1 0 0 [(gvr w 0)] (g_post (some (gvI (if I 549 5 = 0 then -1 else I 549 5 - 1))) g_n (if I 549 5 = 0 then I else g_unt I) J R) := by
  refine g_intro (own := RX12) [some (gvr w 0)] (by decide +kernel) rfl (by decide) (Nat.le_of_ble_eq_true rfl) rfl (fun i v hv => g_args 0 i v hv rfl) (fun x hc hm => ?_)
  have hsI : g_off I I := g_off_rf
  have hxI := hI
  have hL := hC.1
  obtain ⟨hn0, hn1, hLs, hLf⟩ := id hL
  obtain ⟨-, hC1, hC2, hC3, hC4, hC5, hC6, hC7⟩ := id hC
  have hlb5 := hlb
  unfold g_life at hlb5
  refine g_aldn hc dX12_undo_0 rfl ?_
  refine g_getRk hc lk_X12_51 ca_0 (rc_0_5 hR) dX12_undo_1 ?_
  refine g_getRk hc lk_X12_200 ca_548 (rc_548_1 hR) dX12_undo_4 ?_
  refine g_V0r hc (c_X6_untell w hR hI (by omega) h3) my_X6_untell mv_X6_untell ca_549 rfl rfl lm_X12_215 rfl (by decide) (Nat.le_of_ble_eq_true rfl) hm dX12_undo_7 ?_
  refine g_iret hc hm dX12_undo_10 ?_
  exact ⟨rfl, rfl, rfl, rfl, rfl⟩
set_option maxHeartbeats 4000000 in
set_option maxRecDepth 100000 in
/-- X12_image -/
theorem c_X12_image (w : g_W) {I : g_I} {J : g_J} {R : g_R} {lb tx : Nat} (hR : g_rf w R lb tx) (hlb : g_life lb) (hI : ∀ k j, g32 (I k j)) (hC : g_cin I lb) (hTb : I 0 12 = -1 ∨ (0 ≤ I 0 12 ∧ I 0 12 ≤ 2))  : g_Met w g_n I J R yX12_image cX12_image 1 (some .int) 4 0 0 [(gvr w 0)] (g_post (some (gvI (if I 0 12 = -1 then -1 else g_bc (g_thb I lb)))) g_n (if I 0 12 = -1 then I else g_kim I) J R) := by
  refine g_intro (own := RX12) [some (gvr w 0)] (by decide +kernel) rfl (by decide) (Nat.le_of_ble_eq_true rfl) rfl (fun i v hv => g_args 0 i v hv rfl) (fun x hc hm => ?_)
  have hsI : g_off I I := g_off_rf
  have hxI := hI
  have hL := hC.1
  obtain ⟨hn0, hn1, hLs, hLf⟩ := id hL
  obtain ⟨-, hC1, hC2, hC3, hC4, hC5, hC6, hC7⟩ := id hC
  have hlb5 := hlb
  unfold g_life at hlb5
  refine g_aldn hc dX12_image_0 rfl ?_
  refine g_getI' hc lk_X12_87 ca_0 12 rfl dX12_image_1 ?_
  refine g_iconst hc dX12_image_4 ?_
  refine g_icmp_ne (tgt := 10) hc dX12_image_5 (by decide) (by first | exact hI _ _ | exact hxI2 _ _ | exact hIa _ _ | exact hIb _ _ | exact g_b32 | exact g_and32 | assumption | exact ⟨by omega, by omega⟩) (by first | exact hI _ _ | exact hxI2 _ _ | exact hIa _ _ | exact hIb _ _ | exact g_b32 | exact g_and32 | assumption | exact ⟨by omega, by omega⟩) (fun c1 => ?_) (fun c1 => ?_)
  · skip
    refine g_aldn hc dX12_image_10 rfl ?_
    refine g_getRk hc lk_X12_51 ca_0 (rc_0_5 hR) dX12_image_11 ?_
    refine g_getRk hc lk_X12_200 ca_548 (rc_548_1 hR) dX12_image_14 ?_
    refine g_V0v hc (c_X6_keepImage w hR hI) my_X6_keepImage mv_X6_keepImage ca_549 rfl rfl lm_X12_340 rfl (by decide) (Nat.le_of_ble_eq_true rfl) hm dX12_image_17 ?_
    have hgk : ∀ k j, g32 (g_kim I k j) := x_up32 (g_cpy32 hI) ⟨by decide, by decide⟩
    have ek : ∀ k : Nat, k ≠ 549 → k ≠ 551 → g_kim I k = I k := fun k a c => by funext j; rw [g_kim, g_up_k a, g_cpy_k c]
    have hLk : g_lok (g_kim I) lb := q_lok_row (fun o ho => ek _ (by omega) (by omega)) hL
    have ethr : g_thb (g_kim I) lb = g_thb I lb := x_thb_cg hL hlb ek
    refine g_aldn hc dX12_image_20 rfl ?_
    refine g_getRk hc lk_X12_51 ca_0 (rc_0_5 hR) dX12_image_21 ?_
    refine g_V0r hc (c_X7_thereBits w hR hgk hlb hLk) my_X7_thereBits mv_X7_thereBits ca_548 rfl rfl lm_X12_343 rfl (by decide) (Nat.le_of_ble_eq_true rfl) hm dX12_image_24 ?_
    refine g_S1r hc (c_J6_bitCount_0f7a4 w) my_J6_bitCount_0f7a4 ms_J6_bitCount_0f7a4 lm_X12_168 rfl (by decide) (Nat.le_of_ble_eq_true rfl) hm dX12_image_27 ?_
    refine g_iret hc hm dX12_image_30 ?_
    exact ⟨by rw [if_neg (by omega), ethr], rfl, by rw [if_neg (by omega)], rfl, rfl⟩
  · skip
    refine g_iconst hc dX12_image_8 ?_
    refine g_iret hc hm dX12_image_9 ?_
    exact ⟨by rw [if_pos (by omega)], rfl, by rw [if_pos (by omega)], rfl, rfl⟩
set_option maxHeartbeats 4000000 in
set_option maxRecDepth 100000 in
/-- X12_back -/
theorem c_X12_back (w : g_W) {I : g_I} {J : g_J} {R : g_R} {lb tx : Nat} (hR : g_rf w R lb tx) (hlb : g_life lb) (hI : ∀ k j, g32 (I k j)) (hC : g_cin I lb) (hTb : I 0 12 = -1 ∨ (0 ≤ I 0 12 ∧ I 0 12 ≤ 2)) (h01 : I 549 4 = 0 ∨ I 549 4 = 1) : g_Met w g_n I J R yX12_back cX12_back 1 (some .int) 4 0 0 [(gvr w 0)] (g_post (some (gvI (if I 549 4 = 0 then -1 else g_bc (g_thb (g_tim I) lb)))) g_n (if I 549 4 = 0 then I else g_tim I) J R) := by
  refine g_intro (own := RX12) [some (gvr w 0)] (by decide +kernel) rfl (by decide) (Nat.le_of_ble_eq_true rfl) rfl (fun i v hv => g_args 0 i v hv rfl) (fun x hc hm => ?_)
  have hsI : g_off I I := g_off_rf
  have hxI := hI
  have hL := hC.1
  obtain ⟨hn0, hn1, hLs, hLf⟩ := id hL
  obtain ⟨-, hC1, hC2, hC3, hC4, hC5, hC6, hC7⟩ := id hC
  have hlb5 := hlb
  unfold g_life at hlb5
  refine g_aldn hc dX12_back_0 rfl ?_
  refine g_getRk hc lk_X12_51 ca_0 (rc_0_5 hR) dX12_back_1 ?_
  refine g_getRk hc lk_X12_200 ca_548 (rc_548_1 hR) dX12_back_4 ?_
  refine g_getI' hc lk_X12_346 ca_549 4 rfl dX12_back_7 ?_
  refine g_if_ne (tgt := 15) hc dX12_back_10 (by decide) (by first | exact hI _ _ | exact hxI2 _ _ | exact hIa _ _ | exact hIb _ _ | exact g_b32 | exact g_and32 | assumption | exact ⟨by omega, by omega⟩) (fun c1 => ?_) (fun c1 => ?_)
  · skip
    refine g_aldn hc dX12_back_15 rfl ?_
    refine g_getRk hc lk_X12_51 ca_0 (rc_0_5 hR) dX12_back_16 ?_
    refine g_getRk hc lk_X12_200 ca_548 (rc_548_1 hR) dX12_back_19 ?_
    refine g_V0v hc (c_X6_takeImage w hR hI) my_X6_takeImage mv_X6_takeImage ca_549 rfl rfl lm_X12_350 rfl (by decide) (Nat.le_of_ble_eq_true rfl) hm dX12_back_22 ?_
    have hLk : g_lok (g_tim I) lb := q_lok_row (fun o ho => x_tim.2.2.1 _ (by omega) (by omega)) hL
    refine g_aldn hc dX12_back_25 rfl ?_
    refine g_getRk hc lk_X12_51 ca_0 (rc_0_5 hR) dX12_back_26 ?_
    refine g_V0r hc (c_X7_thereBits w hR (x_tim32 hI) hlb hLk) my_X7_thereBits mv_X7_thereBits ca_548 rfl rfl lm_X12_343 rfl (by decide) (Nat.le_of_ble_eq_true rfl) hm dX12_back_29 ?_
    refine g_S1r hc (c_J6_bitCount_0f7a4 w) my_J6_bitCount_0f7a4 ms_J6_bitCount_0f7a4 lm_X12_168 rfl (by decide) (Nat.le_of_ble_eq_true rfl) hm dX12_back_32 ?_
    refine g_iret hc hm dX12_back_35 ?_
    exact ⟨by rw [if_neg (by omega)], rfl, by rw [if_neg (by omega)], rfl, rfl⟩
  · skip
    refine g_iconst hc dX12_back_13 ?_
    refine g_iret hc hm dX12_back_14 ?_
    exact ⟨by rw [if_pos (by omega)], rfl, by rw [if_pos (by omega)], rfl, rfl⟩
set_option maxHeartbeats 4000000 in
set_option maxRecDepth 100000 in
/-- X12_clue -/
theorem c_X12_clue (w : g_W) {I : g_I} {J : g_J} {R : g_R} {lb tx : Nat} (hR : g_rf w R lb tx) (hlb : g_life lb) (hI : ∀ k j, g32 (I k j)) (hC : g_cin I lb) (hTb : I 0 12 = -1 ∨ (0 ≤ I 0 12 ∧ I 0 12 ≤ 2)) {c u v : Int} (g1 : g32 c) (g2 : g32 u) (g3 : g32 v) (hK1 : 0 ≤ I 697 4 ∧ I 697 4 ≤ 12) : g_Met w g_n I J R yX12_clue cX12_clue 4 (some .int) 1 0 0 [(gvr w 0), (gvI c), (gvI u), (gvI v)] (g_post (some (gvI (if (x_cg I c u v) then (if 12 ≤ I 697 4 then -1 else I 697 4 + 1) else -1))) g_n (if (x_cg I c u v) then g_adc I c u v else I) J R) := by
  refine g_intro (own := RX12) [some (gvr w 0), some (gvI c), some (gvI u), some (gvI v)] (by decide +kernel) rfl (by decide) (Nat.le_of_ble_eq_true rfl) rfl (fun i v hv => g_args 0 i v hv rfl) (fun x hc hm => ?_)
  have hsI : g_off I I := g_off_rf
  have hxI := hI
  have hL := hC.1
  obtain ⟨hn0, hn1, hLs, hLf⟩ := id hL
  obtain ⟨-, hC1, hC2, hC3, hC4, hC5, hC6, hC7⟩ := id hC
  have hlb5 := hlb
  unfold g_life at hlb5
  refine g_aldn hc dX12_clue_0 rfl ?_
  refine g_getI' hc lk_X12_87 ca_0 12 rfl dX12_clue_1 ?_
  refine g_iconst hc dX12_clue_4 ?_
  refine g_icmp_eq (tgt := 37) hc dX12_clue_5 (by decide) (by first | exact hI _ _ | exact hxI2 _ _ | exact hIa _ _ | exact hIb _ _ | exact g_b32 | exact g_and32 | assumption | exact ⟨by omega, by omega⟩) (by first | exact hI _ _ | exact hxI2 _ _ | exact hIa _ _ | exact hIb _ _ | exact g_b32 | exact g_and32 | assumption | exact ⟨by omega, by omega⟩) (fun c1 => ?_) (fun c1 => ?_)
  · skip
    refine g_iconst hc dX12_clue_37 ?_
    refine g_iret hc hm dX12_clue_38 ?_
    exact ⟨by rw [if_neg (by omega)], rfl, by rw [if_neg (by omega)], rfl, rfl⟩
  · skip
    refine g_iload_n hc dX12_clue_8 rfl ?_
    refine g_if_lt (tgt := 37) hc dX12_clue_9 (by decide) (by first | exact hI _ _ | exact hxI2 _ _ | exact hIa _ _ | exact hIb _ _ | exact g_b32 | exact g_and32 | assumption | exact ⟨by omega, by omega⟩) (fun c2 => ?_) (fun c2 => ?_)
    · skip
      refine g_iconst hc dX12_clue_37 ?_
      refine g_iret hc hm dX12_clue_38 ?_
      exact ⟨by rw [if_neg (by omega)], rfl, by rw [if_neg (by omega)], rfl, rfl⟩
    · skip
      refine g_iload_n hc dX12_clue_12 rfl ?_
      refine g_iconst hc dX12_clue_13 ?_
      refine g_icmp_gt (tgt := 37) hc dX12_clue_14 (by decide) (by first | exact hI _ _ | exact hxI2 _ _ | exact hIa _ _ | exact hIb _ _ | exact g_b32 | exact g_and32 | assumption | exact ⟨by omega, by omega⟩) (by first | exact hI _ _ | exact hxI2 _ _ | exact hIa _ _ | exact hIb _ _ | exact g_b32 | exact g_and32 | assumption | exact ⟨by omega, by omega⟩) (fun c3 => ?_) (fun c3 => ?_)
      · skip
        refine g_iconst hc dX12_clue_37 ?_
        refine g_iret hc hm dX12_clue_38 ?_
        exact ⟨by rw [if_neg (by omega)], rfl, by rw [if_neg (by omega)], rfl, rfl⟩
      · skip
        refine g_iload_n hc dX12_clue_17 rfl ?_
        refine g_if_lt (tgt := 37) hc dX12_clue_18 (by decide) (by first | exact hI _ _ | exact hxI2 _ _ | exact hIa _ _ | exact hIb _ _ | exact g_b32 | exact g_and32 | assumption | exact ⟨by omega, by omega⟩) (fun c4 => ?_) (fun c4 => ?_)
        · skip
          refine g_iconst hc dX12_clue_37 ?_
          refine g_iret hc hm dX12_clue_38 ?_
          exact ⟨by rw [if_neg (by omega)], rfl, by rw [if_neg (by omega)], rfl, rfl⟩
        · skip
          refine g_iload_n hc dX12_clue_21 rfl ?_
          refine g_bipush hc dX12_clue_22 (by decide +kernel) ?_
          refine g_icmp_gt (tgt := 37) hc dX12_clue_24 (by decide) (by first | exact hI _ _ | exact hxI2 _ _ | exact hIa _ _ | exact hIb _ _ | exact g_b32 | exact g_and32 | assumption | exact ⟨by omega, by omega⟩) (by first | exact hI _ _ | exact hxI2 _ _ | exact hIa _ _ | exact hIb _ _ | exact g_b32 | exact g_and32 | assumption | exact ⟨by omega, by omega⟩) (fun c5 => ?_) (fun c5 => ?_)
          · skip
            refine g_iconst hc dX12_clue_37 ?_
            refine g_iret hc hm dX12_clue_38 ?_
            exact ⟨by rw [if_neg (by omega)], rfl, by rw [if_neg (by omega)], rfl, rfl⟩
          · skip
            refine g_iload_n hc dX12_clue_27 rfl ?_
            refine g_if_lt (tgt := 37) hc dX12_clue_28 (by decide) (by first | exact hI _ _ | exact hxI2 _ _ | exact hIa _ _ | exact hIb _ _ | exact g_b32 | exact g_and32 | assumption | exact ⟨by omega, by omega⟩) (fun c6 => ?_) (fun c6 => ?_)
            · skip
              refine g_iconst hc dX12_clue_37 ?_
              refine g_iret hc hm dX12_clue_38 ?_
              exact ⟨by rw [if_neg (by omega)], rfl, by rw [if_neg (by omega)], rfl, rfl⟩
            · skip
              refine g_iload_n hc dX12_clue_31 rfl ?_
              refine g_bipush hc dX12_clue_32 (by decide +kernel) ?_
              refine g_icmp_le (tgt := 39) hc dX12_clue_34 (by decide) (by first | exact hI _ _ | exact hxI2 _ _ | exact hIa _ _ | exact hIb _ _ | exact g_b32 | exact g_and32 | assumption | exact ⟨by omega, by omega⟩) (by first | exact hI _ _ | exact hxI2 _ _ | exact hIa _ _ | exact hIb _ _ | exact g_b32 | exact g_and32 | assumption | exact ⟨by omega, by omega⟩) (fun c7 => ?_) (fun c7 => ?_)
              · skip
                refine g_aldn hc dX12_clue_39 rfl ?_
                refine g_getRk hc lk_X12_76 ca_0 (rc_0_8 hR) dX12_clue_40 ?_
                refine g_iload_n hc dX12_clue_43 rfl ?_
                refine g_iload_n hc dX12_clue_44 rfl ?_
                refine g_iload_n hc dX12_clue_45 rfl ?_
                refine g_V3r hc (c_X2_addClue w hR hI (by omega)) my_X2_addClue mv_X2_addClue ca_697 rfl rfl lm_X12_303 rfl (by decide) (Nat.le_of_ble_eq_true rfl) hm dX12_clue_46 ?_
                refine g_iret hc hm dX12_clue_49 ?_
                exact ⟨by rw [if_pos (show x_cg I c u v from ⟨by omega, by omega, by omega, by omega⟩)], rfl, by rw [if_pos (show x_cg I c u v from ⟨by omega, by omega, by omega, by omega⟩)], rfl, rfl⟩
              · skip
                refine g_iconst hc dX12_clue_37 ?_
                refine g_iret hc hm dX12_clue_38 ?_
                exact ⟨by rw [if_neg (by omega)], rfl, by rw [if_neg (by omega)], rfl, rfl⟩
set_option maxHeartbeats 4000000 in
set_option maxRecDepth 100000 in
/-- X12_birthday -/
theorem c_X12_birthday (w : g_W) {I : g_I} {J : g_J} {R : g_R} {lb tx : Nat} (hR : g_rf w R lb tx) (hlb : g_life lb) (hI : ∀ k j, g32 (I k j)) (hC : g_cin I lb) (hTb : I 0 12 = -1 ∨ (0 ≤ I 0 12 ∧ I 0 12 ≤ 2)) {sd : Int} (hB2 : 0 ≤ I 701 2 ∧ I 701 2 ≤ 60) : g_Met w g_n I J R yX12_birthday cX12_birthday 3 (some .int) 8 0 0 [(gvr w 0), (gvL sd)] (fun rr nn II JJ RR => g_rel w (some (gvI (if (0 ≤ I 0 12 ∧ I 701 2 < 60) then (g_dsf I lb sd).1 else -1))) g_sc (if (0 ≤ I 0 12 ∧ I 701 2 < 60) then g_ptb I (g_dsf I lb sd).1 else I) JJ R rr nn II JJ RR ∧ ∀ k : Nat, k ≠ 701 → JJ k = J k) := by
  refine g_intro (own := RX12) [some (gvr w 0), some (gvL sd), none] (by decide +kernel) rfl (by decide) (Nat.le_of_ble_eq_true rfl) rfl (fun i v hv => g_args 0 i v hv rfl) (fun x hc hm => ?_)
  have hsI : g_off I I := g_off_rf
  have hxI := hI
  have hL := hC.1
  obtain ⟨hn0, hn1, hLs, hLf⟩ := id hL
  obtain ⟨-, hC1, hC2, hC3, hC4, hC5, hC6, hC7⟩ := id hC
  have hlb5 := hlb
  unfold g_life at hlb5
  refine g_aldn hc dX12_birthday_0 rfl ?_
  refine g_getI' hc lk_X12_87 ca_0 12 rfl dX12_birthday_1 ?_
  refine g_iconst hc dX12_birthday_4 ?_
  refine g_icmp_ne (tgt := 12) hc dX12_birthday_5 (by decide) (by first | exact hI _ _ | exact hxI2 _ _ | exact hIa _ _ | exact hIb _ _ | exact g_b32 | exact g_and32 | assumption | exact ⟨by omega, by omega⟩) (by first | exact hI _ _ | exact hxI2 _ _ | exact hIa _ _ | exact hIb _ _ | exact g_b32 | exact g_and32 | assumption | exact ⟨by omega, by omega⟩) (fun c1 => ?_) (fun c1 => ?_)
  · skip
    refine g_aldn hc dX12_birthday_12 rfl ?_
    refine g_getRk hc lk_X12_83 ca_0 (rc_0_9 hR) dX12_birthday_13 ?_
    refine g_lload_n hc dX12_birthday_16 rfl ?_
    refine g_V1 hc (c_X0_putBy w hR hlb hI hC (by omega)) my_X0_putBy mv_X0_putBy ca_701 rfl rfl lm_X12_326 rfl (by decide) (Nat.le_of_ble_eq_true rfl) hm dX12_birthday_17 (fun r3 n3 I3 J3 R3 hp3 => ?_)
    obtain ⟨⟨rfl, rfl, hfI3, hxI3, -, rfl⟩, hK3⟩ := hp3
    refine g_iret hc hm dX12_birthday_20 ?_
    refine ⟨⟨?_, rfl, fun k hk => ?_, hxI3, rfl, rfl⟩, fun k hk => hK3 k hk⟩
    · by_cases z : 60 ≤ I 701 2
      · rw [if_pos z, if_neg (by omega)]
      · rw [if_neg z, if_pos (by omega)]
    · rw [hfI3 k (fun y => hk (by unfold g_sT at y; unfold g_sc; omega))]
      by_cases z : 60 ≤ I 701 2
      · rw [if_pos z, if_neg (by omega)]
      · rw [if_neg z, if_pos (by omega)]
  · skip
    refine g_iconst hc dX12_birthday_8 ?_
    refine g_goto (tgt := 20) hc dX12_birthday_9 (by decide) ?_
    refine g_iret hc hm dX12_birthday_20 ?_
    exact ⟨⟨by rw [if_neg (by omega)], rfl, fun k hk => by rw [if_neg (by omega)], hI, rfl, rfl⟩, fun k hk => rfl⟩
set_option maxHeartbeats 4000000 in
set_option maxRecDepth 100000 in
/-- X12_take -/
theorem c_X12_take (w : g_W) {I : g_I} {J : g_J} {R : g_R} {lb tx : Nat} (hR : g_rf w R lb tx) (hlb : g_life lb) (hI : ∀ k j, g32 (I k j)) (hC : g_cin I lb) (hTb : I 0 12 = -1 ∨ (0 ≤ I 0 12 ∧ I 0 12 ≤ 2)) (hB2 : 0 ≤ I 701 2 ∧ I 701 2 ≤ 60) : g_Met w g_n I J R yX12_take cX12_take 1 (some .int) 0 0 0 [(gvr w 0)] (g_post (some (gvI (if I 701 2 = 0 then -1 else I 701 2 - 1))) g_n (if I 701 2 = 0 then I else g_up I 701 2 (I 701 2 - 1)) J R) := by
  refine g_intro (own := RX12) [some (gvr w 0)] (by decide +kernel) rfl (by decide) (Nat.le_of_ble_eq_true rfl) rfl (fun i v hv => g_args 0 i v hv rfl) (fun x hc hm => ?_)
  have hsI : g_off I I := g_off_rf
  have hxI := hI
  have hL := hC.1
  obtain ⟨hn0, hn1, hLs, hLf⟩ := id hL
  obtain ⟨-, hC1, hC2, hC3, hC4, hC5, hC6, hC7⟩ := id hC
  have hlb5 := hlb
  unfold g_life at hlb5
  refine g_aldn hc dX12_take_0 rfl ?_
  refine g_getRk hc lk_X12_83 ca_0 (rc_0_9 hR) dX12_take_1 ?_
  refine g_getI' hc lk_X12_330 ca_701 2 rfl dX12_take_4 ?_
  refine g_if_ne (tgt := 12) hc dX12_take_7 (by decide) (by first | exact hI _ _ | exact hxI2 _ _ | exact hIa _ _ | exact hIb _ _ | exact g_b32 | exact g_and32 | assumption | exact ⟨by omega, by omega⟩) (fun c1 => ?_) (fun c1 => ?_)
  · skip
    refine g_aldn hc dX12_take_12 rfl ?_
    refine g_getRk hc lk_X12_83 ca_0 (rc_0_9 hR) dX12_take_13 ?_
    refine g_dup hc dX12_take_16 rfl ?_
    refine g_getI' hc lk_X12_330 ca_701 2 rfl dX12_take_17 ?_
    refine g_iconst hc dX12_take_20 ?_
    refine g_isub hc dX12_take_21 ?_
    refine g_putI' hc lk_X12_330 ca_701 2 rfl dX12_take_22 (fun I3 hI3 => ?_)
    refine g_aldn hc dX12_take_25 rfl ?_
    refine g_getRk hc lk_X12_83 ca_0 (rc_0_9 hR) dX12_take_26 ?_
    refine g_getI' hc lk_X12_330 ca_701 2 rfl dX12_take_29 ?_
    refine g_iret hc hm dX12_take_32 ?_
    exact ⟨by rw [if_neg (by omega), hI3, g_up_s], rfl, by rw [if_neg (by omega), hI3], rfl, rfl⟩
  · skip
    refine g_iconst hc dX12_take_10 ?_
    refine g_iret hc hm dX12_take_11 ?_
    exact ⟨by rw [if_pos (by omega)], rfl, by rw [if_pos (by omega)], rfl, rfl⟩
set_option maxHeartbeats 4000000 in
set_option maxRecDepth 100000 in
/-- X12_end -/
theorem c_X12_end (w : g_W) {I : g_I} {J : g_J} {R : g_R} {lb tx : Nat} (hR : g_rf w R lb tx) (hlb : g_life lb) (hI : ∀ k j, g32 (I k j)) (hC : g_cin I lb) (hTb : I 0 12 = -1 ∨ (0 ≤ I 0 12 ∧ I 0 12 ≤ 2)) {n : Int} (g1 : g32 n) : g_Met w g_n I J R yX12_end cX12_end 2 (some .boolean) 0 0 0 [(gvr w 0), (gvI n)] (g_post (some (gvI (g_b (0 ≤ n ∧ n ≤ I 1 1)))) g_n (if (0 ≤ n ∧ n ≤ I 1 1) then g_up I 1 1 n else I) J R) := by
  refine g_intro (own := RX12) [some (gvr w 0), some (gvI n)] (by decide +kernel) rfl (by decide) (Nat.le_of_ble_eq_true rfl) rfl (fun i v hv => g_args 0 i v hv rfl) (fun x hc hm => ?_)
  have hsI : g_off I I := g_off_rf
  have hxI := hI
  have hL := hC.1
  obtain ⟨hn0, hn1, hLs, hLf⟩ := id hL
  obtain ⟨-, hC1, hC2, hC3, hC4, hC5, hC6, hC7⟩ := id hC
  have hlb5 := hlb
  unfold g_life at hlb5
  refine g_iload_n hc dX12_end_0 rfl ?_
  refine g_if_lt (tgt := 15) hc dX12_end_1 (by decide) (by first | exact hI _ _ | exact hxI2 _ _ | exact hIa _ _ | exact hIb _ _ | exact g_b32 | exact g_and32 | assumption | exact ⟨by omega, by omega⟩) (fun c1 => ?_) (fun c1 => ?_)
  · skip
    refine g_iconst hc dX12_end_15 ?_
    refine g_zret hc hm (by first | exact g_b01 | omega) dX12_end_16 ?_
    exact ⟨by rw [g_b0 (by omega)], rfl, by rw [if_neg (by omega)], rfl, rfl⟩
  · skip
    refine g_iload_n hc dX12_end_4 rfl ?_
    refine g_aldn hc dX12_end_5 rfl ?_
    refine g_getRk hc lk_X12_10 ca_0 (rc_0_0 hR) dX12_end_6 ?_
    refine g_getI' hc lk_X12_95 ca_1 1 rfl dX12_end_9 ?_
    refine g_icmp_le (tgt := 17) hc dX12_end_12 (by decide) (by first | exact hI _ _ | exact hxI2 _ _ | exact hIa _ _ | exact hIb _ _ | exact g_b32 | exact g_and32 | assumption | exact ⟨by omega, by omega⟩) (by first | exact hI _ _ | exact hxI2 _ _ | exact hIa _ _ | exact hIb _ _ | exact g_b32 | exact g_and32 | assumption | exact ⟨by omega, by omega⟩) (fun c2 => ?_) (fun c2 => ?_)
    · skip
      refine g_aldn hc dX12_end_17 rfl ?_
      refine g_getRk hc lk_X12_10 ca_0 (rc_0_0 hR) dX12_end_18 ?_
      refine g_iload_n hc dX12_end_21 rfl ?_
      refine g_putI' hc lk_X12_95 ca_1 1 rfl dX12_end_22 (fun I3 hI3 => ?_)
      refine g_iconst hc dX12_end_25 ?_
      refine g_zret hc hm (by first | exact g_b01 | omega) dX12_end_26 ?_
      exact ⟨by rw [g_b1 (by omega)], rfl, by rw [if_pos (by omega), hI3], rfl, rfl⟩
    · skip
      refine g_iconst hc dX12_end_15 ?_
      refine g_zret hc hm (by first | exact g_b01 | omega) dX12_end_16 ?_
      exact ⟨by rw [g_b0 (by omega)], rfl, by rw [if_neg (by omega)], rfl, rfl⟩
set_option maxHeartbeats 4000000 in
set_option maxRecDepth 100000 in
/-- X12_feed -/
theorem c_X12_feed (w : g_W) {I : g_I} {J : g_J} {R : g_R} {lb tx : Nat} (hR : g_rf w R lb tx) (hI : ∀ k j, g32 (I k j)) (hn9 : 0 ≤ I 1 1 ∧ I 1 1 ≤ 240) {a b c d e : Int} (ga : g32 a) (gb : g32 b) (gc : g32 c) (gd : g32 d) (ge : g32 e) : g_Met w g_n I J R yX12_feed cX12_feed 7 (some .int) 1 0 0 [(gvr w 0), (gvI a), (gvI b), (gvI c), (gvI d), (gvI e)] (g_post (some (gvI (if 240 < x_fdn I a b c d e then -1 else x_fdn I a b c d e))) g_n (if 240 < x_fdn I a b c d e then I else x_fed I a b c d e) J R) := by
  refine g_intro (own := RX12) [some (gvr w 0), some (gvI a), some (gvI b), some (gvI c), some (gvI d), some (gvI e), none] (by decide +kernel) rfl (by decide) (Nat.le_of_ble_eq_true rfl) rfl (fun i v hv => g_args 1 i v hv rfl) (fun x hc hm => ?_)
  have ba := @g_bin0 a
  have bb := @g_bin0 b
  have bc := @g_bin0 c
  have bd := @g_bin0 d
  have be := @g_bin0 e
  refine g_iload_n hc dX12_feed_0 rfl ?_
  refine g_S1r hc (c_X8_bytesIn w (by first | exact hI _ _ | exact hxI2 _ _ | exact hIa _ _ | exact hIb _ _ | exact g_b32 | exact g_and32 | assumption | exact ⟨by omega, by omega⟩)) my_X8_bytesIn ms_X8_bytesIn lm_X12_91 rfl (by decide) (Nat.le_of_ble_eq_true rfl) hm dX12_feed_1 ?_
  refine g_iload_n hc dX12_feed_4 rfl ?_
  refine g_S1r hc (c_X8_bytesIn w (by first | exact hI _ _ | exact hxI2 _ _ | exact hIa _ _ | exact hIb _ _ | exact g_b32 | exact g_and32 | assumption | exact ⟨by omega, by omega⟩)) my_X8_bytesIn ms_X8_bytesIn lm_X12_91 rfl (by decide) (Nat.le_of_ble_eq_true rfl) hm dX12_feed_5 ?_
  refine g_iadd hc dX12_feed_8 ?_
  refine g_iload_n hc dX12_feed_9 rfl ?_
  refine g_S1r hc (c_X8_bytesIn w (by first | exact hI _ _ | exact hxI2 _ _ | exact hIa _ _ | exact hIb _ _ | exact g_b32 | exact g_and32 | assumption | exact ⟨by omega, by omega⟩)) my_X8_bytesIn ms_X8_bytesIn lm_X12_91 rfl (by decide) (Nat.le_of_ble_eq_true rfl) hm dX12_feed_10 ?_
  refine g_iadd hc dX12_feed_13 ?_
  refine g_iload hc dX12_feed_14 rfl ?_
  refine g_S1r hc (c_X8_bytesIn w (by first | exact hI _ _ | exact hxI2 _ _ | exact hIa _ _ | exact hIb _ _ | exact g_b32 | exact g_and32 | assumption | exact ⟨by omega, by omega⟩)) my_X8_bytesIn ms_X8_bytesIn lm_X12_91 rfl (by decide) (Nat.le_of_ble_eq_true rfl) hm dX12_feed_16 ?_
  refine g_iadd hc dX12_feed_19 ?_
  refine g_iload hc dX12_feed_20 rfl ?_
  refine g_S1r hc (c_X8_bytesIn w (by first | exact hI _ _ | exact hxI2 _ _ | exact hIa _ _ | exact hIb _ _ | exact g_b32 | exact g_and32 | assumption | exact ⟨by omega, by omega⟩)) my_X8_bytesIn ms_X8_bytesIn lm_X12_91 rfl (by decide) (Nat.le_of_ble_eq_true rfl) hm dX12_feed_22 ?_
  refine g_iadd hc dX12_feed_25 ?_
  refine g_istore_6 hc dX12_feed_26 rfl ?_
  refine g_aldn hc dX12_feed_28 rfl ?_
  refine g_getRk hc lk_X12_10 ca_0 (rc_0_0 hR) dX12_feed_29 ?_
  refine g_getI' hc lk_X12_95 ca_1 1 rfl dX12_feed_32 ?_
  refine g_iload hc dX12_feed_35 rfl ?_
  refine g_iadd hc dX12_feed_37 ?_
  refine g_sipush hc dX12_feed_38 (by decide +kernel) ?_
  refine g_icmp_le (tgt := 46) hc dX12_feed_41 (by decide) (by first | exact hI _ _ | exact hxI2 _ _ | exact hIa _ _ | exact hIb _ _ | exact g_b32 | exact g_and32 | assumption | exact ⟨by omega, by omega⟩) (by first | exact hI _ _ | exact hxI2 _ _ | exact hIa _ _ | exact hIb _ _ | exact g_b32 | exact g_and32 | assumption | exact ⟨by omega, by omega⟩) (fun c1 => ?_) (fun c1 => ?_)
  · skip
    have hov : ¬ 240 < x_fdn I a b c d e := by unfold x_fdn; omega
    have xa := @x_apd I a (by omega)
    have xb := @x_apd (g_apd I a) b (by rw [xa]; omega)
    rw [xa] at xb
    have xc := @x_apd (g_apd (g_apd I a) b) c (by rw [xb]; omega)
    rw [xb] at xc
    have xd := @x_apd (g_apd (g_apd (g_apd I a) b) c) d (by rw [xc]; omega)
    rw [xc] at xd
    have xe := @x_apd (g_apd (g_apd (g_apd (g_apd I a) b) c) d) e (by rw [xd]; omega)
    rw [xd] at xe
    refine g_aldn hc dX12_feed_46 rfl ?_
    refine g_getRk hc lk_X12_10 ca_0 (rc_0_0 hR) dX12_feed_47 ?_
    refine g_iload_n hc dX12_feed_50 rfl ?_
    refine g_V1v hc (c_X8_append w hR (by first | exact hI _ _ | exact hxI2 _ _ | exact hIa _ _ | exact hIb _ _ | exact g_b32 | exact g_and32 | assumption | exact ⟨by omega, by omega⟩) (by omega)) my_X8_append mv_X8_append ca_1 rfl rfl lm_X12_98 rfl (by decide) (Nat.le_of_ble_eq_true rfl) hm dX12_feed_51 ?_
    refine g_aldn hc dX12_feed_54 rfl ?_
    refine g_getRk hc lk_X12_10 ca_0 (rc_0_0 hR) dX12_feed_55 ?_
    refine g_iload_n hc dX12_feed_58 rfl ?_
    refine g_V1v hc (c_X8_append w hR (by first | exact hI _ _ | exact hxI2 _ _ | exact hIa _ _ | exact hIb _ _ | exact g_b32 | exact g_and32 | assumption | exact ⟨by omega, by omega⟩) (by omega)) my_X8_append mv_X8_append ca_1 rfl rfl lm_X12_98 rfl (by decide) (Nat.le_of_ble_eq_true rfl) hm dX12_feed_59 ?_
    refine g_aldn hc dX12_feed_62 rfl ?_
    refine g_getRk hc lk_X12_10 ca_0 (rc_0_0 hR) dX12_feed_63 ?_
    refine g_iload_n hc dX12_feed_66 rfl ?_
    refine g_V1v hc (c_X8_append w hR (by first | exact hI _ _ | exact hxI2 _ _ | exact hIa _ _ | exact hIb _ _ | exact g_b32 | exact g_and32 | assumption | exact ⟨by omega, by omega⟩) (by omega)) my_X8_append mv_X8_append ca_1 rfl rfl lm_X12_98 rfl (by decide) (Nat.le_of_ble_eq_true rfl) hm dX12_feed_67 ?_
    refine g_aldn hc dX12_feed_70 rfl ?_
    refine g_getRk hc lk_X12_10 ca_0 (rc_0_0 hR) dX12_feed_71 ?_
    refine g_iload hc dX12_feed_74 rfl ?_
    refine g_V1v hc (c_X8_append w hR (by first | exact hI _ _ | exact hxI2 _ _ | exact hIa _ _ | exact hIb _ _ | exact g_b32 | exact g_and32 | assumption | exact ⟨by omega, by omega⟩) (by omega)) my_X8_append mv_X8_append ca_1 rfl rfl lm_X12_98 rfl (by decide) (Nat.le_of_ble_eq_true rfl) hm dX12_feed_76 ?_
    refine g_aldn hc dX12_feed_79 rfl ?_
    refine g_getRk hc lk_X12_10 ca_0 (rc_0_0 hR) dX12_feed_80 ?_
    refine g_iload hc dX12_feed_83 rfl ?_
    refine g_V1v hc (c_X8_append w hR (by first | exact hI _ _ | exact hxI2 _ _ | exact hIa _ _ | exact hIb _ _ | exact g_b32 | exact g_and32 | assumption | exact ⟨by omega, by omega⟩) (by omega)) my_X8_append mv_X8_append ca_1 rfl rfl lm_X12_98 rfl (by decide) (Nat.le_of_ble_eq_true rfl) hm dX12_feed_85 ?_
    refine g_aldn hc dX12_feed_88 rfl ?_
    refine g_getRk hc lk_X12_10 ca_0 (rc_0_0 hR) dX12_feed_89 ?_
    refine g_getI' hc lk_X12_95 ca_1 1 rfl dX12_feed_92 ?_
    refine g_iret hc hm dX12_feed_95 ?_
    exact ⟨by rw [if_neg hov, xe]; rfl, rfl, by rw [if_neg hov]; rfl, rfl, rfl⟩
  · skip
    have hov : 240 < x_fdn I a b c d e := by unfold x_fdn; omega
    refine g_iconst hc dX12_feed_44 ?_
    refine g_iret hc hm dX12_feed_45 ?_
    exact ⟨by rw [if_pos hov], rfl, by rw [if_pos hov], rfl, rfl⟩
set_option maxHeartbeats 4000000 in
set_option maxRecDepth 100000 in
/-- X12_bringToTable -/
theorem c_X12_bringToTable (w : g_W) {I : g_I} {J : g_J} {R : g_R} {lb tx : Nat} (hR : g_rf w R lb tx) (hI : ∀ k j, g32 (I k j)) {l : Int} (hl : 0 ≤ l ∧ l ≤ 2) (hL : g_lok I (4 + 128 * l.toNat))  : g_Met w g_n I J R yX12_bringToTable cX12_bringToTable 3 none 1 0 0 [(gvr w 0), (gvI l)] (fun rr nn II JJ RR => rr = none ∧ nn = g_n ∧ JJ = J ∧ g_rf w RR (4 + 128 * l.toNat) tx ∧ x_cal I l II ∧ ∀ k : Nat, k ≠ 0 → k ≠ 549 → k ≠ 550 → k ≠ 697 → k ≠ 701 → II k = I k) := by
  refine g_intro (own := RX12) [some (gvr w 0), some (gvI l), none] (by decide +kernel) rfl (by decide) (Nat.le_of_ble_eq_true rfl) rfl (fun i v hv => g_args 1 i v hv rfl) (fun x hc hm => ?_)
  have hlb2 : g_life (4 + 128 * l.toNat) := gl_of hl.1 (by omega)
  obtain ⟨hn0, hn1, hLs, hLf⟩ := id hL
  refine g_aldn hc dX12_bringToTable_0 rfl ?_
  refine g_iload_n hc dX12_bringToTable_1 rfl ?_
  refine g_putI' hc lk_X12_87 ca_0 12 rfl dX12_bringToTable_2 (fun I3 hI3 => ?_)
  refine g_aldn hc dX12_bringToTable_5 rfl ?_
  refine g_getRk hc lk_X12_51 ca_0 (rc_0_5 hR) dX12_bringToTable_6 ?_
  refine g_aldn hc dX12_bringToTable_9 rfl ?_
  refine g_getRk hc lk_X12_18 ca_0 (rc_0_1 hR) dX12_bringToTable_10 ?_
  refine g_iload_n hc dX12_bringToTable_13 rfl ?_
  refine g_aaldk hc ca_3 (by decide) rfl rfl (by decide) (by omega) (by omega) (ra_3 hR (by omega) (by omega)) dX12_bringToTable_14 ?_
  refine g_putR (ty := .object "OtherSelves$Life") hc lk_X12_118 ca_548 (by decide) rfl rfl dX12_bringToTable_15 ?_
  generalize hR9 : g_upR R 548 ((3 : Nat) : Int) (some (w.2.2.2.1 + (4 + 128 * l.toNat))) = R9
  have hR : g_rf w R9 (4 + 128 * l.toNat) tx := hR9 ▸ g_rf_lb hR
  refine g_aldn hc dX12_bringToTable_18 rfl ?_
  refine g_getRk hc lk_X12_51 ca_0 (rc_0_5 hR) dX12_bringToTable_19 ?_
  refine g_getRk hc lk_X12_200 ca_548 (rc_548_1 hR) dX12_bringToTable_22 ?_
  refine g_V0v hc (c_X6_forget w hR (by rw [hI3]; exact x_up32 hI ⟨by omega, by omega⟩)) my_X6_forget mv_X6_forget ca_549 rfl rfl lm_X12_362 rfl (by decide) (Nat.le_of_ble_eq_true rfl) hm dX12_bringToTable_25 ?_
  obtain ⟨X, hX⟩ : ∃ X, X = g_fgt I3 := ⟨_, rfl⟩
  rw [← hX]
  have hgX : ∀ k j, g32 (X k j) := by rw [hX, hI3]; exact x_up32 (x_up32 (x_up32 hI ⟨by omega, by omega⟩) ⟨by decide, by decide⟩) ⟨by decide, by decide⟩
  have hkX : ∀ k : Nat, k ≠ 0 → k ≠ 549 → k ≠ 550 → X k = I k := fun k a c _ => by funext j; rw [hX, g_fgt, g_up_k c, g_up_k c, hI3, g_up_k a]
  have h0X : X 0 12 = l ∧ ∀ j : Int, j ≠ 12 → X 0 j = I 0 j := ⟨by rw [hX, g_fgt, g_up_k (by decide), g_up_k (by decide), hI3, g_up_s], fun j hj => by rw [hX, g_fgt, g_up_k (by decide), g_up_k (by decide), hI3, g_up_i hj]⟩
  have h9X : X 549 5 = 0 ∧ X 549 4 = 0 := ⟨by rw [hX, g_fgt, g_up_i (by decide), g_up_s], by rw [hX, g_fgt, g_up_s]⟩
  have h5X : ∀ j : Int, 0 ≤ j → j < 4 → X 550 j = I 550 j := fun j _ _ => by rw [hX, g_fgt, g_up_k (by decide), g_up_k (by decide), hI3, g_up_k (by decide)]
  skip
  refine g_iconst hc dX12_bringToTable_28 ?_
  refine g_istore_2 hc dX12_bringToTable_29 rfl ?_
  have lp_30 : ∀ (fu : Nat) (i : Int) (Im : g_I), 0 ≤ i ∧ i ≤ I (4 + 128 * l.toNat) 1 → (∀ k j, g32 (Im k j)) → (∀ k : Nat, k ≠ 0 → k ≠ 549 → k ≠ 550 → Im k = I k) → (Im 0 12 = l ∧ ∀ j : Int, j ≠ 12 → Im 0 j = I 0 j) → (Im 549 5 = 0 ∧ Im 549 4 = 0) → (∀ j : Int, 0 ≤ j → j < 4 → Im 550 j = I 550 j) → (∀ f : Int, 0 ≤ f → f < i → Im 550 (4 + f) = g_shl 1 (I ((4 + 128 * l.toNat) + 43) f) - 1) → I (4 + 128 * l.toNat) 1 - i < (fu : Int) → G w x (fun rr nn II JJ RR => rr = none ∧ nn = g_n ∧ JJ = J ∧ g_rf w RR (4 + 128 * l.toNat) tx ∧ x_cal I l II ∧ ∀ k : Nat, k ≠ 0 → k ≠ 549 → k ≠ 550 → k ≠ 697 → k ≠ 701 → II k = I k) 0 0 g_n Im J R9 30 [some (gvr w 0), some (gvI l), some (gvI i)] [] := by
    intro fu
    induction fu with
    | zero => intro i Im h3 hgIm hkIm h0Im h9Im h5Im hfIm hfu; exfalso; omega
    | succ fu ih =>
      intro i Im h3 hgIm hkIm h0Im h9Im h5Im hfIm hfu
      have e41 : Im (4 + 128 * l.toNat) 1 = I (4 + 128 * l.toNat) 1 := by rw [hkIm _ (by omega) (by omega) (by omega)]
      have ih_30 := ih
      refine g_iload_n hc dX12_bringToTable_30 rfl ?_
      refine g_aldn hc dX12_bringToTable_31 rfl ?_
      refine g_getRk hc lk_X12_51 ca_0 (rc_0_5 hR) dX12_bringToTable_32 ?_
      refine g_getRvk hc lk_X12_118 ca_548 (rc_548_3 hR) dX12_bringToTable_35 ?_
      refine g_getI' hc lk_X12_353 (la_0 hlb2) 1 rfl dX12_bringToTable_38 ?_
      refine g_icmp_ge (tgt := 75) hc dX12_bringToTable_41 (by decide) (by first | exact hI _ _ | exact hxI2 _ _ | exact hIa _ _ | exact hIb _ _ | exact g_b32 | exact g_and32 | assumption | exact ⟨by omega, by omega⟩) (by first | exact hI _ _ | exact hxI2 _ _ | exact hIa _ _ | exact hIb _ _ | exact g_b32 | exact g_and32 | assumption | exact ⟨by omega, by omega⟩) (fun c1 => ?_) (fun c1 => ?_)
      · skip
        refine g_aldn hc dX12_bringToTable_75 rfl ?_
        refine g_getRk hc lk_X12_76 ca_0 (rc_0_8 hR) dX12_bringToTable_76 ?_
        refine g_iconst hc dX12_bringToTable_79 ?_
        refine g_putI' hc lk_X12_356 ca_697 4 rfl dX12_bringToTable_80 (fun I4 hI4 => ?_)
        refine g_aldn hc dX12_bringToTable_83 rfl ?_
        refine g_getRk hc lk_X12_83 ca_0 (rc_0_9 hR) dX12_bringToTable_84 ?_
        refine g_iconst hc dX12_bringToTable_87 ?_
        refine g_putI' hc lk_X12_330 ca_701 2 rfl dX12_bringToTable_88 (fun I5 hI5 => ?_)
        refine g_vret hc hm dX12_bringToTable_91 ?_
        exact ⟨rfl, rfl, rfl, hR, ⟨by rw [hI5]; exact x_up32 (by rw [hI4]; exact x_up32 hgIm ⟨by decide, by decide⟩) ⟨by decide, by decide⟩, by rw [hI5, g_up_k (by decide), hI4, g_up_k (by decide)]; exact h0Im.1, fun j hj => by rw [hI5, g_up_k (by decide), hI4, g_up_k (by decide)]; exact h0Im.2 j hj, by rw [hI5, g_up_k (by decide), g_up_k (by decide), hI4, g_up_k (by decide), g_up_k (by decide)]; exact h9Im, fun j a c => by rw [hI5, g_up_k (by decide), hI4, g_up_k (by decide)]; exact h5Im j a c, fun f a c => by rw [hI5, g_up_k (by decide), hI4, g_up_k (by decide)]; exact hfIm f a (by omega), by rw [hI5, g_up_k (by decide), hI4, g_up_s], by rw [hI5, g_up_s], fun k hk => by funext j; rw [hI5, g_up_k (by omega), hI4, g_up_k (by omega), hkIm k (by omega) (by omega) (by omega)]⟩, fun k a c d e f => by funext j; rw [hI5, g_up_k f, hI4, g_up_k e, hkIm k a c d]⟩
      · skip
        refine g_aldn hc dX12_bringToTable_44 rfl ?_
        refine g_getRk hc lk_X12_51 ca_0 (rc_0_5 hR) dX12_bringToTable_45 ?_
        refine g_getRk hc lk_X12_200 ca_548 (rc_548_1 hR) dX12_bringToTable_48 ?_
        refine g_getRk hc lk_X12_212 ca_549 (rc_549_0 hR) dX12_bringToTable_51 ?_
        refine g_iconst hc dX12_bringToTable_54 ?_
        refine g_iload_n hc dX12_bringToTable_55 rfl ?_
        refine g_iadd hc dX12_bringToTable_56 ?_
        refine g_aldn hc dX12_bringToTable_57 rfl ?_
        refine g_getRk hc lk_X12_51 ca_0 (rc_0_5 hR) dX12_bringToTable_58 ?_
        refine g_getRvk hc lk_X12_118 ca_548 (rc_548_3 hR) dX12_bringToTable_61 ?_
        refine g_iload_n hc dX12_bringToTable_64 rfl ?_
        have hk9 := (hLf i (by omega) (by omega)).1
        have hfu9 := x_full hk9
        refine g_V1r hc (c_X4_allMask w hR hgIm hlb2 (by omega)) my_X4_allMask mv_X4_allMask (la_0 hlb2) rfl rfl lm_X12_365 rfl (by decide) (Nat.le_of_ble_eq_true rfl) hm dX12_bringToTable_65 ?_
        rw [show g_shl 1 (Im ((4 + 128 * l.toNat) + 43) i) - 1 = g_shl 1 (I ((4 + 128 * l.toNat) + 43) i) - 1 from by rw [hkIm _ (by omega) (by omega) (by omega)]]
        refine g_iast' hc ca_550 (by decide) (by omega) (by omega)  dX12_bringToTable_68 (fun I6 hI6 => ?_)
        have hg4 : ∀ k j, g32 (I6 k j) := by rw [hI6]; exact x_up32 hgIm ⟨by omega, by omega⟩
        have hk4 : ∀ k : Nat, k ≠ 0 → k ≠ 549 → k ≠ 550 → I6 k = I k := fun k a c d => by rw [hI6]; funext j; rw [g_up_k d, hkIm k a c d]
        have h04 : I6 0 12 = l ∧ ∀ j : Int, j ≠ 12 → I6 0 j = I 0 j := ⟨by rw [hI6, g_up_k (by decide)]; exact h0Im.1, fun j hj => by rw [hI6, g_up_k (by decide)]; exact h0Im.2 j hj⟩
        have h94 : I6 549 5 = 0 ∧ I6 549 4 = 0 := by rw [hI6, g_up_k (by decide), g_up_k (by decide)]; exact h9Im
        have h54 : ∀ j : Int, 0 ≤ j → j < 4 → I6 550 j = I 550 j := fun j a c => by rw [hI6, g_up_i (by omega)]; exact h5Im j a c
        have hf4 : (∀ f : Int, 0 ≤ f → f < (i + 1) → I6 550 (4 + f) = g_shl 1 (I ((4 + 128 * l.toNat) + 43) f) - 1) := fun f a c => by
          rw [hI6]
          by_cases e : f = i
          · rw [e, g_up_s]
          · rw [g_up_i (by omega)]; exact hfIm f a (by omega)
        refine g_iinc_2 hc dX12_bringToTable_69 rfl ?_
        refine g_goto (tgt := 30) hc dX12_bringToTable_72 (by decide) ?_
        refine ih_30 _ _ ?_ ?_ ?_ ?_ ?_ ?_ ?_ ?_
        · omega
        · exact hg4
        · exact hk4
        · exact h04
        · exact h94
        · exact h54
        · exact hf4
        · omega
  refine lp_30 20 _ _ ?_ ?_ ?_ ?_ ?_ ?_ ?_ (?_)
  · omega
  · exact hgX
  · exact hkX
  · exact h0X
  · exact h9X
  · exact h5X
  · intro f a c; omega
  · omega
set_option maxHeartbeats 4000000 in
set_option maxRecDepth 100000 in
/-- X12_call -/
theorem c_X12_call (w : g_W) {I : g_I} {J : g_J} {R : g_R} {lb tx : Nat} (hR : g_rf w R lb tx) (hI : ∀ k j, g32 (I k j)) {l : Int} (g1 : g32 l) (hLv : 0 ≤ I 0 10 ∧ I 0 10 ≤ 3) (hLL : ∀ jj : Int, 0 ≤ jj → jj < I 0 10 → g_lok I (4 + 128 * jj.toNat)) : g_Met w g_n I J R yX12_call cX12_call 2 (some .int) 2 0 0 [(gvr w 0), (gvI l)] (fun rr nn II JJ RR => rr = some (gvI (if (0 ≤ l ∧ l < I 0 10) then I (4 + 128 * l.toNat) 0 else -1)) ∧ nn = g_n ∧ JJ = J ∧ (¬ (0 ≤ l ∧ l < I 0 10) → II = I ∧ RR = R) ∧ ((0 ≤ l ∧ l < I 0 10) → g_rf w RR (4 + 128 * l.toNat) tx ∧ x_cal I l II ∧ ∀ k : Nat, k ≠ 0 → k ≠ 549 → k ≠ 550 → k ≠ 697 → k ≠ 701 → II k = I k)) := by
  refine g_intro (own := RX12) [some (gvr w 0), some (gvI l)] (by decide +kernel) rfl (by decide) (Nat.le_of_ble_eq_true rfl) rfl (fun i v hv => g_args 0 i v hv rfl) (fun x hc hm => ?_)
  refine g_iload_n hc dX12_call_0 rfl ?_
  refine g_if_lt (tgt := 12) hc dX12_call_1 (by decide) (by first | exact hI _ _ | exact hxI2 _ _ | exact hIa _ _ | exact hIb _ _ | exact g_b32 | exact g_and32 | assumption | exact ⟨by omega, by omega⟩) (fun c1 => ?_) (fun c1 => ?_)
  · skip
    refine g_iconst hc dX12_call_12 ?_
    refine g_iret hc hm dX12_call_13 ?_
    exact ⟨by rw [if_neg (by omega)], rfl, rfl, fun _ => ⟨rfl, rfl⟩, fun z => by omega⟩
  · skip
    refine g_iload_n hc dX12_call_4 rfl ?_
    refine g_aldn hc dX12_call_5 rfl ?_
    refine g_getI' hc lk_X12_102 ca_0 10 rfl dX12_call_6 ?_
    refine g_icmp_lt (tgt := 14) hc dX12_call_9 (by decide) (by first | exact hI _ _ | exact hxI2 _ _ | exact hIa _ _ | exact hIb _ _ | exact g_b32 | exact g_and32 | assumption | exact ⟨by omega, by omega⟩) (by first | exact hI _ _ | exact hxI2 _ _ | exact hIa _ _ | exact hIb _ _ | exact g_b32 | exact g_and32 | assumption | exact ⟨by omega, by omega⟩) (fun c2 => ?_) (fun c2 => ?_)
    · skip
      refine g_aldn hc dX12_call_14 rfl ?_
      refine g_iload_n hc dX12_call_15 rfl ?_
      refine g_V1 hc (c_X12_bringToTable w hR hI ⟨by omega, by omega⟩ (hLL l (by omega) (by omega))) my_X12_bringToTable mv_X12_bringToTable ca_0 rfl rfl lm_X12_115 rfl (by decide) (Nat.le_of_ble_eq_true rfl) hm dX12_call_16 (fun r3 n3 I3 J3 R3 hp3 => ?_)
      obtain ⟨rfl, rfl, rfl, hR3, hcl3, hkk3⟩ := hp3
      have hR := hR3
      have hcl := hcl3
      have hkk := hkk3
      refine g_aldn hc dX12_call_19 rfl ?_
      refine g_getRk hc lk_X12_51 ca_0 (rc_0_5 hR) dX12_call_20 ?_
      refine g_getRvk hc lk_X12_118 ca_548 (rc_548_3 hR) dX12_call_23 ?_
      refine g_getI' hc lk_X12_122 (la_0 (gl_of (i := l) (by omega) (by omega))) 0 rfl dX12_call_26 ?_
      refine g_iret hc hm dX12_call_29 ?_
      exact ⟨by rw [if_pos (by omega), hkk _ (by omega) (by omega) (by omega) (by omega) (by omega)], rfl, rfl, fun z => by omega, fun _ => ⟨hR, hcl, hkk⟩⟩
    · skip
      refine g_iconst hc dX12_call_12 ?_
      refine g_iret hc hm dX12_call_13 ?_
      exact ⟨by rw [if_neg (by omega)], rfl, rfl, fun _ => ⟨rfl, rfl⟩, fun z => by omega⟩
