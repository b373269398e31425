theorem q_rgt_in {I : g_I} {b : Nat} (hC : g_cin I b) {s i : Int} (h1 : 0 ≤ s ∧ s < I b 0) (h2 : 0 ≤ i ∧ i < I (b + 14) s) : 0 ≤ g_rgt I b s i ∧ g_rgt I b s i ≤ 200060000 := by
  obtain ⟨⟨w1, w2⟩, w3, w4⟩ := (hC.1.2.2.1 s h1.1 h1.2).2.1 i h2.1 h2.2
  obtain ⟨-, -, -, hit⟩ := hC.1.2.2.2 _ w1 w2
  obtain ⟨-, -, -, -, -, ht⟩ := hit _ w3 w4
  have a := q_val_in hC (nd := 100 + I (b + 16 + s.toNat) i) (by omega)
  have c := q_val_in hC (nd := I (b + 127) (I (b + 16 + s.toNat) i * 4 + I (b + 29 + s.toNat) i)) (by omega)
  rw [← q_bhd ⟨w1, w2⟩ ⟨w3, w4⟩] at c
  unfold q_val at a
  rw [if_neg (by omega), show 100 + I (b + 16 + s.toNat) i - 100 = I (b + 16 + s.toNat) i by omega] at a
  unfold g_rgt
  split <;> omega
theorem q_rgs_in {I : g_I} {b : Nat} (hC : g_cin I b) {s : Int} (h1 : 0 ≤ s ∧ s < I b 0) : 0 ≤ g_rgs I b s ∧ g_rgs I b s ≤ 1200360000 := by
  have hs := (hC.1.2.2.1 s h1.1 h1.2).1
  have := g_sum_in (f := fun i => g_rgt I b s i) (m := 200060000) (I (b + 14) s).toNat (fun i h0 h2 => q_rgt_in hC h1 ⟨h0, by omega⟩)
  unfold g_rgs
  omega
theorem q_bit0 {k : Int} (h : 0 ≤ k ∧ k < 31) : ¬ g_bit 0 k := by
  have := g_bit_n (a := 0) (k := k.toNat) (by decide) (by omega)
  rw [show ((k.toNat : Nat) : Int) = k by omega, Nat.zero_testBit] at this
  exact fun z => absurd (this.mp z) (by decide)
/-- DEMAND of one who is THERE -/
def q_dm (I : g_I) (b : Nat) (s : Int) : Int := if I (b + 2 + s.toNat) 4 = 1 ∧ ¬ g_bit (I 550 3) 1 then 0 else (I (b + 2 + s.toNat) 0 * (10 - I (b + 2 + s.toNat) 5)).tdiv 10
theorem q_dm_dem {I : g_I} {b : Nat} {s : Int} (hl : 0 ≤ I 550 3 ∧ I 550 3 ≤ 3) : g_dem I b s = if g_thr I b s = true then q_dm I b s else 0 := by
  have h := g_law1 hl
  unfold g_dem q_dm
  by_cases ht : g_thr I b s = true
  · rw [if_pos ht]
    by_cases hd : I (b + 2 + s.toNat) 4 = 1 ∧ ¬ g_bit (I 550 3) 1
    · rw [if_pos hd, if_neg (fun z => by rcases z.2 with y | y; exact y hd.1; exact hd.2 (h.1.mpr y))]
    · rw [if_neg hd, if_pos ⟨ht, by
        by_cases y : I (b + 2 + s.toNat) 4 = 1
        · exact Or.inr (fun x => hd ⟨y, fun z => (h.1.mp z) x⟩)
        · exact Or.inl y⟩]
  · rw [if_neg ht, if_neg (fun z => ht z.1)]
theorem q_cmp {a c : Int} : (if a - c < 0 then (-1 : Int) else if a - c = 0 then 0 else 1) = g_cmp a c := by
  unfold g_cmp
  split <;> split <;> (try split) <;> (try split) <;> omega
set_option maxHeartbeats 4000000 in
set_option maxRecDepth 100000 in
/-- X13_regretsOf -/
theorem c_X13_regretsOf (w : g_W) {I : g_I} {J : g_J} {R : g_R} {lb tx : Nat} (hR : g_rf w R lb tx) {M : g_I} (hmM : q_rel I lb M) {s : Int} (h1 : 0 ≤ s ∧ s < I lb 0) : g_Met w g_n M J R yX13_regretsOf cX13_regretsOf 5 (some .long) 57 0 0 [(gvr w 703), (gvI s)] (x_rel w (some (gvL (g_rgs I lb s))) x_a M J lb) := by
  refine g_intro (own := RX13) [some (gvr w 703), some (gvI s), none, none, none] (by decide +kernel) rfl (by decide) (Nat.le_of_ble_eq_true rfl) rfl (fun i v hv => g_args 3 i v hv rfl) (fun x hc hm => ?_)
  have hfM : ∀ (k : Nat) (j : Int), ¬ x_a k j → M k j = M k j := fun _ _ _ => rfl
  have hI := hmM.gi
  have hTb := q_b1 hmM
  have hLv := hmM.lv
  have hC := hmM.cin
  have hL := hC.1
  obtain ⟨hn0, hn1, hLs, hLf⟩ := id hL
  obtain ⟨-, hC1, hC2, hC3, hC4, hC5, hC6, hC7⟩ := id hC
  have hTs := q_ts hmM (by omega)
  obtain ⟨hst, hway, hg0, hg1, hg2, hg3, hg4, hg5, hg6⟩ := hLs s h1.1 h1.2
  have hqS := (q_lfS hmM h1).2.1
  refine g_lconst hc dX13_regretsOf_0 0 (by decide +kernel) ?_
  refine g_lstore_2 hc dX13_regretsOf_1 rfl ?_
  refine g_iconst hc dX13_regretsOf_2 ?_
  refine g_istore_4 hc dX13_regretsOf_3 rfl ?_
  have lp_5 : ∀ (fu : Nat) (S f : Int) (Mm : g_I) (Rm : g_R), 0 ≤ f ∧ f ≤ I lb 1 → (∃ c, q_cut I lb s f c ∧ S = g_sum (g_rgt I lb s) c.toNat) → (∃ tm, g_rf w Rm lb tm) → q_rel I lb Mm → (∀ (k : Nat) (j : Int), ¬ x_a k j → Mm k j = M k j) → I lb 1 - f < (fu : Int) → G w x (x_rel w (some (gvL (g_rgs I lb s))) x_a M J lb) 0 0 g_n Mm J Rm 5 [some (gvr w 703), some (gvI s), some (gvL S), none, some (gvI f)] [] := by
    intro fu
    induction fu with
    | zero => intro S f Mm Rm h3 h4 hR hmMm hfMm hfu; exfalso; omega
    | succ fu ih =>
      intro S f Mm Rm h3 h4 hR hmMm hfMm hfu
      obtain ⟨tm, hR⟩ := hR
      have ih_5 := ih
      refine g_iload hc dX13_regretsOf_5 rfl ?_
      refine g_aldn hc dX13_regretsOf_7 rfl ?_
      refine g_getRk hc lk_X13_49 ca_703 (rc_703_22 hR) dX13_regretsOf_8 ?_
      refine g_aldn hc dX13_regretsOf_11 rfl ?_
      refine g_getIe hc lk_X13_52 ca_703 24 rfl (show Mm 703 24 = I 0 12 from hmMm.tab) dX13_regretsOf_12 ?_
      refine g_ialde hc ca_712 (by decide) (by omega) (by omega) (show Mm 712 (I 0 12) = I lb 1 from q_fm hmMm (by omega)) dX13_regretsOf_15 ?_
      refine g_icmp_ge (tgt := 56) hc dX13_regretsOf_16 (by decide) (by first | exact hI _ _ | exact hxI2 _ _ | exact hIa _ _ | exact hIb _ _ | exact g_b32 | exact g_and32 | assumption | exact ⟨by omega, by omega⟩) (by first | exact hI _ _ | exact hxI2 _ _ | exact hIa _ _ | exact hIb _ _ | exact g_b32 | exact g_and32 | assumption | exact ⟨by omega, by omega⟩) (fun c1 => ?_) (fun c1 => ?_)
      · skip
        refine g_lload_n hc dX13_regretsOf_56 rfl ?_
        refine g_lret hc hm dX13_regretsOf_57 ?_
        obtain ⟨c, hc, hS⟩ := h4
        have hcs : c = I (lb + 14) s := by
          by_cases z : c = I (lb + 14) s
          · exact z
          · have a := hc.2.2.2 c (Int.le_refl _) (by have := hc.2.1; omega)
            have d := (hway c hc.1 (by have := hc.2.1; omega)).1.2
            omega
        exact x_endL (by rw [hS, hcs]; rfl) hfMm hmMm.g hR
      · skip
        refine g_lload_n hc dX13_regretsOf_19 rfl ?_
        refine g_aldn hc dX13_regretsOf_20 rfl ?_
        refine g_iload_n hc dX13_regretsOf_21 rfl ?_
        refine g_iload hc dX13_regretsOf_22 rfl ?_
        refine g_V2 hc (c_X13_branchOn w hR hmMm (by omega) (by first | exact hI _ _ | exact hmM.g _ _ | exact g_b32 | exact g_and32 | exact g_or32 | exact g_shl32 | assumption | exact ⟨by omega, by omega⟩)) my_X13_branchOn mv_X13_branchOn ca_703 rfl rfl lm_X13_387 rfl (by decide) (Nat.le_of_ble_eq_true rfl) hm dX13_regretsOf_24 (fun r3 n3 I3 J3 R3 hp3 => ?_)
        obtain ⟨rfl, rfl, hK3, hX3, rfl, t3, hR⟩ := hp3
        have hmI3 : q_rel I lb I3 := q_cg (fun k j hk => hK3 k j (fun z => hk (x_wa z))) hX3 hmMm
        have hfI3 : ∀ (k : Nat) (j : Int), ¬ x_a k j → I3 k j = M k j := fun k j hk => (hK3 k j (fun z => hk (x_wa z))).trans (hfMm k j hk)
        refine g_iconst hc dX13_regretsOf_27 ?_
        refine g_icmp_ne (tgt := 35) hc dX13_regretsOf_28 (by decide) (by unfold q_bo; split <;> first | exact hI _ _ | exact ⟨by decide, by decide⟩) (by exact ⟨by decide, by decide⟩) (fun c2 => ?_) (fun c2 => ?_)
        · skip
          have hne : ¬ g_stp I lb s f = -1 := fun z => c2 (by unfold q_bo; rw [if_pos z])
          have hbo : q_bo I lb s f = I (lb + 29 + s.toNat) (g_stp I lb s f) := by unfold q_bo; rw [if_neg hne]
          have hws : (0 ≤ f ∧ f < I lb 1) ∧ 0 ≤ q_bo I lb s f ∧ q_bo I lb s f < I (lb + 43) f := by
            rcases @q_stp I lb s f with ⟨z, -⟩ | ⟨z1, z2, z3⟩
            · exact absurd z hne
            · have := hway _ z1 z2
              rw [z3] at this
              rw [hbo]
              omega
          refine g_aldn hc dX13_regretsOf_35 rfl ?_
          refine g_iload hc dX13_regretsOf_36 rfl ?_
          refine g_aldn hc dX13_regretsOf_38 rfl ?_
          refine g_iload_n hc dX13_regretsOf_39 rfl ?_
          refine g_iload hc dX13_regretsOf_40 rfl ?_
          refine g_V2 hc (c_X13_branchOn w hR hmI3 (by omega) (by first | exact hI _ _ | exact hmM.g _ _ | exact g_b32 | exact g_and32 | exact g_or32 | exact g_shl32 | assumption | exact ⟨by omega, by omega⟩)) my_X13_branchOn mv_X13_branchOn ca_703 rfl rfl lm_X13_387 rfl (by decide) (Nat.le_of_ble_eq_true rfl) hm dX13_regretsOf_42 (fun r4 n4 I4 J4 R4 hp4 => ?_)
          obtain ⟨rfl, rfl, hK4, hX4, rfl, t4, hR⟩ := hp4
          have hmI4 : q_rel I lb I4 := q_cg (fun k j hk => hK4 k j (fun z => hk (x_wa z))) hX4 hmI3
          have hfI4 : ∀ (k : Nat) (j : Int), ¬ x_a k j → I4 k j = M k j := fun k j hk => (hK4 k j (fun z => hk (x_wa z))).trans (hfI3 k j hk)
          refine g_V2 hc (c_X13_regretOf w hR hmI4 (by omega) (by omega)) my_X13_regretOf mv_X13_regretOf ca_703 rfl rfl lm_X13_390 rfl (by decide) (Nat.le_of_ble_eq_true rfl) hm dX13_regretsOf_45 (fun r5 n5 I5 J5 R5 hp5 => ?_)
          obtain ⟨rfl, rfl, hK5, hX5, rfl, t5, hR⟩ := hp5
          have hmI5 : q_rel I lb I5 := q_cg hK5 hX5 hmI4
          have hfI5 : ∀ (k : Nat) (j : Int), ¬ x_a k j → I5 k j = M k j := fun k j hk => (hK5 k j hk).trans (hfI4 k j hk)
          refine g_ladd hc dX13_regretsOf_48 ?_
          refine g_lstore_2 hc dX13_regretsOf_49 rfl ?_
          refine g_iinc_4 hc dX13_regretsOf_50 rfl ?_
          refine g_goto (tgt := 5) hc dX13_regretsOf_53 (by decide) ?_
          refine ih_5 _ _ _ _ ?_ ?_ ?_ ?_ ?_ ?_
          · omega
          · obtain ⟨c, hc, hS⟩ := h4
            obtain ⟨e1, e2, e3, e4⟩ := q_cut_y hqS h1 hc hne
            exact ⟨c + 1, e4, by rw [g_sum_i hc.1, ← hS]; show _ = S + g_rgt I lb s c; rw [q_rg_s e3, hbo, e1]⟩
          · exact ⟨_, hR⟩
          · exact hmI5
          · exact hfI5
          · omega
        · skip
          have hneg : g_stp I lb s f = -1 := by
            rcases @q_stp I lb s f with ⟨z, -⟩ | ⟨z1, z2, z3⟩
            · exact z
            · have hc9 : q_bo I lb s f = -1 := c2
              unfold q_bo at hc9
              rw [if_neg (by omega)] at hc9
              have := hway _ z1 z2
              omega
          refine g_lconst hc dX13_regretsOf_31 0 (by decide +kernel) ?_
          refine g_goto (tgt := 48) hc dX13_regretsOf_32 (by decide) ?_
          refine g_ladd hc dX13_regretsOf_48 ?_
          refine g_lstore_2 hc dX13_regretsOf_49 rfl ?_
          refine g_iinc_4 hc dX13_regretsOf_50 rfl ?_
          refine g_goto (tgt := 5) hc dX13_regretsOf_53 (by decide) ?_
          refine ih_5 _ _ _ _ ?_ ?_ ?_ ?_ ?_ ?_
          · omega
          · obtain ⟨c, hc, hS⟩ := h4
            exact ⟨c, q_cut_n hc hneg, by omega⟩
          · exact ⟨_, hR⟩
          · exact hmI3
          · exact hfI3
          · omega
  refine lp_5 19 _ _ _ _ ?_ ?_ ?_ ?_ ?_ (?_)
  · omega
  · exact ⟨0, ⟨Int.le_refl _, by omega, fun i a c => by omega, fun i a c => by have := (hway i a c).1.1; omega⟩, rfl⟩
  · exact ⟨_, hR⟩
  · exact hmM
  · exact hfM
  · omega
set_option maxHeartbeats 4000000 in
set_option maxRecDepth 100000 in
/-- X13_weightOf -/
theorem c_X13_weightOf (w : g_W) {I : g_I} {J : g_J} {R : g_R} {lb tx : Nat} (hR : g_rf w R lb tx) {M : g_I} (hmM : q_rel I lb M) {s : Int} (h1 : 0 ≤ s ∧ s < I lb 0) : g_Met w g_n M J R yX13_weightOf cX13_weightOf 2 (some .long) 58 0 0 [(gvr w 703), (gvI s)] (x_rel w (some (gvL (g_wgt I lb s))) x_a M J lb) := by
  refine g_intro (own := RX13) [some (gvr w 703), some (gvI s)] (by decide +kernel) rfl (by decide) (Nat.le_of_ble_eq_true rfl) rfl (fun i v hv => g_args 0 i v hv rfl) (fun x hc hm => ?_)
  have hfM : ∀ (k : Nat) (j : Int), ¬ x_a k j → M k j = M k j := fun _ _ _ => rfl
  have hI := hmM.gi
  have hTb := q_b1 hmM
  have hLv := hmM.lv
  have hC := hmM.cin
  have hL := hC.1
  obtain ⟨hn0, hn1, hLs, hLf⟩ := id hL
  obtain ⟨-, hC1, hC2, hC3, hC4, hC5, hC6, hC7⟩ := id hC
  have hTs := q_ts hmM (by omega)
  have hlw := g_law1 (m := I 550 3) (by omega)
  have hrg := q_rgs_in hC h1
  refine g_aldn hc dX13_weightOf_0 rfl ?_
  refine g_iload_n hc dX13_weightOf_1 rfl ?_
  refine g_V1 hc (c_X13_isThere w hR hmM (by omega)) my_X13_isThere mv_X13_isThere ca_703 rfl rfl lm_X13_324 rfl (by decide) (Nat.le_of_ble_eq_true rfl) hm dX13_weightOf_2 (fun r3 n3 I3 J3 R3 hp3 => ?_)
  obtain ⟨rfl, rfl, hK3, hX3, rfl, t3, hR⟩ := hp3
  have hmI3 : q_rel I lb I3 := q_cg (fun k j hk => hK3 k j (fun z => hk (x_wa z))) hX3 hmM
  have hfI3 : ∀ (k : Nat) (j : Int), ¬ x_a k j → I3 k j = M k j := fun k j hk => (hK3 k j (fun z => hk (x_wa z))).trans (hfM k j hk)
  refine g_ifb_eq (tgt := 25) hc dX13_weightOf_5 (by decide)  (fun c1 => ?_) (fun c1 => ?_)
  · skip
    have hns : ¬ g_shs I lb s := fun z => c1 z.1
    refine g_lconst hc dX13_weightOf_25 0 (by decide +kernel) ?_
    refine g_lret hc hm dX13_weightOf_26 ?_
    exact x_endL (by rw [g_wgt, if_neg hns]) hfI3 hmI3.g hR
  · skip
    have hth := c1
    refine g_aldn hc dX13_weightOf_8 rfl ?_
    refine g_iload_n hc dX13_weightOf_9 rfl ?_
    refine g_V1r hc (c_X13_dead w hR hmI3 (by omega)) my_X13_dead mv_X13_dead ca_703 rfl rfl lm_X13_367 rfl (by decide) (Nat.le_of_ble_eq_true rfl) hm dX13_weightOf_10 ?_
    refine g_iconst hc dX13_weightOf_13 ?_
    refine g_icmp_ne (tgt := 27) hc dX13_weightOf_14 (by decide) (by first | exact hI _ _ | exact hxI2 _ _ | exact hIa _ _ | exact hIb _ _ | exact g_b32 | exact g_and32 | assumption | exact ⟨by omega, by omega⟩) (by first | exact hI _ _ | exact hxI2 _ _ | exact hIa _ _ | exact hIb _ _ | exact g_b32 | exact g_and32 | assumption | exact ⟨by omega, by omega⟩) (fun c2 => ?_) (fun c2 => ?_)
    · skip
      have hsh : g_shs I lb s := ⟨hth, Or.inl c2⟩
      refine g_lconst hc dX13_weightOf_27 1 (by decide +kernel) ?_
      refine g_aldn hc dX13_weightOf_28 rfl ?_
      refine g_iload_n hc dX13_weightOf_29 rfl ?_
      refine g_V1 hc (c_X13_regretsOf w hR hmI3 (by omega)) my_X13_regretsOf mv_X13_regretsOf ca_703 rfl rfl lm_X13_393 rfl (by decide) (Nat.le_of_ble_eq_true rfl) hm dX13_weightOf_30 (fun r4 n4 I4 J4 R4 hp4 => ?_)
      obtain ⟨rfl, rfl, hK4, hX4, rfl, t4, hR⟩ := hp4
      have hmI4 : q_rel I lb I4 := q_cg hK4 hX4 hmI3
      have hfI4 : ∀ (k : Nat) (j : Int), ¬ x_a k j → I4 k j = M k j := fun k j hk => (hK4 k j hk).trans (hfI3 k j hk)
      refine g_ldc2 (k := 100) hc dX13_weightOf_33 _ lc_X13_377 (by decide +kernel) ?_
      refine g_ldiv hc dX13_weightOf_36 (by exact ⟨by omega, by omega⟩) (by exact ⟨by omega, by omega⟩) (by omega) ?_
      refine g_ladd hc dX13_weightOf_37 ?_
      refine g_lret hc hm dX13_weightOf_38 ?_
      exact x_endL (by rw [g_wgt, if_pos hsh]) hfI4 hmI4.g hR
    · skip
      have hd1 := c2
      refine g_aldn hc dX13_weightOf_17 rfl ?_
      refine g_iconst hc dX13_weightOf_18 ?_
      refine g_V1r hc (c_X13_isLaw w hR hmI3 ) my_X13_isLaw mv_X13_isLaw ca_703 rfl rfl lm_X13_396 rfl (by decide) (Nat.le_of_ble_eq_true rfl) hm dX13_weightOf_19 ?_
      refine g_ifb_ne (tgt := 27) hc dX13_weightOf_22 (by decide)  (fun c3 => ?_) (fun c3 => ?_)
      · skip
        have hsh : g_shs I lb s := ⟨hth, Or.inr (hlw.1.mp c3)⟩
        refine g_lconst hc dX13_weightOf_27 1 (by decide +kernel) ?_
        refine g_aldn hc dX13_weightOf_28 rfl ?_
        refine g_iload_n hc dX13_weightOf_29 rfl ?_
        refine g_V1 hc (c_X13_regretsOf w hR hmI3 (by omega)) my_X13_regretsOf mv_X13_regretsOf ca_703 rfl rfl lm_X13_393 rfl (by decide) (Nat.le_of_ble_eq_true rfl) hm dX13_weightOf_30 (fun r5 n5 I5 J5 R5 hp5 => ?_)
        obtain ⟨rfl, rfl, hK5, hX5, rfl, t5, hR⟩ := hp5
        have hmI5 : q_rel I lb I5 := q_cg hK5 hX5 hmI3
        have hfI5 : ∀ (k : Nat) (j : Int), ¬ x_a k j → I5 k j = M k j := fun k j hk => (hK5 k j hk).trans (hfI3 k j hk)
        refine g_ldc2 (k := 100) hc dX13_weightOf_33 _ lc_X13_377 (by decide +kernel) ?_
        refine g_ldiv hc dX13_weightOf_36 (by exact ⟨by omega, by omega⟩) (by exact ⟨by omega, by omega⟩) (by omega) ?_
        refine g_ladd hc dX13_weightOf_37 ?_
        refine g_lret hc hm dX13_weightOf_38 ?_
        exact x_endL (by rw [g_wgt, if_pos hsh]) hfI5 hmI5.g hR
      · skip
        have hns : ¬ g_shs I lb s := fun z => by
          rcases z.2 with y | y
          · exact y hd1
          · exact c3 (hlw.1.mpr y)
        refine g_lconst hc dX13_weightOf_25 0 (by decide +kernel) ?_
        refine g_lret hc hm dX13_weightOf_26 ?_
        exact x_endL (by rw [g_wgt, if_neg hns]) hfI3 hmI3.g hR
set_option maxHeartbeats 4000000 in
set_option maxRecDepth 100000 in
/-- X13_demandOf -/
theorem c_X13_demandOf (w : g_W) {I : g_I} {J : g_J} {R : g_R} {lb tx : Nat} (hR : g_rf w R lb tx) {M : g_I} (hmM : q_rel I lb M) {s : Int} (h1 : 0 ≤ s ∧ s < I lb 0) : g_Met w g_n M J R yX13_demandOf cX13_demandOf 2 (some .int) 3 0 0 [(gvr w 703), (gvI s)] (x_rel w (some (gvI (q_dm I lb s))) x_w M J lb) := by
  refine g_intro (own := RX13) [some (gvr w 703), some (gvI s)] (by decide +kernel) rfl (by decide) (Nat.le_of_ble_eq_true rfl) rfl (fun i v hv => g_args 0 i v hv rfl) (fun x hc hm => ?_)
  have hfM : ∀ (k : Nat) (j : Int), ¬ x_w k j → M k j = M k j := fun _ _ _ => rfl
  have hI := hmM.gi
  have hTb := q_b1 hmM
  have hLv := hmM.lv
  have hC := hmM.cin
  have hL := hC.1
  obtain ⟨hn0, hn1, hLs, hLf⟩ := id hL
  obtain ⟨-, hC1, hC2, hC3, hC4, hC5, hC6, hC7⟩ := id hC
  have hTs := q_ts hmM (by omega)
  obtain ⟨-, -, a0, a1, a2, a3, a4, a5, -⟩ := hLs s h1.1 h1.2
  have hmb := g_mulb (a := I (lb + 2 + s.toNat) 0) (b := 10 - I (lb + 2 + s.toNat) 5) (m := 693) (n := 10) (by omega) (by omega)
  refine g_aldn hc dX13_demandOf_0 rfl ?_
  refine g_iload_n hc dX13_demandOf_1 rfl ?_
  refine g_V1r hc (c_X13_dead w hR hmM (by omega)) my_X13_dead mv_X13_dead ca_703 rfl rfl lm_X13_367 rfl (by decide) (Nat.le_of_ble_eq_true rfl) hm dX13_demandOf_2 ?_
  refine g_iconst hc dX13_demandOf_5 ?_
  refine g_icmp_ne (tgt := 19) hc dX13_demandOf_6 (by decide) (by first | exact hI _ _ | exact hxI2 _ _ | exact hIa _ _ | exact hIb _ _ | exact g_b32 | exact g_and32 | assumption | exact ⟨by omega, by omega⟩) (by first | exact hI _ _ | exact hxI2 _ _ | exact hIa _ _ | exact hIb _ _ | exact g_b32 | exact g_and32 | assumption | exact ⟨by omega, by omega⟩) (fun c1 => ?_) (fun c1 => ?_)
  · skip
    have hnd : ¬ (I (lb + 2 + s.toNat) 4 = 1 ∧ ¬ g_bit (I 550 3) 1) := fun z => c1 z.1
    refine g_aldn hc dX13_demandOf_19 rfl ?_
    refine g_iload_n hc dX13_demandOf_20 rfl ?_
    refine g_iconst hc dX13_demandOf_21 ?_
    refine g_V2 hc (c_X13_hasOf w hR hmM (by omega) (by omega)) my_X13_hasOf mv_X13_hasOf ca_703 rfl rfl lm_X13_318 rfl (by decide) (Nat.le_of_ble_eq_true rfl) hm dX13_demandOf_22 (fun r3 n3 I3 J3 R3 hp3 => ?_)
    obtain ⟨⟨rfl, rfl, hK3, hX3, rfl, t3, hR⟩, hwI3⟩ := hp3
    have hmI3 : q_rel I lb I3 := q_cg (fun k j hk => hK3 k j (fun z => hk (x_wa z))) hX3 hmM
    have hfI3 : ∀ (k : Nat) (j : Int), ¬ x_w k j → I3 k j = M k j := fun k j hk => (hK3 k j hk).trans (hfM k j hk)
    refine g_bipush hc dX13_demandOf_25 (by decide +kernel) ?_
    refine g_aldn hc dX13_demandOf_27 rfl ?_
    refine g_getRk hc lk_X13_37 ca_703 (rc_703_18 hR) dX13_demandOf_28 ?_
    refine g_aldn hc dX13_demandOf_31 rfl ?_
    refine g_aldn hc dX13_demandOf_32 rfl ?_
    refine g_getIe hc lk_X13_52 ca_703 24 rfl (show I3 703 24 = I 0 12 from hmI3.tab) dX13_demandOf_33 ?_
    refine g_iload_n hc dX13_demandOf_36 rfl ?_
    refine g_V2r hc (c_X13_leafAt w) my_X13_leafAt mv_X13_leafAt ca_703 rfl rfl lm_X13_235 rfl (by decide) (Nat.le_of_ble_eq_true rfl) hm dX13_demandOf_37 ?_
    refine g_iconst hc dX13_demandOf_40 ?_
    refine g_iadd hc dX13_demandOf_41 ?_
    refine g_ialde hc ca_708 (by decide) (by omega) (by omega) (show I3 708 ((((I 0 12) * 12 + s) * 7) + 4) = I (lb + 2 + s.toNat) 5 from q_l4 hmI3 (by omega)) dX13_demandOf_42 ?_
    refine g_isub hc dX13_demandOf_43 ?_
    refine g_imul hc dX13_demandOf_44 ?_
    refine g_bipush hc dX13_demandOf_45 (by decide +kernel) ?_
    refine g_idiv hc dX13_demandOf_47 (by exact ⟨by omega, by omega⟩) (by exact ⟨by decide, by decide⟩) (by decide) ?_
    refine g_iret hc hm dX13_demandOf_48 ?_
    exact x_end (by rw [q_dm, if_neg hnd]) hfI3 hmI3.g hR
  · skip
    have hd1 := c1
    refine g_aldn hc dX13_demandOf_9 rfl ?_
    refine g_iconst hc dX13_demandOf_10 ?_
    refine g_V1r hc (c_X13_isLaw w hR hmM ) my_X13_isLaw mv_X13_isLaw ca_703 rfl rfl lm_X13_396 rfl (by decide) (Nat.le_of_ble_eq_true rfl) hm dX13_demandOf_11 ?_
    refine g_ifb_ne (tgt := 19) hc dX13_demandOf_14 (by decide)  (fun c2 => ?_) (fun c2 => ?_)
    · skip
      have hnd : ¬ (I (lb + 2 + s.toNat) 4 = 1 ∧ ¬ g_bit (I 550 3) 1) := fun z => z.2 c2
      refine g_aldn hc dX13_demandOf_19 rfl ?_
      refine g_iload_n hc dX13_demandOf_20 rfl ?_
      refine g_iconst hc dX13_demandOf_21 ?_
      refine g_V2 hc (c_X13_hasOf w hR hmM (by omega) (by omega)) my_X13_hasOf mv_X13_hasOf ca_703 rfl rfl lm_X13_318 rfl (by decide) (Nat.le_of_ble_eq_true rfl) hm dX13_demandOf_22 (fun r4 n4 I4 J4 R4 hp4 => ?_)
      obtain ⟨⟨rfl, rfl, hK4, hX4, rfl, t4, hR⟩, hwI4⟩ := hp4
      have hmI4 : q_rel I lb I4 := q_cg (fun k j hk => hK4 k j (fun z => hk (x_wa z))) hX4 hmM
      have hfI4 : ∀ (k : Nat) (j : Int), ¬ x_w k j → I4 k j = M k j := fun k j hk => (hK4 k j hk).trans (hfM k j hk)
      refine g_bipush hc dX13_demandOf_25 (by decide +kernel) ?_
      refine g_aldn hc dX13_demandOf_27 rfl ?_
      refine g_getRk hc lk_X13_37 ca_703 (rc_703_18 hR) dX13_demandOf_28 ?_
      refine g_aldn hc dX13_demandOf_31 rfl ?_
      refine g_aldn hc dX13_demandOf_32 rfl ?_
      refine g_getIe hc lk_X13_52 ca_703 24 rfl (show I4 703 24 = I 0 12 from hmI4.tab) dX13_demandOf_33 ?_
      refine g_iload_n hc dX13_demandOf_36 rfl ?_
      refine g_V2r hc (c_X13_leafAt w) my_X13_leafAt mv_X13_leafAt ca_703 rfl rfl lm_X13_235 rfl (by decide) (Nat.le_of_ble_eq_true rfl) hm dX13_demandOf_37 ?_
      refine g_iconst hc dX13_demandOf_40 ?_
      refine g_iadd hc dX13_demandOf_41 ?_
      refine g_ialde hc ca_708 (by decide) (by omega) (by omega) (show I4 708 ((((I 0 12) * 12 + s) * 7) + 4) = I (lb + 2 + s.toNat) 5 from q_l4 hmI4 (by omega)) dX13_demandOf_42 ?_
      refine g_isub hc dX13_demandOf_43 ?_
      refine g_imul hc dX13_demandOf_44 ?_
      refine g_bipush hc dX13_demandOf_45 (by decide +kernel) ?_
      refine g_idiv hc dX13_demandOf_47 (by exact ⟨by omega, by omega⟩) (by exact ⟨by decide, by decide⟩) (by decide) ?_
      refine g_iret hc hm dX13_demandOf_48 ?_
      exact x_end (by rw [q_dm, if_neg hnd]) hfI4 hmI4.g hR
    · skip
      have hnl := c2
      refine g_iconst hc dX13_demandOf_17 ?_
      refine g_iret hc hm dX13_demandOf_18 ?_
      exact x_end (by rw [q_dm, if_pos ⟨hd1, hnl⟩]) hfM hmM.g hR
set_option maxHeartbeats 4000000 in
set_option maxRecDepth 100000 in
/-- X13_demands -/
theorem c_X13_demands (w : g_W) {I : g_I} {J : g_J} {R : g_R} {lb tx : Nat} (hR : g_rf w R lb tx) {M : g_I} (hmM : q_rel I lb M) {wo : Int} (h0 : wo = 0) (ht : 0 ≤ I 0 12) : g_Met w g_n M J R yX13_demands cX13_demands 4 (some .int) 4 0 0 [(gvr w 703), (gvI wo)] (x_rel w (some (gvI (g_dms I lb))) x_a M J lb) := by
  refine g_intro (own := RX13) [some (gvr w 703), some (gvI wo), none, none] (by decide +kernel) rfl (by decide) (Nat.le_of_ble_eq_true rfl) rfl (fun i v hv => g_args 2 i v hv rfl) (fun x hc hm => ?_)
  have hfM : ∀ (k : Nat) (j : Int), ¬ x_a k j → M k j = M k j := fun _ _ _ => rfl
  have hI := hmM.gi
  have hTb := q_b1 hmM
  have hLv := hmM.lv
  have hC := hmM.cin
  have hL := hC.1
  obtain ⟨hn0, hn1, hLs, hLf⟩ := id hL
  obtain ⟨-, hC1, hC2, hC3, hC4, hC5, hC6, hC7⟩ := id hC
  have hTs := q_ts hmM (by omega)
  refine g_iconst hc dX13_demands_0 ?_
  refine g_istore_2 hc dX13_demands_1 rfl ?_
  refine g_iconst hc dX13_demands_2 ?_
  refine g_istore_3 hc dX13_demands_3 rfl ?_
  have lp_4 : ∀ (fu : Nat) (a i : Int) (Mm : g_I) (Rm : g_R), 0 ≤ i ∧ i ≤ I lb 0 → a = g_sum (g_dem I lb) i.toNat → (∃ tm, g_rf w Rm lb tm) → q_rel I lb Mm → (∀ (k : Nat) (j : Int), ¬ x_a k j → Mm k j = M k j) → I lb 0 - i < (fu : Int) → G w x (x_rel w (some (gvI (g_dms I lb))) x_a M J lb) 0 0 g_n Mm J Rm 4 [some (gvr w 703), some (gvI wo), some (gvI a), some (gvI i)] [] := by
    intro fu
    induction fu with
    | zero => intro a i Mm Rm h3 h4 hR hmMm hfMm hfu; exfalso; omega
    | succ fu ih =>
      intro a i Mm Rm h3 h4 hR hmMm hfMm hfu
      obtain ⟨tm, hR⟩ := hR
      have ih_4 := ih
      refine g_iload_n hc dX13_demands_4 rfl ?_
      refine g_aldn hc dX13_demands_5 rfl ?_
      refine g_getRk hc lk_X13_46 ca_703 (rc_703_21 hR) dX13_demands_6 ?_
      refine g_aldn hc dX13_demands_9 rfl ?_
      refine g_getIe hc lk_X13_52 ca_703 24 rfl (show Mm 703 24 = I 0 12 from hmMm.tab) dX13_demands_10 ?_
      refine g_ialde hc ca_711 (by decide) (by omega) (by omega) (show Mm 711 (I 0 12) = I lb 0 from q_lm hmMm (by omega)) dX13_demands_13 ?_
      refine g_icmp_ge (tgt := 51) hc dX13_demands_14 (by decide) (by first | exact hI _ _ | exact hxI2 _ _ | exact hIa _ _ | exact hIb _ _ | exact g_b32 | exact g_and32 | assumption | exact ⟨by omega, by omega⟩) (by first | exact hI _ _ | exact hxI2 _ _ | exact hIa _ _ | exact hIb _ _ | exact g_b32 | exact g_and32 | assumption | exact ⟨by omega, by omega⟩) (fun c1 => ?_) (fun c1 => ?_)
      · skip
        refine g_iload_n hc dX13_demands_51 rfl ?_
        refine g_iret hc hm dX13_demands_52 ?_
        exact x_end (by rw [h4, g_dms, show I lb 0 = i by omega]) hfMm hmMm.g hR
      · skip
        refine g_iload_n hc dX13_demands_17 rfl ?_
        refine g_iload_n hc dX13_demands_18 rfl ?_
        refine g_iload_n hc dX13_demands_19 rfl ?_
        refine g_S2r hc (c_X13_has w) my_X13_has ms_X13_has lm_X13_224 rfl (by decide) (Nat.le_of_ble_eq_true rfl) hm dX13_demands_20 ?_
        refine g_ifb_ne (tgt := 42) hc dX13_demands_23 (by decide)  (fun c2 => ?_) (fun c2 => ?_)
        · exact absurd c2 (by rw [h0]; exact q_bit0 (by omega))
        · skip
          refine g_aldn hc dX13_demands_26 rfl ?_
          refine g_iload_n hc dX13_demands_27 rfl ?_
          refine g_V1 hc (c_X13_isThere w hR hmMm (by omega)) my_X13_isThere mv_X13_isThere ca_703 rfl rfl lm_X13_324 rfl (by decide) (Nat.le_of_ble_eq_true rfl) hm dX13_demands_28 (fun r3 n3 I3 J3 R3 hp3 => ?_)
          obtain ⟨rfl, rfl, hK3, hX3, rfl, t3, hR⟩ := hp3
          have hmI3 : q_rel I lb I3 := q_cg (fun k j hk => hK3 k j (fun z => hk (x_wa z))) hX3 hmMm
          have hfI3 : ∀ (k : Nat) (j : Int), ¬ x_a k j → I3 k j = M k j := fun k j hk => (hK3 k j (fun z => hk (x_wa z))).trans (hfMm k j hk)
          refine g_ifb_eq (tgt := 42) hc dX13_demands_31 (by decide)  (fun c3 => ?_) (fun c3 => ?_)
          · skip
            refine g_iconst hc dX13_demands_42 ?_
            refine g_iadd hc dX13_demands_43 ?_
            refine g_istore_2 hc dX13_demands_44 rfl ?_
            refine g_iinc_3 hc dX13_demands_45 rfl ?_
            refine g_goto (tgt := 4) hc dX13_demands_48 (by decide) ?_
            refine ih_4 _ _ _ _ ?_ ?_ ?_ ?_ ?_ ?_
            · omega
            · rw [g_sum_i h3.1, h4, q_dm_dem (by omega)]; first | rw [if_pos (by assumption)] | rw [if_neg (by assumption)]
            · exact ⟨_, hR⟩
            · exact hmI3
            · exact hfI3
            · omega
          · skip
            refine g_aldn hc dX13_demands_34 rfl ?_
            refine g_iload_n hc dX13_demands_35 rfl ?_
            refine g_V1 hc (c_X13_demandOf w hR hmI3 (by omega)) my_X13_demandOf mv_X13_demandOf ca_703 rfl rfl lm_X13_404 rfl (by decide) (Nat.le_of_ble_eq_true rfl) hm dX13_demands_36 (fun r4 n4 I4 J4 R4 hp4 => ?_)
            obtain ⟨rfl, rfl, hK4, hX4, rfl, t4, hR⟩ := hp4
            have hmI4 : q_rel I lb I4 := q_cg (fun k j hk => hK4 k j (fun z => hk (x_wa z))) hX4 hmI3
            have hfI4 : ∀ (k : Nat) (j : Int), ¬ x_a k j → I4 k j = M k j := fun k j hk => (hK4 k j (fun z => hk (x_wa z))).trans (hfI3 k j hk)
            refine g_goto (tgt := 43) hc dX13_demands_39 (by decide) ?_
            refine g_iadd hc dX13_demands_43 ?_
            refine g_istore_2 hc dX13_demands_44 rfl ?_
            refine g_iinc_3 hc dX13_demands_45 rfl ?_
            refine g_goto (tgt := 4) hc dX13_demands_48 (by decide) ?_
            refine ih_4 _ _ _ _ ?_ ?_ ?_ ?_ ?_ ?_
            · omega
            · rw [g_sum_i h3.1, h4, q_dm_dem (by omega)]; first | rw [if_pos (by assumption)] | rw [if_neg (by assumption)]
            · exact ⟨_, hR⟩
            · exact hmI4
            · exact hfI4
            · omega
  refine lp_4 13 _ _ _ _ ?_ ?_ ?_ ?_ ?_ (?_)
  · omega
  · rfl
  · exact ⟨_, hR⟩
  · exact hmM
  · exact hfM
  · omega
set_option maxHeartbeats 4000000 in
set_option maxRecDepth 100000 in
/-- X13_thereBits -/
theorem c_X13_thereBits (w : g_W) {I : g_I} {J : g_J} {R : g_R} {lb tx : Nat} (hR : g_rf w R lb tx) {M : g_I} (hmM : q_rel I lb M) (ht : 0 ≤ I 0 12) : g_Met w g_n M J R yX13_thereBits cX13_thereBits 3 (some .int) 3 0 0 [(gvr w 703)] (x_rel w (some (gvI (g_thb I lb))) x_w M J lb) := by
  refine g_intro (own := RX13) [some (gvr w 703), none, none] (by decide +kernel) rfl (by decide) (Nat.le_of_ble_eq_true rfl) rfl (fun i v hv => g_args 2 i v hv rfl) (fun x hc hm => ?_)
  have hfM : ∀ (k : Nat) (j : Int), ¬ x_w k j → M k j = M k j := fun _ _ _ => rfl
  have hI := hmM.gi
  have hTb := q_b1 hmM
  have hLv := hmM.lv
  have hC := hmM.cin
  have hL := hC.1
  obtain ⟨hn0, hn1, hLs, hLf⟩ := id hL
  obtain ⟨-, hC1, hC2, hC3, hC4, hC5, hC6, hC7⟩ := id hC
  have hTs := q_ts hmM (by omega)
  refine g_iconst hc dX13_thereBits_0 ?_
  refine g_istore_1 hc dX13_thereBits_1 rfl ?_
  refine g_iconst hc dX13_thereBits_2 ?_
  refine g_istore_2 hc dX13_thereBits_3 rfl ?_
  have lp_4 : ∀ (fu : Nat) (a i : Int) (Mm : g_I) (Rm : g_R), 0 ≤ i ∧ i ≤ I lb 0 → a = g_ors (fun s => if g_thr I lb s = true then g_shl 1 s else 0) i.toNat → (∃ tm, g_rf w Rm lb tm) → q_rel I lb Mm → (∀ (k : Nat) (j : Int), ¬ x_w k j → Mm k j = M k j) → I lb 0 - i < (fu : Int) → G w x (x_rel w (some (gvI (g_thb I lb))) x_w M J lb) 0 0 g_n Mm J Rm 4 [some (gvr w 703), some (gvI a), some (gvI i)] [] := by
    intro fu
    induction fu with
    | zero => intro a i Mm Rm h3 h4 hR hmMm hfMm hfu; exfalso; omega
    | succ fu ih =>
      intro a i Mm Rm h3 h4 hR hmMm hfMm hfu
      obtain ⟨tm, hR⟩ := hR
      have ih_4 := ih
      refine g_iload_n hc dX13_thereBits_4 rfl ?_
      refine g_aldn hc dX13_thereBits_5 rfl ?_
      refine g_getRk hc lk_X13_46 ca_703 (rc_703_21 hR) dX13_thereBits_6 ?_
      refine g_aldn hc dX13_thereBits_9 rfl ?_
      refine g_getIe hc lk_X13_52 ca_703 24 rfl (show Mm 703 24 = I 0 12 from hmMm.tab) dX13_thereBits_10 ?_
      refine g_ialde hc ca_711 (by decide) (by omega) (by omega) (show Mm 711 (I 0 12) = I lb 0 from q_lm hmMm (by omega)) dX13_thereBits_13 ?_
      refine g_icmp_ge (tgt := 41) hc dX13_thereBits_14 (by decide) (by first | exact hI _ _ | exact hxI2 _ _ | exact hIa _ _ | exact hIb _ _ | exact g_b32 | exact g_and32 | assumption | exact ⟨by omega, by omega⟩) (by first | exact hI _ _ | exact hxI2 _ _ | exact hIa _ _ | exact hIb _ _ | exact g_b32 | exact g_and32 | assumption | exact ⟨by omega, by omega⟩) (fun c1 => ?_) (fun c1 => ?_)
      · skip
        refine g_iload_n hc dX13_thereBits_41 rfl ?_
        refine g_iret hc hm dX13_thereBits_42 ?_
        exact x_end (by rw [h4, g_thb, show I lb 0 = i by omega]) hfMm hmMm.g hR
      · skip
        refine g_iload_n hc dX13_thereBits_17 rfl ?_
        refine g_aldn hc dX13_thereBits_18 rfl ?_
        refine g_iload_n hc dX13_thereBits_19 rfl ?_
        refine g_V1 hc (c_X13_isThere w hR hmMm (by omega)) my_X13_isThere mv_X13_isThere ca_703 rfl rfl lm_X13_324 rfl (by decide) (Nat.le_of_ble_eq_true rfl) hm dX13_thereBits_20 (fun r3 n3 I3 J3 R3 hp3 => ?_)
        obtain ⟨rfl, rfl, hK3, hX3, rfl, t3, hR⟩ := hp3
        have hmI3 : q_rel I lb I3 := q_cg (fun k j hk => hK3 k j (fun z => hk (x_wa z))) hX3 hmMm
        have hfI3 : ∀ (k : Nat) (j : Int), ¬ x_w k j → I3 k j = M k j := fun k j hk => (hK3 k j hk).trans (hfMm k j hk)
        refine g_ifb_eq (tgt := 32) hc dX13_thereBits_23 (by decide)  (fun c2 => ?_) (fun c2 => ?_)
        · skip
          refine g_iconst hc dX13_thereBits_32 ?_
          refine g_ior hc dX13_thereBits_33 ?_
          refine g_istore_1 hc dX13_thereBits_34 rfl ?_
          refine g_iinc_2 hc dX13_thereBits_35 rfl ?_
          refine g_goto (tgt := 4) hc dX13_thereBits_38 (by decide) ?_
          refine ih_4 _ _ _ _ ?_ ?_ ?_ ?_ ?_ ?_
          · omega
          · rw [g_ors_i h3.1, h4]; first | rw [if_pos (by assumption)] | rw [if_neg (by assumption)]
          · exact ⟨_, hR⟩
          · exact hmI3
          · exact hfI3
          · omega
        · skip
          refine g_iconst hc dX13_thereBits_26 ?_
          refine g_iload_n hc dX13_thereBits_27 rfl ?_
          refine g_ishl hc dX13_thereBits_28 ?_
          refine g_goto (tgt := 33) hc dX13_thereBits_29 (by decide) ?_
          refine g_ior hc dX13_thereBits_33 ?_
          refine g_istore_1 hc dX13_thereBits_34 rfl ?_
          refine g_iinc_2 hc dX13_thereBits_35 rfl ?_
          refine g_goto (tgt := 4) hc dX13_thereBits_38 (by decide) ?_
          refine ih_4 _ _ _ _ ?_ ?_ ?_ ?_ ?_ ?_
          · omega
          · rw [g_ors_i h3.1, h4]; first | rw [if_pos (by assumption)] | rw [if_neg (by assumption)]
          · exact ⟨_, hR⟩
          · exact hmI3
          · exact hfI3
          · omega
  refine lp_4 13 _ _ _ _ ?_ ?_ ?_ ?_ ?_ (?_)
  · omega
  · rfl
  · exact ⟨_, hR⟩
  · exact hmM
  · exact hfM
  · omega
set_option maxHeartbeats 4000000 in
set_option maxRecDepth 100000 in
/-- X13_isVoter -/
theorem c_X13_isVoter (w : g_W) {I : g_I} {J : g_J} {R : g_R} {lb tx : Nat} (hR : g_rf w R lb tx) {M : g_I} (hmM : q_rel I lb M) {s : Int} (h1 : 0 ≤ s ∧ s < I lb 0) : g_Met w g_n M J R yX13_isVoter cX13_isVoter 2 (some .boolean) 3 0 0 [(gvr w 703), (gvI s)] (x_rel w (some (gvI (g_b (g_vtr I lb s)))) x_w M J lb) := by
  refine g_intro (own := RX13) [some (gvr w 703), some (gvI s)] (by decide +kernel) rfl (by decide) (Nat.le_of_ble_eq_true rfl) rfl (fun i v hv => g_args 0 i v hv rfl) (fun x hc hm => ?_)
  have hfM : ∀ (k : Nat) (j : Int), ¬ x_w k j → M k j = M k j := fun _ _ _ => rfl
  have hI := hmM.gi
  have hTb := q_b1 hmM
  have hLv := hmM.lv
  have hC := hmM.cin
  have hL := hC.1
  obtain ⟨hn0, hn1, hLs, hLf⟩ := id hL
  obtain ⟨-, hC1, hC2, hC3, hC4, hC5, hC6, hC7⟩ := id hC
  have hTs := q_ts hmM (by omega)
  have hlw := g_law1 (m := I 550 3) (by omega)
  obtain ⟨-, -, a0, a1, a2, a3, a4, a5, -⟩ := hLs s h1.1 h1.2
  refine g_aldn hc dX13_isVoter_0 rfl ?_
  refine g_iload_n hc dX13_isVoter_1 rfl ?_
  refine g_V1 hc (c_X13_isThere w hR hmM (by omega)) my_X13_isThere mv_X13_isThere ca_703 rfl rfl lm_X13_324 rfl (by decide) (Nat.le_of_ble_eq_true rfl) hm dX13_isVoter_2 (fun r3 n3 I3 J3 R3 hp3 => ?_)
  obtain ⟨rfl, rfl, hK3, hX3, rfl, t3, hR⟩ := hp3
  have hmI3 : q_rel I lb I3 := q_cg (fun k j hk => hK3 k j (fun z => hk (x_wa z))) hX3 hmM
  have hfI3 : ∀ (k : Nat) (j : Int), ¬ x_w k j → I3 k j = M k j := fun k j hk => (hK3 k j hk).trans (hfM k j hk)
  refine g_ifb_eq (tgt := 28) hc dX13_isVoter_5 (by decide)  (fun c1 => ?_) (fun c1 => ?_)
  · skip
    have hnv : ¬ g_vtr I lb s := fun z => c1 z.1
    refine g_iconst hc dX13_isVoter_28 ?_
    refine g_zret hc hm (by first | exact g_b01 | omega) dX13_isVoter_29 ?_
    exact x_end (g_b0 hnv).symm hfI3 hmI3.g hR
  · skip
    have hth := c1
    refine g_aldn hc dX13_isVoter_8 rfl ?_
    refine g_iload_n hc dX13_isVoter_9 rfl ?_
    refine g_V1r hc (c_X13_dead w hR hmI3 (by omega)) my_X13_dead mv_X13_dead ca_703 rfl rfl lm_X13_367 rfl (by decide) (Nat.le_of_ble_eq_true rfl) hm dX13_isVoter_10 ?_
    refine g_if_eq (tgt := 24) hc dX13_isVoter_13 (by decide) (by first | exact hI _ _ | exact hxI2 _ _ | exact hIa _ _ | exact hIb _ _ | exact g_b32 | exact g_and32 | assumption | exact ⟨by omega, by omega⟩) (fun c2 => ?_) (fun c2 => ?_)
    · skip
      have hv : g_vtr I lb s := ⟨hth, Or.inl (by omega)⟩
      refine g_iconst hc dX13_isVoter_24 ?_
      refine g_goto (tgt := 29) hc dX13_isVoter_25 (by decide) ?_
      refine g_zret hc hm (by first | exact g_b01 | omega) dX13_isVoter_29 ?_
      exact x_end (g_b1 hv).symm hfI3 hmI3.g hR
    · skip
      have hd0 := c2
      refine g_aldn hc dX13_isVoter_16 rfl ?_
      refine g_iconst hc dX13_isVoter_17 ?_
      refine g_V1r hc (c_X13_isLaw w hR hmI3 ) my_X13_isLaw mv_X13_isLaw ca_703 rfl rfl lm_X13_396 rfl (by decide) (Nat.le_of_ble_eq_true rfl) hm dX13_isVoter_18 ?_
      refine g_ifb_eq (tgt := 28) hc dX13_isVoter_21 (by decide)  (fun c3 => ?_) (fun c3 => ?_)
      · skip
        have hnv : ¬ g_vtr I lb s := fun z => by
          rcases z.2 with y | y
          · omega
          · exact c3 (hlw.2.mpr y)
        refine g_iconst hc dX13_isVoter_28 ?_
        refine g_zret hc hm (by first | exact g_b01 | omega) dX13_isVoter_29 ?_
        exact x_end (g_b0 hnv).symm hfI3 hmI3.g hR
      · skip
        have hv : g_vtr I lb s := ⟨hth, Or.inr (hlw.2.mp c3)⟩
        refine g_iconst hc dX13_isVoter_24 ?_
        refine g_goto (tgt := 29) hc dX13_isVoter_25 (by decide) ?_
        refine g_zret hc hm (by first | exact g_b01 | omega) dX13_isVoter_29 ?_
        exact x_end (g_b1 hv).symm hfI3 hmI3.g hR
set_option maxHeartbeats 4000000 in
set_option maxRecDepth 100000 in
/-- X13_motionFor -/
theorem c_X13_motionFor (w : g_W) {I : g_I} {J : g_J} {R : g_R} {lb tx : Nat} (hR : g_rf w R lb tx) {M : g_I} (hmM : q_rel I lb M) {s : Int} (h1 : 0 ≤ s ∧ s < I lb 0) (h2 : 0 < I 0 11) : g_Met w g_n M J R yX13_motionFor cX13_motionFor 6 (some .int) 35 0 0 [(gvr w 703), (gvI s)] (x_rel w (some (gvI (g_vfn I lb s (I 0 11).toNat))) x_a M J lb) := by
  refine g_intro (own := RX13) [some (gvr w 703), some (gvI s), none, none, none, none] (by decide +kernel) rfl (by decide) (Nat.le_of_ble_eq_true rfl) rfl (fun i v hv => g_args 4 i v hv rfl) (fun x hc hm => ?_)
  have hfM : ∀ (k : Nat) (j : Int), ¬ x_a k j → M k j = M k j := fun _ _ _ => rfl
  have hI := hmM.gi
  have hTb := q_b1 hmM
  have hLv := hmM.lv
  have hC := hmM.cin
  have hL := hC.1
  obtain ⟨hn0, hn1, hLs, hLf⟩ := id hL
  obtain ⟨-, hC1, hC2, hC3, hC4, hC5, hC6, hC7⟩ := id hC
  have hTs := q_ts hmM (by omega)
  refine g_iconst hc dX13_motionFor_0 ?_
  refine g_istore_2 hc dX13_motionFor_1 rfl ?_
  refine g_iconst hc dX13_motionFor_2 ?_
  refine g_istore_3 hc dX13_motionFor_3 rfl ?_
  refine g_iconst hc dX13_motionFor_4 ?_
  refine g_istore_4 hc dX13_motionFor_5 rfl ?_
  have lp_7 : ∀ (fu : Nat) (a p i : Int) (Mm : g_I) (Rm : g_R), 0 ≤ i ∧ i ≤ I 0 11 → (0 ≤ a ∧ a ≤ i) → (0 < i → a = g_vfn I lb s i.toNat ∧ p = g_wby I lb a s ∧ (-1000300 ≤ p ∧ p ≤ 1000300)) → (∃ tm, g_rf w Rm lb tm) → q_rel I lb Mm → (∀ (k : Nat) (j : Int), ¬ x_a k j → Mm k j = M k j) → I 0 11 - i < (fu : Int) → G w x (x_rel w (some (gvI (g_vfn I lb s (I 0 11).toNat))) x_a M J lb) 0 0 g_n Mm J Rm 7 [some (gvr w 703), some (gvI s), some (gvI a), some (gvI p), some (gvI i), none] [] := by
    intro fu
    induction fu with
    | zero => intro a p i Mm Rm h3 h6 h5 hR hmMm hfMm hfu; exfalso; omega
    | succ fu ih =>
      intro a p i Mm Rm h3 h6 h5 hR hmMm hfMm hfu
      obtain ⟨tm, hR⟩ := hR
      have ih_7 := ih
      refine g_iload hc dX13_motionFor_7 rfl ?_
      refine g_aldn hc dX13_motionFor_9 rfl ?_
      refine g_getIe hc lk_X13_284 ca_703 7 rfl (show Mm 703 7 = I 0 11 from hmMm.tas) dX13_motionFor_10 ?_
      refine g_icmp_ge (tgt := 55) hc dX13_motionFor_13 (by decide) (by first | exact hI _ _ | exact hxI2 _ _ | exact hIa _ _ | exact hIb _ _ | exact g_b32 | exact g_and32 | assumption | exact ⟨by omega, by omega⟩) (by first | exact hI _ _ | exact hxI2 _ _ | exact hIa _ _ | exact hIb _ _ | exact g_b32 | exact g_and32 | assumption | exact ⟨by omega, by omega⟩) (fun c1 => ?_) (fun c1 => ?_)
      · skip
        refine g_iload_n hc dX13_motionFor_55 rfl ?_
        refine g_iret hc hm dX13_motionFor_56 ?_
        exact x_end (by rw [(h5 (by omega)).1, show I 0 11 = i by omega]) hfMm hmMm.g hR
      · skip
        refine g_aldn hc dX13_motionFor_16 rfl ?_
        refine g_iload_n hc dX13_motionFor_17 rfl ?_
        refine g_V1 hc (c_X13_layLetters w hR hmMm (by omega)) my_X13_layLetters mv_X13_layLetters ca_703 rfl rfl lm_X13_370 rfl (by decide) (Nat.le_of_ble_eq_true rfl) hm dX13_motionFor_18 (fun r3 n3 I3 J3 R3 hp3 => ?_)
        obtain ⟨⟨rfl, rfl, hK3, hX3, rfl, t3, hR⟩, hl3⟩ := hp3
        have hmI3 : q_rel I lb I3 := q_cg hK3 hX3 hmMm
        have hfI3 : ∀ (k : Nat) (j : Int), ¬ x_a k j → I3 k j = M k j := fun k j hk => (hK3 k j hk).trans (hfMm k j hk)
        have hltI3 := hl3
        have hwb := g_wby_in hC (τ := i) h1 (by omega)
        refine g_aldn hc dX13_motionFor_21 rfl ?_
        refine g_iload hc dX13_motionFor_22 rfl ?_
        refine g_V1 hc (c_X13_worthBy w hR hmI3 (by omega) hltI3) my_X13_worthBy mv_X13_worthBy ca_703 rfl rfl lm_X13_350 rfl (by decide) (Nat.le_of_ble_eq_true rfl) hm dX13_motionFor_24 (fun r4 n4 I4 J4 R4 hp4 => ?_)
        obtain ⟨rfl, rfl, hK4, hX4, rfl, t4, hR⟩ := hp4
        have hmI4 : q_rel I lb I4 := q_cg (fun k j hk => hK4 k j (fun z => hk (x_ga z))) hX4 hmI3
        have hfI4 : ∀ (k : Nat) (j : Int), ¬ x_a k j → I4 k j = M k j := fun k j hk => (hK4 k j (fun z => hk (x_ga z))).trans (hfI3 k j hk)
        rw [show g_tw I (517 + 3 * (i).toNat) (g_lt6 (I (lb + 2 + (s).toNat))) = g_wby I lb i s from rfl]
        refine g_istore_5 hc dX13_motionFor_27 rfl ?_
        refine g_iload hc dX13_motionFor_29 rfl ?_
        refine g_if_le (tgt := 43) hc dX13_motionFor_31 (by decide) (by first | exact hI _ _ | exact hxI2 _ _ | exact hIa _ _ | exact hIb _ _ | exact g_b32 | exact g_and32 | assumption | exact ⟨by omega, by omega⟩) (fun c2 => ?_) (fun c2 => ?_)
        · skip
          refine g_iload hc dX13_motionFor_43 rfl ?_
          refine g_istore_2 hc dX13_motionFor_45 rfl ?_
          refine g_iload hc dX13_motionFor_46 rfl ?_
          refine g_istore_3 hc dX13_motionFor_48 rfl ?_
          refine g_iinc_4 hc dX13_motionFor_49 rfl ?_
          refine g_goto (tgt := 7) hc dX13_motionFor_52 (by decide) ?_
          refine G_sub (L' := [some (gvr w 703), some (gvI s), some (gvI i), some (gvI (g_wby I lb i s)), some (gvI (i + 1)), none]) (show g_le _ _ from ⟨rfl, ⟨rfl, ⟨rfl, ⟨rfl, ⟨rfl, trivial⟩⟩⟩⟩⟩) ?_
          refine ih_7 _ _ _ _ _ ?_ ?_ ?_ ?_ ?_ ?_ ?_
          · omega
          · omega
          · intro z
            by_cases e : i = 0
            · exact ⟨by rw [e]; exact g_vfn_1.symm, rfl, by omega⟩
            · obtain ⟨k1, k2, k3⟩ := h5 (by omega)
              refine ⟨?_, rfl, by omega⟩
              rw [g_vfn_i h3.1, ← k1, if_pos (by omega)]
          · exact ⟨_, hR⟩
          · exact hmI4
          · exact hfI4
          · omega
        · skip
          refine g_iload hc dX13_motionFor_34 rfl ?_
          refine g_iload_n hc dX13_motionFor_36 rfl ?_
          refine g_icmp_gt (tgt := 43) hc dX13_motionFor_37 (by decide) (by exact ⟨by omega, by omega⟩) (by have := h5 (by omega); exact ⟨by omega, by omega⟩) (fun c3 => ?_) (fun c3 => ?_)
          · skip
            refine g_iload hc dX13_motionFor_43 rfl ?_
            refine g_istore_2 hc dX13_motionFor_45 rfl ?_
            refine g_iload hc dX13_motionFor_46 rfl ?_
            refine g_istore_3 hc dX13_motionFor_48 rfl ?_
            refine g_iinc_4 hc dX13_motionFor_49 rfl ?_
            refine g_goto (tgt := 7) hc dX13_motionFor_52 (by decide) ?_
            refine G_sub (L' := [some (gvr w 703), some (gvI s), some (gvI i), some (gvI (g_wby I lb i s)), some (gvI (i + 1)), none]) (show g_le _ _ from ⟨rfl, ⟨rfl, ⟨rfl, ⟨rfl, ⟨rfl, trivial⟩⟩⟩⟩⟩) ?_
            refine ih_7 _ _ _ _ _ ?_ ?_ ?_ ?_ ?_ ?_ ?_
            · omega
            · omega
            · intro z
              by_cases e : i = 0
              · exact ⟨by rw [e]; exact g_vfn_1.symm, rfl, by omega⟩
              · obtain ⟨k1, k2, k3⟩ := h5 (by omega)
                refine ⟨?_, rfl, by omega⟩
                rw [g_vfn_i h3.1, ← k1, if_pos (by omega)]
            · exact ⟨_, hR⟩
            · exact hmI4
            · exact hfI4
            · omega
          · skip
            refine g_goto (tgt := 49) hc dX13_motionFor_40 (by decide) ?_
            refine g_iinc_4 hc dX13_motionFor_49 rfl ?_
            refine g_goto (tgt := 7) hc dX13_motionFor_52 (by decide) ?_
            refine G_sub (L' := [some (gvr w 703), some (gvI s), some (gvI a), some (gvI p), some (gvI (i + 1)), none]) (show g_le _ _ from ⟨rfl, ⟨rfl, ⟨rfl, ⟨rfl, ⟨rfl, trivial⟩⟩⟩⟩⟩) ?_
            refine ih_7 _ _ _ _ _ ?_ ?_ ?_ ?_ ?_ ?_ ?_
            · omega
            · omega
            · intro z; obtain ⟨k1, k2, k3⟩ := h5 (by omega)
              refine ⟨?_, k2, by omega⟩
              rw [g_vfn_i h3.1, ← k1, if_neg (by omega)]
            · exact ⟨_, hR⟩
            · exact hmI4
            · exact hfI4
            · omega
  refine lp_7 7 _ _ _ _ _ ?_ ?_ ?_ ?_ ?_ ?_ (?_)
  · omega
  · omega
  · intro z; omega
  · exact ⟨_, hR⟩
  · exact hmM
  · exact hfM
  · omega
set_option maxHeartbeats 4000000 in
set_option maxRecDepth 100000 in
/-- X13_duelOf -/
theorem c_X13_duelOf (w : g_W) {I : g_I} {J : g_J} {R : g_R} {lb tx : Nat} (hR : g_rf w R lb tx) {M : g_I} (hmM : q_rel I lb M) {u v : Int} (h1 : 0 ≤ u ∧ u < I 0 11) (h2 : 0 ≤ v ∧ v < I 0 11) (ht : 0 ≤ I 0 12) : g_Met w g_n M J R yX13_duelOf cX13_duelOf 6 (some .int) 35 0 0 [(gvr w 703), (gvI u), (gvI v)] (x_rel w (some (gvI (g_ahd I lb u v))) x_a M J lb) := by
  refine g_intro (own := RX13) [some (gvr w 703), some (gvI u), some (gvI v), none, none, none] (by decide +kernel) rfl (by decide) (Nat.le_of_ble_eq_true rfl) rfl (fun i v hv => g_args 3 i v hv rfl) (fun x hc hm => ?_)
  have hfM : ∀ (k : Nat) (j : Int), ¬ x_a k j → M k j = M k j := fun _ _ _ => rfl
  have hI := hmM.gi
  have hTb := q_b1 hmM
  have hLv := hmM.lv
  have hC := hmM.cin
  have hL := hC.1
  obtain ⟨hn0, hn1, hLs, hLf⟩ := id hL
  obtain ⟨-, hC1, hC2, hC3, hC4, hC5, hC6, hC7⟩ := id hC
  have hTs := q_ts hmM (by omega)
  refine g_iconst hc dX13_duelOf_0 ?_
  refine g_istore_3 hc dX13_duelOf_1 rfl ?_
  refine g_iconst hc dX13_duelOf_2 ?_
  refine g_istore_4 hc dX13_duelOf_3 rfl ?_
  have lp_5 : ∀ (fu : Nat) (a i : Int) (Mm : g_I) (Rm : g_R), 0 ≤ i ∧ i ≤ I lb 0 → a = g_sum (fun s => if g_vtr I lb s then g_cmp (g_wby I lb u s) (g_wby I lb v s) else 0) i.toNat → (∃ tm, g_rf w Rm lb tm) → q_rel I lb Mm → (∀ (k : Nat) (j : Int), ¬ x_a k j → Mm k j = M k j) → I lb 0 - i < (fu : Int) → G w x (x_rel w (some (gvI (g_ahd I lb u v))) x_a M J lb) 0 0 g_n Mm J Rm 5 [some (gvr w 703), some (gvI u), some (gvI v), some (gvI a), some (gvI i), none] [] := by
    intro fu
    induction fu with
    | zero => intro a i Mm Rm h3 h4 hR hmMm hfMm hfu; exfalso; omega
    | succ fu ih =>
      intro a i Mm Rm h3 h4 hR hmMm hfMm hfu
      obtain ⟨tm, hR⟩ := hR
      have ih_5 := ih
      refine g_iload hc dX13_duelOf_5 rfl ?_
      refine g_aldn hc dX13_duelOf_7 rfl ?_
      refine g_getRk hc lk_X13_46 ca_703 (rc_703_21 hR) dX13_duelOf_8 ?_
      refine g_aldn hc dX13_duelOf_11 rfl ?_
      refine g_getIe hc lk_X13_52 ca_703 24 rfl (show Mm 703 24 = I 0 12 from hmMm.tab) dX13_duelOf_12 ?_
      refine g_ialde hc ca_711 (by decide) (by omega) (by omega) (show Mm 711 (I 0 12) = I lb 0 from q_lm hmMm (by omega)) dX13_duelOf_15 ?_
      refine g_icmp_ge (tgt := 64) hc dX13_duelOf_16 (by decide) (by first | exact hI _ _ | exact hxI2 _ _ | exact hIa _ _ | exact hIb _ _ | exact g_b32 | exact g_and32 | assumption | exact ⟨by omega, by omega⟩) (by first | exact hI _ _ | exact hxI2 _ _ | exact hIa _ _ | exact hIb _ _ | exact g_b32 | exact g_and32 | assumption | exact ⟨by omega, by omega⟩) (fun c1 => ?_) (fun c1 => ?_)
      · skip
        refine g_iload_n hc dX13_duelOf_64 rfl ?_
        refine g_iret hc hm dX13_duelOf_65 ?_
        exact x_end (by rw [h4, g_ahd, show I lb 0 = i by omega]) hfMm hmMm.g hR
      · skip
        refine g_aldn hc dX13_duelOf_19 rfl ?_
        refine g_iload hc dX13_duelOf_20 rfl ?_
        refine g_V1 hc (c_X13_isVoter w hR hmMm (by omega)) my_X13_isVoter mv_X13_isVoter ca_703 rfl rfl lm_X13_418 rfl (by decide) (Nat.le_of_ble_eq_true rfl) hm dX13_duelOf_22 (fun r3 n3 I3 J3 R3 hp3 => ?_)
        obtain ⟨rfl, rfl, hK3, hX3, rfl, t3, hR⟩ := hp3
        have hmI3 : q_rel I lb I3 := q_cg (fun k j hk => hK3 k j (fun z => hk (x_wa z))) hX3 hmMm
        have hfI3 : ∀ (k : Nat) (j : Int), ¬ x_a k j → I3 k j = M k j := fun k j hk => (hK3 k j (fun z => hk (x_wa z))).trans (hfMm k j hk)
        refine g_ifb_ne (tgt := 31) hc dX13_duelOf_25 (by decide)  (fun c2 => ?_) (fun c2 => ?_)
        · skip
          have hvt : g_vtr I lb i := c2
          refine g_aldn hc dX13_duelOf_31 rfl ?_
          refine g_iload hc dX13_duelOf_32 rfl ?_
          refine g_V1 hc (c_X13_layLetters w hR hmI3 (by omega)) my_X13_layLetters mv_X13_layLetters ca_703 rfl rfl lm_X13_370 rfl (by decide) (Nat.le_of_ble_eq_true rfl) hm dX13_duelOf_34 (fun r4 n4 I4 J4 R4 hp4 => ?_)
          obtain ⟨⟨rfl, rfl, hK4, hX4, rfl, t4, hR⟩, hl4⟩ := hp4
          have hmI4 : q_rel I lb I4 := q_cg hK4 hX4 hmI3
          have hfI4 : ∀ (k : Nat) (j : Int), ¬ x_a k j → I4 k j = M k j := fun k j hk => (hK4 k j hk).trans (hfI3 k j hk)
          have hltI4 := hl4
          have hw1 := g_wby_in hC (τ := u) (by omega : 0 ≤ i ∧ i < I lb 0) h1
          have hw2 := g_wby_in hC (τ := v) (by omega : 0 ≤ i ∧ i < I lb 0) h2
          refine g_aldn hc dX13_duelOf_37 rfl ?_
          refine g_iload_n hc dX13_duelOf_38 rfl ?_
          refine g_V1 hc (c_X13_worthBy w hR hmI4 (by omega) hltI4) my_X13_worthBy mv_X13_worthBy ca_703 rfl rfl lm_X13_350 rfl (by decide) (Nat.le_of_ble_eq_true rfl) hm dX13_duelOf_39 (fun r5 n5 I5 J5 R5 hp5 => ?_)
          obtain ⟨rfl, rfl, hK5, hX5, rfl, t5, hR⟩ := hp5
          have hmI5 : q_rel I lb I5 := q_cg (fun k j hk => hK5 k j (fun z => hk (x_ga z))) hX5 hmI4
          have hfI5 : ∀ (k : Nat) (j : Int), ¬ x_a k j → I5 k j = M k j := fun k j hk => (hK5 k j (fun z => hk (x_ga z))).trans (hfI4 k j hk)
          have hltI5 : x_let (g_lt6 (I (lb + 2 + i.toNat))) I5 := fun c hc => (hK5 707 c (by unfold x_g; omega)).trans (hltI4 c hc)
          rw [show g_tw I (517 + 3 * (u).toNat) (g_lt6 (I (lb + 2 + (i).toNat))) = g_wby I lb u i from rfl]
          refine g_istore_5 hc dX13_duelOf_42 rfl ?_
          refine g_iload_n hc dX13_duelOf_44 rfl ?_
          refine g_iload hc dX13_duelOf_45 rfl ?_
          refine g_aldn hc dX13_duelOf_47 rfl ?_
          refine g_iload_n hc dX13_duelOf_48 rfl ?_
          refine g_V1 hc (c_X13_worthBy w hR hmI5 (by omega) hltI5) my_X13_worthBy mv_X13_worthBy ca_703 rfl rfl lm_X13_350 rfl (by decide) (Nat.le_of_ble_eq_true rfl) hm dX13_duelOf_49 (fun r6 n6 I6 J6 R6 hp6 => ?_)
          obtain ⟨rfl, rfl, hK6, hX6, rfl, t6, hR⟩ := hp6
          have hmI6 : q_rel I lb I6 := q_cg (fun k j hk => hK6 k j (fun z => hk (x_ga z))) hX6 hmI5
          have hfI6 : ∀ (k : Nat) (j : Int), ¬ x_a k j → I6 k j = M k j := fun k j hk => (hK6 k j (fun z => hk (x_ga z))).trans (hfI5 k j hk)
          rw [show g_tw I (517 + 3 * (v).toNat) (g_lt6 (I (lb + 2 + (i).toNat))) = g_wby I lb v i from rfl]
          refine g_isub hc dX13_duelOf_52 ?_
          refine g_S1r hc (c_J6_signum_0f7a4 w (by omega)) my_J6_signum_0f7a4 ms_J6_signum_0f7a4 lm_X13_424 rfl (by decide) (Nat.le_of_ble_eq_true rfl) hm dX13_duelOf_53 ?_
          refine g_iadd hc dX13_duelOf_56 ?_
          refine g_istore_3 hc dX13_duelOf_57 rfl ?_
          refine g_iinc_4 hc dX13_duelOf_58 rfl ?_
          refine g_goto (tgt := 5) hc dX13_duelOf_61 (by decide) ?_
          refine G_sub (L' := [some (gvr w 703), some (gvI u), some (gvI v), some (gvI (a + (if ((g_wby I lb u i) - (g_wby I lb v i)) < 0 then (-1 : Int) else if ((g_wby I lb u i) - (g_wby I lb v i)) = 0 then 0 else 1))), some (gvI (i + 1)), none]) (show g_le _ _ from ⟨rfl, ⟨rfl, ⟨rfl, ⟨rfl, ⟨rfl, trivial⟩⟩⟩⟩⟩) ?_
          refine ih_5 _ _ _ _ ?_ ?_ ?_ ?_ ?_ ?_
          · omega
          · rw [g_sum_i h3.1, h4, if_pos hvt, q_cmp]
          · exact ⟨_, hR⟩
          · exact hmI6
          · exact hfI6
          · omega
        · skip
          have hnv : ¬ g_vtr I lb i := c2
          refine g_goto (tgt := 58) hc dX13_duelOf_28 (by decide) ?_
          refine g_iinc_4 hc dX13_duelOf_58 rfl ?_
          refine g_goto (tgt := 5) hc dX13_duelOf_61 (by decide) ?_
          refine ih_5 _ _ _ _ ?_ ?_ ?_ ?_ ?_ ?_
          · omega
          · rw [g_sum_i h3.1, h4, if_neg hnv, Int.add_zero]
          · exact ⟨_, hR⟩
          · exact hmI3
          · exact hfI3
          · omega
  refine lp_5 13 _ _ _ _ ?_ ?_ ?_ ?_ ?_ (?_)
  · omega
  · rfl
  · exact ⟨_, hR⟩
  · exact hmM
  · exact hfM
  · omega
set_option maxHeartbeats 4000000 in
set_option maxRecDepth 100000 in
/-- X13_layFacts -/
theorem c_X13_layFacts (w : g_W) {I : g_I} {J : g_J} {R : g_R} {lb tx : Nat} (hR : g_rf w R lb tx) {M : g_I} (hmM : q_rel I lb M) (ht : 0 ≤ I 0 12) : g_Met w g_n M J R yX13_layFacts cX13_layFacts 2 none 3 0 0 [(gvr w 703)] (fun rr nn II JJ RR => x_rel w none x_a M J lb rr nn II JJ RR ∧ (∀ t : Int, 0 ≤ t → t < I lb 0 → II 720 t = g_fct I lb t)) := by
  refine g_intro (own := RX13) [some (gvr w 703), none] (by decide +kernel) rfl (by decide) (Nat.le_of_ble_eq_true rfl) rfl (fun i v hv => g_args 1 i v hv rfl) (fun x hc hm => ?_)
  have hfM : ∀ (k : Nat) (j : Int), ¬ x_a k j → M k j = M k j := fun _ _ _ => rfl
  have hI := hmM.gi
  have hTb := q_b1 hmM
  have hLv := hmM.lv
  have hC := hmM.cin
  have hL := hC.1
  obtain ⟨hn0, hn1, hLs, hLf⟩ := id hL
  obtain ⟨-, hC1, hC2, hC3, hC4, hC5, hC6, hC7⟩ := id hC
  have hTs := q_ts hmM (by omega)
  refine g_iconst hc dX13_layFacts_0 ?_
  refine g_istore_1 hc dX13_layFacts_1 rfl ?_
  have lp_2 : ∀ (fu : Nat) (i : Int) (Mm : g_I) (Rm : g_R), 0 ≤ i ∧ i ≤ I lb 0 → (∀ t : Int, 0 ≤ t → t < i → Mm 720 t = g_fct I lb t) → (∃ tm, g_rf w Rm lb tm) → q_rel I lb Mm → (∀ (k : Nat) (j : Int), ¬ x_a k j → Mm k j = M k j) → I lb 0 - i < (fu : Int) → G w x (fun rr nn II JJ RR => x_rel w none x_a M J lb rr nn II JJ RR ∧ (∀ t : Int, 0 ≤ t → t < I lb 0 → II 720 t = g_fct I lb t)) 0 0 g_n Mm J Rm 2 [some (gvr w 703), some (gvI i)] [] := by
    intro fu
    induction fu with
    | zero => intro i Mm Rm h3 h4 hR hmMm hfMm hfu; exfalso; omega
    | succ fu ih =>
      intro i Mm Rm h3 h4 hR hmMm hfMm hfu
      obtain ⟨tm, hR⟩ := hR
      have ih_2 := ih
      refine g_iload_n hc dX13_layFacts_2 rfl ?_
      refine g_aldn hc dX13_layFacts_3 rfl ?_
      refine g_getRk hc lk_X13_46 ca_703 (rc_703_21 hR) dX13_layFacts_4 ?_
      refine g_aldn hc dX13_layFacts_7 rfl ?_
      refine g_getIe hc lk_X13_52 ca_703 24 rfl (show Mm 703 24 = I 0 12 from hmMm.tab) dX13_layFacts_8 ?_
      refine g_ialde hc ca_711 (by decide) (by omega) (by omega) (show Mm 711 (I 0 12) = I lb 0 from q_lm hmMm (by omega)) dX13_layFacts_11 ?_
      refine g_icmp_ge (tgt := 32) hc dX13_layFacts_12 (by decide) (by first | exact hI _ _ | exact hxI2 _ _ | exact hIa _ _ | exact hIb _ _ | exact g_b32 | exact g_and32 | assumption | exact ⟨by omega, by omega⟩) (by first | exact hI _ _ | exact hxI2 _ _ | exact hIa _ _ | exact hIb _ _ | exact g_b32 | exact g_and32 | assumption | exact ⟨by omega, by omega⟩) (fun c1 => ?_) (fun c1 => ?_)
      · skip
        refine g_vret hc hm dX13_layFacts_32 ?_
        exact ⟨x_endv hfMm hmMm.g hR, fun t a c => h4 t a (by omega)⟩
      · skip
        refine g_aldn hc dX13_layFacts_15 rfl ?_
        refine g_getRk hc lk_X13_78 ca_703 (rc_703_34 hR) dX13_layFacts_16 ?_
        refine g_iload_n hc dX13_layFacts_19 rfl ?_
        refine g_aldn hc dX13_layFacts_20 rfl ?_
        refine g_iload_n hc dX13_layFacts_21 rfl ?_
        refine g_V1 hc (c_X13_factsOf w hR hmMm (by omega)) my_X13_factsOf mv_X13_factsOf ca_703 rfl rfl lm_X13_321 rfl (by decide) (Nat.le_of_ble_eq_true rfl) hm dX13_layFacts_22 (fun r3 n3 I3 J3 R3 hp3 => ?_)
        obtain ⟨rfl, rfl, hK3, hX3, rfl, t3, hR⟩ := hp3
        have hmI3 : q_rel I lb I3 := q_cg (fun k j hk => hK3 k j (fun z => hk (x_wa z))) hX3 hmMm
        have hfI3 : ∀ (k : Nat) (j : Int), ¬ x_a k j → I3 k j = M k j := fun k j hk => (hK3 k j (fun z => hk (x_wa z))).trans (hfMm k j hk)
        have hr3 : (∀ t : Int, 0 ≤ t → t < i → I3 720 t = g_fct I lb t) := fun t a c => (hK3 720 t (by unfold x_w; omega)).trans (h4 t a c)
        refine g_iast' hc ca_720 (by decide) (by omega) (by omega)  dX13_layFacts_25 (fun I4 hI4 => ?_)
        have hmI4 : q_rel I lb I4 := by rw [hI4]; exact q_up hmI3 (by unfold x_a; omega) (by first | exact hI _ _ | exact hmM.g _ _ | exact g_b32 | exact g_and32 | exact g_or32 | exact g_shl32 | assumption | exact ⟨by omega, by omega⟩)
        have hfI4 : ∀ (k : Nat) (j : Int), ¬ x_a k j → I4 k j = M k j := fun k j hk => by rw [hI4]; exact (g_up_n (by unfold x_a at hk; omega)).trans (hfI3 k j hk)
        have hr4 : (∀ t : Int, 0 ≤ t → t < i + 1 → I4 720 t = g_fct I lb t) := fun t a c => by
          rw [hI4]
          by_cases e : t = i
          · rw [e, g_up_s]
          · rw [g_up_i e]; exact hr3 t a (by omega)
        refine g_iinc_1 hc dX13_layFacts_26 rfl ?_
        refine g_goto (tgt := 2) hc dX13_layFacts_29 (by decide) ?_
        refine ih_2 _ _ _ ?_ ?_ ?_ ?_ ?_ ?_
        · omega
        · exact hr4
        · exact ⟨_, hR⟩
        · exact hmI4
        · exact hfI4
        · omega
  refine lp_2 13 _ _ _ ?_ ?_ ?_ ?_ ?_ (?_)
  · omega
  · intro t a c; omega
  · exact ⟨_, hR⟩
  · exact hmM
  · exact hfM
  · omega
