/-- a CLUE put in -/
def g_adc (I : g_I) (c u v : Int) : g_I := if 12 ≤ I 697 4 then I else g_up (g_up (g_up (g_up I 698 (I 697 4) c) 699 (I 697 4) u) 700 (I 697 4) v) 697 4 (I 697 4 + 1)
set_option maxHeartbeats 4000000 in
set_option maxRecDepth 100000 in
/-- X2_addClue -/
theorem c_X2_addClue (w : g_W) {I : g_I} {J : g_J} {R : g_R} {lb tx : Nat} (hR : g_rf w R lb tx) (hI : ∀ k j, g32 (I k j)) {c u v : Int} (hn : 0 ≤ I 697 4 ∧ I 697 4 ≤ 12) : g_Met w g_n I J R yX2_addClue cX2_addClue 4 (some .int) 0 0 0 [(gvr w 697), (gvI c), (gvI u), (gvI v)] (g_post (some (gvI (if 12 ≤ I 697 4 then -1 else I 697 4 + 1))) g_n (g_adc I c u v) J R) := by
  refine g_intro (own := RX2) [some (gvr w 697), some (gvI c), some (gvI u), some (gvI v)] (by decide +kernel) rfl (by decide) (Nat.le_of_ble_eq_true rfl) rfl (fun i v hv => g_args 0 i v hv rfl) (fun x hc hm => ?_)
  refine g_aldn hc dX2_addClue_0 rfl ?_
  refine g_getI' hc lk_X2_69 ca_697 4 rfl dX2_addClue_1 ?_
  refine g_bipush hc dX2_addClue_4 (by decide +kernel) ?_
  refine g_icmp_lt (tgt := 11) hc dX2_addClue_6 (by decide) (by first | exact hI _ _ | exact hxI2 _ _ | exact hIa _ _ | exact hIb _ _ | exact g_b32 | exact g_and32 | assumption | exact ⟨by omega, by omega⟩) (by first | exact hI _ _ | exact hxI2 _ _ | exact hIa _ _ | exact hIb _ _ | exact g_b32 | exact g_and32 | assumption | exact ⟨by omega, by omega⟩) (fun c1 => ?_) (fun c1 => ?_)
  · skip
    refine g_aldn hc dX2_addClue_11 rfl ?_
    refine g_getRk hc lk_X2_9 ca_697 (rc_697_1 hR) dX2_addClue_12 ?_
    refine g_aldn hc dX2_addClue_15 rfl ?_
    refine g_getI' hc lk_X2_69 ca_697 4 rfl dX2_addClue_16 ?_
    refine g_iload_n hc dX2_addClue_19 rfl ?_
    refine g_iast' hc ca_698 (by decide) (by omega) (by omega)  dX2_addClue_20 (fun I3 hI3 => ?_)
    have eI3 : I3 697 4 = I 697 4 := by rw [hI3, g_up_k (by decide)]
    refine g_aldn hc dX2_addClue_21 rfl ?_
    refine g_getRk hc lk_X2_15 ca_697 (rc_697_2 hR) dX2_addClue_22 ?_
    refine g_aldn hc dX2_addClue_25 rfl ?_
    refine g_getI' hc lk_X2_69 ca_697 4 rfl dX2_addClue_26 ?_
    refine g_iload_n hc dX2_addClue_29 rfl ?_
    refine g_iast' hc ca_699 (by decide) (by omega) (by omega)  dX2_addClue_30 (fun I4 hI4 => ?_)
    have eI4 : I4 697 4 = I 697 4 := by rw [hI4, g_up_k (by decide)]; exact eI3
    refine g_aldn hc dX2_addClue_31 rfl ?_
    refine g_getRk hc lk_X2_18 ca_697 (rc_697_3 hR) dX2_addClue_32 ?_
    refine g_aldn hc dX2_addClue_35 rfl ?_
    refine g_getI' hc lk_X2_69 ca_697 4 rfl dX2_addClue_36 ?_
    refine g_iload_n hc dX2_addClue_39 rfl ?_
    refine g_iast' hc ca_700 (by decide) (by omega) (by omega)  dX2_addClue_40 (fun I5 hI5 => ?_)
    have eI5 : I5 697 4 = I 697 4 := by rw [hI5, g_up_k (by decide)]; exact eI4
    refine g_aldn hc dX2_addClue_41 rfl ?_
    refine g_dup hc dX2_addClue_42 rfl ?_
    refine g_getI' hc lk_X2_69 ca_697 4 rfl dX2_addClue_43 ?_
    refine g_iconst hc dX2_addClue_46 ?_
    refine g_iadd hc dX2_addClue_47 ?_
    refine g_putI' hc lk_X2_69 ca_697 4 rfl dX2_addClue_48 (fun I6 hI6 => ?_)
    have eI6 : I6 = g_adc I c u v := by
      rw [eI3] at hI4
      rw [eI4] at hI5
      rw [eI5] at hI6
      rw [g_adc, if_neg (by omega), hI6, hI5, hI4, hI3]
    refine g_aldn hc dX2_addClue_51 rfl ?_
    refine g_getI' hc lk_X2_69 ca_697 4 rfl dX2_addClue_52 ?_
    refine g_iret hc hm dX2_addClue_55 ?_
    exact ⟨by rw [if_neg (by omega), eI6, g_adc, if_neg (by omega), g_up_s], rfl, eI6, rfl, rfl⟩
  · skip
    refine g_iconst hc dX2_addClue_9 ?_
    refine g_iret hc hm dX2_addClue_10 ?_
    exact ⟨by rw [if_pos (by omega)], rfl, by rw [g_adc, if_pos (by omega)], rfl, rfl⟩
set_option maxHeartbeats 4000000 in
set_option maxRecDepth 100000 in
/-- X2_hasInYear -/
theorem c_X2_hasInYear (w : g_W) {I : g_I} {J : g_J} {R : g_R} {lb tx : Nat} (hR : g_rf w R lb tx) (hI : ∀ k j, g32 (I k j)) {b : Nat} (hb : g_life b) {s fx y : Int} (hL : g_lok I b) (h1 : 0 ≤ s ∧ s < I b 0) (h2 : g32 fx) (h3 : g32 y) : g_Met w g_n I J R yX2_hasInYear cX2_hasInYear 6 (some .boolean) 1 0 0 [(gvr w b), (gvI s), (gvI fx), (gvI y)] (g_post (some (gvI (g_b (g_hiy I b s fx y = true)))) g_n I J R) := by
  refine g_intro (own := RX2) [some (gvr w b), some (gvI s), some (gvI fx), some (gvI y), none, none] (by decide +kernel) rfl (by decide) (Nat.le_of_ble_eq_true rfl) rfl (fun i v hv => g_args 2 i v hv rfl) (fun x hc hm => ?_)
  have hb5 := hb
  unfold g_life at hb5
  have hn := hL.1
  have hnf := hL.2.1
  obtain ⟨hst, hway⟩ := g_lok_s hL h1
  refine g_iconst hc dX2_hasInYear_0 ?_
  refine g_istore_4 hc dX2_hasInYear_1 rfl ?_
  have lp_3 : ∀ (fu : Nat) (i : Int), 0 ≤ i ∧ i ≤ I (b + 14) s → g_all (fun i => decide (¬ (I (b + 41) (I (b + 16 + s.toNat) i) = y ∧ I (b + 47 + (I (b + 16 + s.toNat) i * 4 + I (b + 29 + s.toNat) i).toNat) 4 = fx))) (I (b + 14) s).toNat 0 = g_all (fun i => decide (¬ (I (b + 41) (I (b + 16 + s.toNat) i) = y ∧ I (b + 47 + (I (b + 16 + s.toNat) i * 4 + I (b + 29 + s.toNat) i).toNat) 4 = fx))) (I (b + 14) s - i).toNat i → I (b + 14) s - i < (fu : Int) → G w x (g_post (some (gvI (g_b (g_hiy I b s fx y = true)))) g_n I J R) 0 0 g_n I J R 3 [some (gvr w b), some (gvI s), some (gvI fx), some (gvI y), some (gvI i), none] [] := by
    intro fu
    induction fu with
    | zero => intro i h4 h5 hfu; exfalso; omega
    | succ fu ih =>
      intro i h4 h5 hfu
      have ih_3 := ih
      refine g_iload hc dX2_hasInYear_3 rfl ?_
      refine g_aldn hc dX2_hasInYear_5 rfl ?_
      refine g_getRk hc lk_X2_95 (la_0 hb) (rl_3 hR hb) dX2_hasInYear_6 ?_
      refine g_iload_n hc dX2_hasInYear_9 rfl ?_
      refine g_iald hc (la_14 hb) (by decide) (by omega) (by omega) dX2_hasInYear_10 ?_
      refine g_icmp_ge (tgt := 64) hc dX2_hasInYear_11 (by decide) (by first | exact hI _ _ | exact hxI2 _ _ | exact hIa _ _ | exact hIb _ _ | exact g_b32 | exact g_and32 | assumption | exact ⟨by omega, by omega⟩) (by first | exact hI _ _ | exact hxI2 _ _ | exact hIa _ _ | exact hIb _ _ | exact g_b32 | exact g_and32 | assumption | exact ⟨by omega, by omega⟩) (fun c1 => ?_) (fun c1 => ?_)
      · skip
        refine g_iconst hc dX2_hasInYear_64 ?_
        refine g_zret hc hm (by first | exact g_b01 | omega) dX2_hasInYear_65 ?_
        first | (exfalso; omega) | exact g_postE (g_b1 (by unfold g_hiy; rw [h5, g_all_f (by omega) (fun z => (of_decide_eq_true z) ⟨by assumption, by assumption⟩)]; rfl)) | exact g_postE (g_b0 (by unfold g_hiy; rw [h5, g_all_e (by omega)]; decide))
      · skip
        have hwy := hway i h4.1 (by omega)
        obtain ⟨hk2, -, -, hit⟩ := hL.2.2.2 _ hwy.1.1 hwy.1.2
        refine g_aldn hc dX2_hasInYear_14 rfl ?_
        refine g_getRk hc lk_X2_98 (la_0 hb) (rl_4 hR hb) dX2_hasInYear_15 ?_
        refine g_iload_n hc dX2_hasInYear_18 rfl ?_
        refine g_aaldk hc (la_15 hb) (by decide) rfl rfl (by decide) (by omega) (by omega) (rl_wf hR hb (by omega) (by omega)) dX2_hasInYear_19 ?_
        refine g_iload hc dX2_hasInYear_20 rfl ?_
        refine g_iald hc (la_wf hb (by omega) (by omega)) (by decide) (by omega) (by omega) dX2_hasInYear_22 ?_
        refine g_istore_5 hc dX2_hasInYear_23 rfl ?_
        refine g_aldn hc dX2_hasInYear_25 rfl ?_
        refine g_getRk hc lk_X2_108 (la_0 hb) (rl_6 hR hb) dX2_hasInYear_26 ?_
        refine g_iload hc dX2_hasInYear_29 rfl ?_
        refine g_iald hc (la_41 hb) (by decide) (by omega) (by omega) dX2_hasInYear_31 ?_
        refine g_iload_n hc dX2_hasInYear_32 rfl ?_
        refine g_icmp_ne (tgt := 58) hc dX2_hasInYear_33 (by decide) (by first | exact hI _ _ | exact hxI2 _ _ | exact hIa _ _ | exact hIb _ _ | exact g_b32 | exact g_and32 | assumption | exact ⟨by omega, by omega⟩) (by first | exact hI _ _ | exact hxI2 _ _ | exact hIa _ _ | exact hIb _ _ | exact g_b32 | exact g_and32 | assumption | exact ⟨by omega, by omega⟩) (fun c2 => ?_) (fun c2 => ?_)
        · skip
          refine g_iinc_4 hc dX2_hasInYear_58 rfl ?_
          refine g_goto (tgt := 3) hc dX2_hasInYear_61 (by decide) ?_
          refine G_sub (L' := [some (gvr w b), some (gvI s), some (gvI fx), some (gvI y), some (gvI (i + 1)), none]) (show g_le _ _ from ⟨rfl, ⟨rfl, ⟨rfl, ⟨rfl, ⟨rfl, trivial⟩⟩⟩⟩⟩) ?_
          refine ih_3 _ ?_ ?_ ?_
          · omega
          · rw [h5, g_all_t (by omega) (by simp only [decide_eq_true_eq]; intro z; first | exact absurd z.1 (by assumption) | exact absurd z.2 (by assumption))]
          · omega
        · skip
          refine g_aldn hc dX2_hasInYear_36 rfl ?_
          refine g_iload hc dX2_hasInYear_37 rfl ?_
          refine g_aldn hc dX2_hasInYear_39 rfl ?_
          refine g_getRk hc lk_X2_101 (la_0 hb) (rl_5 hR hb) dX2_hasInYear_40 ?_
          refine g_iload_n hc dX2_hasInYear_43 rfl ?_
          refine g_aaldk hc (la_28 hb) (by decide) rfl rfl (by decide) (by omega) (by omega) (rl_wb hR hb (by omega) (by omega)) dX2_hasInYear_44 ?_
          refine g_iload hc dX2_hasInYear_45 rfl ?_
          refine g_iald hc (la_wb hb (by omega) (by omega)) (by decide) (by omega) (by omega) dX2_hasInYear_47 ?_
          refine g_iconst hc dX2_hasInYear_48 ?_
          refine g_V3r hc (c_X4_item w hR hI hb (by omega) (by omega) (by omega)) my_X4_item mv_X4_item (la_0 hb) rfl rfl lm_X2_104 rfl (by decide) (Nat.le_of_ble_eq_true rfl) hm dX2_hasInYear_49 ?_
          refine g_iload_n hc dX2_hasInYear_52 rfl ?_
          refine g_icmp_ne (tgt := 58) hc dX2_hasInYear_53 (by decide) (by first | exact hI _ _ | exact hxI2 _ _ | exact hIa _ _ | exact hIb _ _ | exact g_b32 | exact g_and32 | assumption | exact ⟨by omega, by omega⟩) (by first | exact hI _ _ | exact hxI2 _ _ | exact hIa _ _ | exact hIb _ _ | exact g_b32 | exact g_and32 | assumption | exact ⟨by omega, by omega⟩) (fun c3 => ?_) (fun c3 => ?_)
          · skip
            refine g_iinc_4 hc dX2_hasInYear_58 rfl ?_
            refine g_goto (tgt := 3) hc dX2_hasInYear_61 (by decide) ?_
            refine G_sub (L' := [some (gvr w b), some (gvI s), some (gvI fx), some (gvI y), some (gvI (i + 1)), none]) (show g_le _ _ from ⟨rfl, ⟨rfl, ⟨rfl, ⟨rfl, ⟨rfl, trivial⟩⟩⟩⟩⟩) ?_
            refine ih_3 _ ?_ ?_ ?_
            · omega
            · rw [h5, g_all_t (by omega) (by simp only [decide_eq_true_eq]; intro z; first | exact absurd z.1 (by assumption) | exact absurd z.2 (by assumption))]
            · omega
          · skip
            refine g_iconst hc dX2_hasInYear_56 ?_
            refine g_zret hc hm (by first | exact g_b01 | omega) dX2_hasInYear_57 ?_
            first | (exfalso; omega) | exact g_postE (g_b1 (by unfold g_hiy; rw [h5, g_all_f (by omega) (fun z => (of_decide_eq_true z) ⟨by assumption, by assumption⟩)]; rfl)) | exact g_postE (g_b0 (by unfold g_hiy; rw [h5, g_all_e (by omega)]; decide))
  refine lp_3 (I (b + 14) s + 1).toNat _ ?_ ?_ (?_)
  · omega
  · rw [Int.sub_zero]
  · omega
set_option maxHeartbeats 4000000 in
set_option maxRecDepth 100000 in
/-- X2_crossing -/
theorem c_X2_crossing (w : g_W) {I : g_I} {J : g_J} {R : g_R} {lb tx : Nat} (hR : g_rf w R lb tx) (hI : ∀ k j, g32 (I k j)) {b : Nat} (hb : g_life b) {b2 : Nat} (hb2 : g_life b2) {s t : Int} (hL : g_lok I b) (hL2 : g_lok I b2) (h1 : 0 ≤ s ∧ s < I b 0) (h2 : 0 ≤ t ∧ t < I b2 0) : g_Met w g_n I J R yX2_crossing cX2_crossing 9 (some .int) 2 0 0 [(gvr w b), (gvI s), (gvr w b2), (gvI t)] (g_post (some (gvI (g_crs I b b2 s t))) g_n I J R) := by
  refine g_intro (own := RX2) [some (gvr w b), some (gvI s), some (gvr w b2), some (gvI t), none, none, none, none, none] (by decide +kernel) rfl (by decide) (Nat.le_of_ble_eq_true rfl) rfl (fun i v hv => g_args 5 i v hv rfl) (fun x hc hm => ?_)
  have hb5 := hb
  unfold g_life at hb5
  have hn := hL.1
  have hnf := hL.2.1
  obtain ⟨hst, hway⟩ := g_lok_s hL h1
  refine g_iconst hc dX2_crossing_0 ?_
  refine g_istore_4 hc dX2_crossing_1 rfl ?_
  refine g_iconst hc dX2_crossing_3 ?_
  refine g_istore_5 hc dX2_crossing_4 rfl ?_
  have lp_6 : ∀ (fu : Nat) (a i : Int), 0 ≤ i ∧ i ≤ I (b + 14) s → a = g_ors (g_crx I b b2 s t) i.toNat → I (b + 14) s - i < (fu : Int) → G w x (g_post (some (gvI (g_crs I b b2 s t))) g_n I J R) 0 0 g_n I J R 6 [some (gvr w b), some (gvI s), some (gvr w b2), some (gvI t), some (gvI a), some (gvI i), none, none, none] [] := by
    intro fu
    induction fu with
    | zero => intro a i h4 h5 hfu; exfalso; omega
    | succ fu ih =>
      intro a i h4 h5 hfu
      have ih_6 := ih
      refine g_iload hc dX2_crossing_6 rfl ?_
      refine g_aldn hc dX2_crossing_8 rfl ?_
      refine g_getRk hc lk_X2_95 (la_0 hb) (rl_3 hR hb) dX2_crossing_9 ?_
      refine g_iload_n hc dX2_crossing_12 rfl ?_
      refine g_iald hc (la_14 hb) (by decide) (by omega) (by omega) dX2_crossing_13 ?_
      refine g_icmp_ge (tgt := 100) hc dX2_crossing_14 (by decide) (by first | exact hI _ _ | exact hxI2 _ _ | exact hIa _ _ | exact hIb _ _ | exact g_b32 | exact g_and32 | assumption | exact ⟨by omega, by omega⟩) (by first | exact hI _ _ | exact hxI2 _ _ | exact hIa _ _ | exact hIb _ _ | exact g_b32 | exact g_and32 | assumption | exact ⟨by omega, by omega⟩) (fun c1 => ?_) (fun c1 => ?_)
      · skip
        refine g_iload hc dX2_crossing_100 rfl ?_
        refine g_iret hc hm dX2_crossing_102 ?_
        exact g_postE (by rw [g_crs, h5, show I (b + 14) s = i by omega])
      · skip
        have hwy := hway i h4.1 (by omega)
        obtain ⟨hk2, -, -, hit⟩ := hL.2.2.2 _ hwy.1.1 hwy.1.2
        refine g_aldn hc dX2_crossing_17 rfl ?_
        refine g_getRk hc lk_X2_98 (la_0 hb) (rl_4 hR hb) dX2_crossing_18 ?_
        refine g_iload_n hc dX2_crossing_21 rfl ?_
        refine g_aaldk hc (la_15 hb) (by decide) rfl rfl (by decide) (by omega) (by omega) (rl_wf hR hb (by omega) (by omega)) dX2_crossing_22 ?_
        refine g_iload hc dX2_crossing_23 rfl ?_
        refine g_iald hc (la_wf hb (by omega) (by omega)) (by decide) (by omega) (by omega) dX2_crossing_25 ?_
        refine g_istore_6 hc dX2_crossing_26 rfl ?_
        refine g_aldn hc dX2_crossing_28 rfl ?_
        refine g_iload hc dX2_crossing_29 rfl ?_
        refine g_aldn hc dX2_crossing_31 rfl ?_
        refine g_getRk hc lk_X2_101 (la_0 hb) (rl_5 hR hb) dX2_crossing_32 ?_
        refine g_iload_n hc dX2_crossing_35 rfl ?_
        refine g_aaldk hc (la_28 hb) (by decide) rfl rfl (by decide) (by omega) (by omega) (rl_wb hR hb (by omega) (by omega)) dX2_crossing_36 ?_
        refine g_iload hc dX2_crossing_37 rfl ?_
        refine g_iald hc (la_wb hb (by omega) (by omega)) (by decide) (by omega) (by omega) dX2_crossing_39 ?_
        refine g_iconst hc dX2_crossing_40 ?_
        refine g_V3r hc (c_X4_item w hR hI hb (by omega) (by omega) (by omega)) my_X4_item mv_X4_item (la_0 hb) rfl rfl lm_X2_104 rfl (by decide) (Nat.le_of_ble_eq_true rfl) hm dX2_crossing_41 ?_
        refine g_istore_7 hc dX2_crossing_44 rfl ?_
        refine g_iload hc dX2_crossing_46 rfl ?_
        refine g_iconst hc dX2_crossing_48 ?_
        refine g_icmp_eq (tgt := 73) hc dX2_crossing_49 (by decide) (by first | exact hI _ _ | exact hxI2 _ _ | exact hIa _ _ | exact hIb _ _ | exact g_b32 | exact g_and32 | assumption | exact ⟨by omega, by omega⟩) (by first | exact hI _ _ | exact hxI2 _ _ | exact hIa _ _ | exact hIb _ _ | exact g_b32 | exact g_and32 | assumption | exact ⟨by omega, by omega⟩) (fun c2 => ?_) (fun c2 => ?_)
        · skip
          refine g_iconst hc dX2_crossing_73 ?_
          refine g_istore_8 hc dX2_crossing_74 rfl ?_
          refine g_iload hc dX2_crossing_76 rfl ?_
          refine g_iload hc dX2_crossing_78 rfl ?_
          refine g_if_eq (tgt := 90) hc dX2_crossing_80 (by decide) (show g32 _ from ⟨by decide, by decide⟩) (fun c3 => ?_) (fun c3 => ?_)
          · skip
            refine g_iconst hc dX2_crossing_90 ?_
            refine g_ior hc dX2_crossing_91 ?_
            refine g_istore_4 hc dX2_crossing_92 rfl ?_
            refine g_iinc_5 hc dX2_crossing_94 rfl ?_
            refine g_goto (tgt := 6) hc dX2_crossing_97 (by decide) ?_
            refine G_sub (L' := [some (gvr w b), some (gvI s), some (gvr w b2), some (gvI t), some (gvI (g_or a 0)), some (gvI (i + 1)), none, none, none]) (show g_le _ _ from ⟨rfl, ⟨rfl, ⟨rfl, ⟨rfl, ⟨rfl, ⟨rfl, trivial⟩⟩⟩⟩⟩⟩) ?_
            refine ih_6 _ _ ?_ ?_ ?_
            · omega
            · rw [g_ors_i h4.1, h5]; first | (exfalso; omega) | (rw [g_crx, if_pos ⟨by assumption, by assumption⟩]) | (rw [g_crx, if_neg (fun z => by first | exact absurd z.2 (by assumption) | exact absurd (by assumption) z.1)])
            · omega
          · exfalso; omega
        · skip
          refine g_aldn hc dX2_crossing_52 rfl ?_
          refine g_iload_n hc dX2_crossing_53 rfl ?_
          refine g_iload hc dX2_crossing_54 rfl ?_
          refine g_aldn hc dX2_crossing_56 rfl ?_
          refine g_getRk hc lk_X2_108 (la_0 hb) (rl_6 hR hb) dX2_crossing_57 ?_
          refine g_iload hc dX2_crossing_60 rfl ?_
          refine g_iald hc (la_41 hb) (by decide) (by omega) (by omega) dX2_crossing_62 ?_
          refine g_S4r hc (c_X2_hasInYear w hR hI hb2 hL2 (by omega) (by first | exact hI _ _ | exact hxI2 _ _ | exact hIa _ _ | exact hIb _ _ | exact g_b32 | exact g_and32 | assumption | exact ⟨by omega, by omega⟩) (by first | exact hI _ _ | exact hxI2 _ _ | exact hIa _ _ | exact hIb _ _ | exact g_b32 | exact g_and32 | assumption | exact ⟨by omega, by omega⟩)) my_X2_hasInYear ms_X2_hasInYear lm_X2_111 rfl (by decide) (Nat.le_of_ble_eq_true rfl) hm dX2_crossing_63 ?_
          refine g_ifb_eq (tgt := 73) hc dX2_crossing_66 (by decide)  (fun c4 => ?_) (fun c4 => ?_)
          · skip
            refine g_iconst hc dX2_crossing_73 ?_
            refine g_istore_8 hc dX2_crossing_74 rfl ?_
            refine g_iload hc dX2_crossing_76 rfl ?_
            refine g_iload hc dX2_crossing_78 rfl ?_
            refine g_if_eq (tgt := 90) hc dX2_crossing_80 (by decide) (show g32 _ from ⟨by decide, by decide⟩) (fun c5 => ?_) (fun c5 => ?_)
            · skip
              refine g_iconst hc dX2_crossing_90 ?_
              refine g_ior hc dX2_crossing_91 ?_
              refine g_istore_4 hc dX2_crossing_92 rfl ?_
              refine g_iinc_5 hc dX2_crossing_94 rfl ?_
              refine g_goto (tgt := 6) hc dX2_crossing_97 (by decide) ?_
              refine G_sub (L' := [some (gvr w b), some (gvI s), some (gvr w b2), some (gvI t), some (gvI (g_or a 0)), some (gvI (i + 1)), none, none, none]) (show g_le _ _ from ⟨rfl, ⟨rfl, ⟨rfl, ⟨rfl, ⟨rfl, ⟨rfl, trivial⟩⟩⟩⟩⟩⟩) ?_
              refine ih_6 _ _ ?_ ?_ ?_
              · omega
              · rw [g_ors_i h4.1, h5]; first | (exfalso; omega) | (rw [g_crx, if_pos ⟨by assumption, by assumption⟩]) | (rw [g_crx, if_neg (fun z => by first | exact absurd z.2 (by assumption) | exact absurd (by assumption) z.1)])
              · omega
            · exfalso; omega
          · skip
            refine g_iconst hc dX2_crossing_69 ?_
            refine g_goto (tgt := 74) hc dX2_crossing_70 (by decide) ?_
            refine g_istore_8 hc dX2_crossing_74 rfl ?_
            refine g_iload hc dX2_crossing_76 rfl ?_
            refine g_iload hc dX2_crossing_78 rfl ?_
            refine g_if_eq (tgt := 90) hc dX2_crossing_80 (by decide) (show g32 _ from ⟨by decide, by decide⟩) (fun c6 => ?_) (fun c6 => ?_)
            · exfalso; omega
            · skip
              refine g_iconst hc dX2_crossing_83 ?_
              refine g_iload hc dX2_crossing_84 rfl ?_
              refine g_ishl hc dX2_crossing_86 ?_
              refine g_goto (tgt := 91) hc dX2_crossing_87 (by decide) ?_
              refine g_ior hc dX2_crossing_91 ?_
              refine g_istore_4 hc dX2_crossing_92 rfl ?_
              refine g_iinc_5 hc dX2_crossing_94 rfl ?_
              refine g_goto (tgt := 6) hc dX2_crossing_97 (by decide) ?_
              refine G_sub (L' := [some (gvr w b), some (gvI s), some (gvr w b2), some (gvI t), some (gvI (g_or a (g_shl 1 (I (b + 47 + ((I (b + 16 + (s).toNat) i) * 4 + (I (b + 29 + (s).toNat) i)).toNat) 4)))), some (gvI (i + 1)), none, none, none]) (show g_le _ _ from ⟨rfl, ⟨rfl, ⟨rfl, ⟨rfl, ⟨rfl, ⟨rfl, trivial⟩⟩⟩⟩⟩⟩) ?_
              refine ih_6 _ _ ?_ ?_ ?_
              · omega
              · rw [g_ors_i h4.1, h5]; first | (exfalso; omega) | (rw [g_crx, if_pos ⟨by assumption, by assumption⟩]) | (rw [g_crx, if_neg (fun z => by first | exact absurd z.2 (by assumption) | exact absurd (by assumption) z.1)])
              · omega
  refine lp_6 (I (b + 14) s + 1).toNat _ _ ?_ ?_ (?_)
  · omega
  · rfl
  · omega
set_option maxHeartbeats 4000000 in
set_option maxRecDepth 100000 in
/-- X2_crossed -/
theorem c_X2_crossed (w : g_W) {I : g_I} {J : g_J} {R : g_R} {lb tx : Nat} (hR : g_rf w R lb tx) (hI : ∀ k j, g32 (I k j)) {b : Nat} (hb : g_life b) {b2 : Nat} (hb2 : g_life b2) {s : Int} (hL : g_lok I b) (hL2 : g_lok I b2) (h1 : 0 ≤ s ∧ s < I b 0) : g_Met w g_n I J R yX2_crossed cX2_crossed 5 (some .int) 3 0 0 [(gvr w b), (gvI s), (gvr w b2)] (g_post (some (gvI (g_crd I b b2 s))) g_n I J R) := by
  refine g_intro (own := RX2) [some (gvr w b), some (gvI s), some (gvr w b2), none, none] (by decide +kernel) rfl (by decide) (Nat.le_of_ble_eq_true rfl) rfl (fun i v hv => g_args 2 i v hv rfl) (fun x hc hm => ?_)
  have hn2 := hL2.1
  refine g_iconst hc dX2_crossed_0 ?_
  refine g_istore_3 hc dX2_crossed_1 rfl ?_
  refine g_iconst hc dX2_crossed_2 ?_
  refine g_istore_4 hc dX2_crossed_3 rfl ?_
  have lp_5 : ∀ (fu : Nat) (a i : Int), 0 ≤ i ∧ i ≤ I b2 0 → a = g_sum (fun t => if g_crs I b b2 s t = 0 then 0 else 1) i.toNat → I b2 0 - i < (fu : Int) → G w x (g_post (some (gvI (g_crd I b b2 s))) g_n I J R) 0 0 g_n I J R 5 [some (gvr w b), some (gvI s), some (gvr w b2), some (gvI a), some (gvI i)] [] := by
    intro fu
    induction fu with
    | zero => intro a i h4 h5 hfu; exfalso; omega
    | succ fu ih =>
      intro a i h4 h5 hfu
      have ih_5 := ih
      refine g_iload hc dX2_crossed_5 rfl ?_
      refine g_aldn hc dX2_crossed_7 rfl ?_
      refine g_getI' hc lk_X2_37 (la_0 hb2) 0 rfl dX2_crossed_8 ?_
      refine g_icmp_ge (tgt := 39) hc dX2_crossed_11 (by decide) (by first | exact hI _ _ | exact hxI2 _ _ | exact hIa _ _ | exact hIb _ _ | exact g_b32 | exact g_and32 | assumption | exact ⟨by omega, by omega⟩) (by first | exact hI _ _ | exact hxI2 _ _ | exact hIa _ _ | exact hIb _ _ | exact g_b32 | exact g_and32 | assumption | exact ⟨by omega, by omega⟩) (fun c1 => ?_) (fun c1 => ?_)
      · skip
        refine g_iload_n hc dX2_crossed_39 rfl ?_
        refine g_iret hc hm dX2_crossed_40 ?_
        exact g_postE (by rw [g_crd, h5, show I b2 0 = i by omega])
      · skip
        refine g_iload_n hc dX2_crossed_14 rfl ?_
        refine g_aldn hc dX2_crossed_15 rfl ?_
        refine g_iload_n hc dX2_crossed_16 rfl ?_
        refine g_aldn hc dX2_crossed_17 rfl ?_
        refine g_iload hc dX2_crossed_18 rfl ?_
        refine g_S4r hc (c_X2_crossing w hR hI hb hb2 hL hL2 (by omega) (by omega)) my_X2_crossing ms_X2_crossing lm_X2_115 rfl (by decide) (Nat.le_of_ble_eq_true rfl) hm dX2_crossed_20 ?_
        refine g_if_ne (tgt := 30) hc dX2_crossed_23 (by decide) g_ors32 (fun c2 => ?_) (fun c2 => ?_)
        · skip
          refine g_iconst hc dX2_crossed_30 ?_
          refine g_iadd hc dX2_crossed_31 ?_
          refine g_istore_3 hc dX2_crossed_32 rfl ?_
          refine g_iinc_4 hc dX2_crossed_33 rfl ?_
          refine g_goto (tgt := 5) hc dX2_crossed_36 (by decide) ?_
          refine ih_5 _ _ ?_ ?_ ?_
          · omega
          · rw [g_sum_i h4.1, h5]; first | (exfalso; omega) | rw [if_pos (by assumption)] | rw [if_neg (by assumption)]
          · omega
        · skip
          refine g_iconst hc dX2_crossed_26 ?_
          refine g_goto (tgt := 31) hc dX2_crossed_27 (by decide) ?_
          refine g_iadd hc dX2_crossed_31 ?_
          refine g_istore_3 hc dX2_crossed_32 rfl ?_
          refine g_iinc_4 hc dX2_crossed_33 rfl ?_
          refine g_goto (tgt := 5) hc dX2_crossed_36 (by decide) ?_
          refine ih_5 _ _ ?_ ?_ ?_
          · omega
          · rw [g_sum_i h4.1, h5]; first | (exfalso; omega) | rw [if_pos (by assumption)] | rw [if_neg (by assumption)]
          · omega
  refine lp_5 (I b2 0 + 1).toNat _ _ ?_ ?_ (?_)
  · omega
  · rfl
  · omega
set_option maxHeartbeats 4000000 in
set_option maxRecDepth 100000 in
/-- X2_pairs -/
theorem c_X2_pairs (w : g_W) {I : g_I} {J : g_J} {R : g_R} {lb tx : Nat} (hR : g_rf w R lb tx) (hI : ∀ k j, g32 (I k j)) {b : Nat} (hb : g_life b) {b2 : Nat} (hb2 : g_life b2) (hL : g_lok I b) (hL2 : g_lok I b2) : g_Met w g_n I J R yX2_pairs cX2_pairs 4 (some .int) 4 0 0 [(gvr w b), (gvr w b2)] (g_post (some (gvI (g_prs I b b2))) g_n I J R) := by
  refine g_intro (own := RX2) [some (gvr w b), some (gvr w b2), none, none] (by decide +kernel) rfl (by decide) (Nat.le_of_ble_eq_true rfl) rfl (fun i v hv => g_args 2 i v hv rfl) (fun x hc hm => ?_)
  have hn := hL.1
  have hn2 := hL2.1
  refine g_iconst hc dX2_pairs_0 ?_
  refine g_istore_2 hc dX2_pairs_1 rfl ?_
  refine g_iconst hc dX2_pairs_2 ?_
  refine g_istore_3 hc dX2_pairs_3 rfl ?_
  have lp_4 : ∀ (fu : Nat) (a i : Int), 0 ≤ i ∧ i ≤ I b 0 → a = g_sum (fun s => g_crd I b b2 s) i.toNat → I b 0 - i < (fu : Int) → G w x (g_post (some (gvI (g_prs I b b2))) g_n I J R) 0 0 g_n I J R 4 [some (gvr w b), some (gvr w b2), some (gvI a), some (gvI i)] [] := by
    intro fu
    induction fu with
    | zero => intro a i h4 h5 hfu; exfalso; omega
    | succ fu ih =>
      intro a i h4 h5 hfu
      have ih_4 := ih
      refine g_iload_n hc dX2_pairs_4 rfl ?_
      refine g_aldn hc dX2_pairs_5 rfl ?_
      refine g_getI' hc lk_X2_37 (la_0 hb) 0 rfl dX2_pairs_6 ?_
      refine g_icmp_ge (tgt := 27) hc dX2_pairs_9 (by decide) (by first | exact hI _ _ | exact hxI2 _ _ | exact hIa _ _ | exact hIb _ _ | exact g_b32 | exact g_and32 | assumption | exact ⟨by omega, by omega⟩) (by first | exact hI _ _ | exact hxI2 _ _ | exact hIa _ _ | exact hIb _ _ | exact g_b32 | exact g_and32 | assumption | exact ⟨by omega, by omega⟩) (fun c1 => ?_) (fun c1 => ?_)
      · skip
        refine g_iload_n hc dX2_pairs_27 rfl ?_
        refine g_iret hc hm dX2_pairs_28 ?_
        exact g_postE (by rw [g_prs, h5, show I b 0 = i by omega])
      · skip
        refine g_iload_n hc dX2_pairs_12 rfl ?_
        refine g_aldn hc dX2_pairs_13 rfl ?_
        refine g_iload_n hc dX2_pairs_14 rfl ?_
        refine g_aldn hc dX2_pairs_15 rfl ?_
        refine g_S3r hc (c_X2_crossed w hR hI hb hb2 hL hL2 (by omega)) my_X2_crossed ms_X2_crossed lm_X2_119 rfl (by decide) (Nat.le_of_ble_eq_true rfl) hm dX2_pairs_16 ?_
        refine g_iadd hc dX2_pairs_19 ?_
        refine g_istore_2 hc dX2_pairs_20 rfl ?_
        refine g_iinc_3 hc dX2_pairs_21 rfl ?_
        refine g_goto (tgt := 4) hc dX2_pairs_24 (by decide) ?_
        refine ih_4 _ _ ?_ ?_ ?_
        · omega
        · rw [g_sum_i h4.1, h5]
        · omega
  refine lp_4 (I b 0 + 1).toNat _ _ ?_ ?_ (?_)
  · omega
  · rfl
  · omega
set_option maxHeartbeats 4000000 in
set_option maxRecDepth 100000 in
/-- X2_crossesMost -/
theorem c_X2_crossesMost (w : g_W) {I : g_I} {J : g_J} {R : g_R} {lb tx : Nat} (hR : g_rf w R lb tx) (hI : ∀ k j, g32 (I k j)) {b : Nat} (hb : g_life b) {b2 : Nat} (hb2 : g_life b2) (hL : g_lok I b) (hL2 : g_lok I b2) : g_Met w g_n I J R yX2_crossesMost cX2_crossesMost 6 (some .int) 4 0 0 [(gvr w b), (gvr w b2)] (g_post (some (gvI ((g_cmx I b b2 (I b 0).toNat).1))) g_n I J R) := by
  refine g_intro (own := RX2) [some (gvr w b), some (gvr w b2), none, none, none, none] (by decide +kernel) rfl (by decide) (Nat.le_of_ble_eq_true rfl) rfl (fun i v hv => g_args 4 i v hv rfl) (fun x hc hm => ?_)
  have hn := hL.1
  have hn2 := hL2.1
  refine g_iconst hc dX2_crossesMost_0 ?_
  refine g_istore_2 hc dX2_crossesMost_1 rfl ?_
  refine g_iconst hc dX2_crossesMost_2 ?_
  refine g_istore_3 hc dX2_crossesMost_3 rfl ?_
  refine g_iconst hc dX2_crossesMost_4 ?_
  refine g_istore_4 hc dX2_crossesMost_5 rfl ?_
  have lp_7 : ∀ (fu : Nat) (a q i : Int), 0 ≤ i ∧ i ≤ I b 0 → g_cmx I b b2 i.toNat = (a, q) → 0 ≤ q ∧ q ≤ 12 → I b 0 - i < (fu : Int) → G w x (g_post (some (gvI ((g_cmx I b b2 (I b 0).toNat).1))) g_n I J R) 0 0 g_n I J R 7 [some (gvr w b), some (gvr w b2), some (gvI a), some (gvI q), some (gvI i), none] [] := by
    intro fu
    induction fu with
    | zero => intro a q i h4 h5 h6 hfu; exfalso; omega
    | succ fu ih =>
      intro a q i h4 h5 h6 hfu
      have ih_7 := ih
      refine g_iload hc dX2_crossesMost_7 rfl ?_
      refine g_aldn hc dX2_crossesMost_9 rfl ?_
      refine g_getI' hc lk_X2_37 (la_0 hb) 0 rfl dX2_crossesMost_10 ?_
      refine g_icmp_ge (tgt := 43) hc dX2_crossesMost_13 (by decide) (by first | exact hI _ _ | exact hxI2 _ _ | exact hIa _ _ | exact hIb _ _ | exact g_b32 | exact g_and32 | assumption | exact ⟨by omega, by omega⟩) (by first | exact hI _ _ | exact hxI2 _ _ | exact hIa _ _ | exact hIb _ _ | exact g_b32 | exact g_and32 | assumption | exact ⟨by omega, by omega⟩) (fun c1 => ?_) (fun c1 => ?_)
      · skip
        refine g_iload_n hc dX2_crossesMost_43 rfl ?_
        refine g_iret hc hm dX2_crossesMost_44 ?_
        exact g_postE (by rw [show I b 0 = i by omega, h5])
      · skip
        refine g_aldn hc dX2_crossesMost_16 rfl ?_
        refine g_iload hc dX2_crossesMost_17 rfl ?_
        refine g_aldn hc dX2_crossesMost_19 rfl ?_
        refine g_S3r hc (c_X2_crossed w hR hI hb hb2 hL hL2 (by omega)) my_X2_crossed ms_X2_crossed lm_X2_119 rfl (by decide) (Nat.le_of_ble_eq_true rfl) hm dX2_crossesMost_20 ?_
        have hcd := g_crd_in (I := I) (b := b) (s := i) hn2
        refine g_istore_5 hc dX2_crossesMost_23 rfl ?_
        refine g_iload hc dX2_crossesMost_25 rfl ?_
        refine g_iload_n hc dX2_crossesMost_27 rfl ?_
        refine g_icmp_le (tgt := 37) hc dX2_crossesMost_28 (by decide) (by first | exact hI _ _ | exact hxI2 _ _ | exact hIa _ _ | exact hIb _ _ | exact g_b32 | exact g_and32 | assumption | exact ⟨by omega, by omega⟩) (by first | exact hI _ _ | exact hxI2 _ _ | exact hIa _ _ | exact hIb _ _ | exact g_b32 | exact g_and32 | assumption | exact ⟨by omega, by omega⟩) (fun c2 => ?_) (fun c2 => ?_)
        · skip
          refine g_iinc_4 hc dX2_crossesMost_37 rfl ?_
          refine g_goto (tgt := 7) hc dX2_crossesMost_40 (by decide) ?_
          refine G_sub (L' := [some (gvr w b), some (gvr w b2), some (gvI a), some (gvI q), some (gvI (i + 1)), none]) (show g_le _ _ from ⟨rfl, ⟨rfl, ⟨rfl, ⟨rfl, ⟨rfl, trivial⟩⟩⟩⟩⟩) ?_
          refine ih_7 _ _ _ ?_ ?_ ?_ ?_
          · omega
          · rw [g_cmx_i h4.1, h5]; first | (exfalso; omega) | (rw [if_pos (by show q < _; omega)]) | (rw [if_neg (by show ¬ q < _; omega)])
          · omega
          · omega
        · skip
          refine g_iload hc dX2_crossesMost_31 rfl ?_
          refine g_istore_2 hc dX2_crossesMost_33 rfl ?_
          refine g_iload hc dX2_crossesMost_34 rfl ?_
          refine g_istore_3 hc dX2_crossesMost_36 rfl ?_
          refine g_iinc_4 hc dX2_crossesMost_37 rfl ?_
          refine g_goto (tgt := 7) hc dX2_crossesMost_40 (by decide) ?_
          refine G_sub (L' := [some (gvr w b), some (gvr w b2), some (gvI i), some (gvI (g_crd I b b2 i)), some (gvI (i + 1)), none]) (show g_le _ _ from ⟨rfl, ⟨rfl, ⟨rfl, ⟨rfl, ⟨rfl, trivial⟩⟩⟩⟩⟩) ?_
          refine ih_7 _ _ _ ?_ ?_ ?_ ?_
          · omega
          · rw [g_cmx_i h4.1, h5]; first | (exfalso; omega) | (rw [if_pos (by show q < _; omega)]) | (rw [if_neg (by show ¬ q < _; omega)])
          · omega
          · omega
  refine lp_7 (I b 0 + 1).toNat _ _ _ ?_ ?_ ?_ (?_)
  · omega
  · rfl
  · omega
  · omega
