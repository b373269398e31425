theorem g_prt32 {I : g_I} {b : Nat} {s t : Int} (hL : g_lok I b) (h1 : 0 ≤ s ∧ s < I b 0) (h2 : 0 ≤ t ∧ t < I b 0) : g32 (g_prt I b s t) := by
  obtain ⟨hst, hway⟩ := g_lok_s hL h1
  obtain ⟨hst2, -⟩ := g_lok_s hL h2
  have hn := hL.2.1
  have hpt := g_prn_in (I := I) (b := b) (s := s) (t := t) (m := 20) (by decide) (min (I (b + 14) s) (I (b + 14) t)).toNat (fun i h0 h1 => by have := (hway i h0 (by omega)).1; omega)
  unfold g_prt
  exact ⟨by omega, by omega⟩
set_option maxHeartbeats 4000000 in
set_option maxRecDepth 100000 in
/-- X2_leadsTo -/
theorem c_X2_leadsTo (w : g_W) {I : g_I} {J : g_J} {R : g_R} {lb tx : Nat} (hR : g_rf w R lb tx) (hlb : g_life lb) {I2 : g_I} (hI : ∀ k j, g32 (I k j)) (hsI2 : g_off I I2) (hxI2 : ∀ k j, g32 (I2 k j)) (hC : g_cin I lb) {u v : Int} : g_Met w g_n I2 J R yX2_leadsTo cX2_leadsTo 6 (some .boolean) 3 0 0 [(gvr w 697), (gvI u), (gvI v)] (g_post (some (gvI (g_b (g_lds I lb u v = true)))) g_n I2 J R) := by
  refine g_intro (own := RX2) [some (gvr w 697), some (gvI u), some (gvI v), none, none, none] (by decide +kernel) rfl (by decide) (Nat.le_of_ble_eq_true rfl) rfl (fun i v hv => g_args 3 i v hv rfl) (fun x hc hm => ?_)
  have hL := hC.1
  obtain ⟨hn0, hn1, hLs, hLf⟩ := id hL
  obtain ⟨-, hC1, hC2, hC3, hC4, hC5, hC6, hC7⟩ := id hC
  have hlb5 := hlb
  unfold g_life at hlb5
  have hdI2 : ∀ k : Nat, ¬ g_sV k → I2 k = I2 k := fun _ _ => rfl
  refine g_iconst hc dX2_leadsTo_0 ?_
  refine g_istore_3 hc dX2_leadsTo_1 rfl ?_
  have lp_2 : ∀ (fu : Nat) (i : Int), 0 ≤ i ∧ i ≤ I lb 0 → g_lds I lb u v = g_all (fun t => decide (¬ (g_bit (g_fct I lb t) u ∧ ¬ g_bit (g_fct I lb t) v ∧ g_thr I lb t = true))) (I lb 0 - i).toNat i → I lb 0 - i < (fu : Int) → G w x (g_post (some (gvI (g_b (g_lds I lb u v = true)))) g_n I2 J R) 0 0 g_n I2 J R 2 [some (gvr w 697), some (gvI u), some (gvI v), some (gvI i), none, none] [] := by
    intro fu
    induction fu with
    | zero => intro i h3 h4 hfu; exfalso; omega
    | succ fu ih =>
      intro i h3 h4 hfu
      have ih_2 := ih
      refine g_iload_n hc dX2_leadsTo_2 rfl ?_
      refine g_aldn hc dX2_leadsTo_3 rfl ?_
      refine g_getRk hc lk_X2_21 ca_697 (rc_697_0 hR) dX2_leadsTo_4 ?_
      refine g_getRvk hc lk_X2_25 ca_548 (rc_548_3 hR) dX2_leadsTo_7 ?_
      refine g_getIe hc lk_X2_37 (la_0 hlb) 0 rfl (congrFun (hsI2 _ (by omega)) _) dX2_leadsTo_10 ?_
      refine g_icmp_ge (tgt := 85) hc dX2_leadsTo_13 (by decide) (by first | exact hI _ _ | exact hxI2 _ _ | exact hIa _ _ | exact hIb _ _ | exact g_b32 | exact g_and32 | assumption | exact ⟨by omega, by omega⟩) (by first | exact hI _ _ | exact hxI2 _ _ | exact hIa _ _ | exact hIb _ _ | exact g_b32 | exact g_and32 | assumption | exact ⟨by omega, by omega⟩) (fun c1 => ?_) (fun c1 => ?_)
      · skip
        refine g_iconst hc dX2_leadsTo_85 ?_
        refine g_zret hc hm (by first | exact g_b01 | omega) dX2_leadsTo_86 ?_
        first | (exfalso; omega) | exact g_postE (g_b0 (by rw [h4, g_all_f (by omega) (fun z => (of_decide_eq_true z) ⟨by assumption, by assumption, by assumption⟩)]; decide)) | exact g_postE (g_b1 (by rw [h4, g_all_e (by omega)]))
      · skip
        refine g_aldn hc dX2_leadsTo_16 rfl ?_
        refine g_iload_n hc dX2_leadsTo_17 rfl ?_
        refine g_V1r hc (c_X2_factsOf w hR hlb hI hsI2 hxI2 hC (by omega)) my_X2_factsOf mv_X2_factsOf ca_697 rfl rfl lm_X2_41 rfl (by decide) (Nat.le_of_ble_eq_true rfl) hm dX2_leadsTo_18 ?_
        refine g_iload_n hc dX2_leadsTo_21 rfl ?_
        refine g_ishr hc dX2_leadsTo_22 ?_
        refine g_iconst hc dX2_leadsTo_23 ?_
        refine g_iand hc dX2_leadsTo_24 ?_
        refine g_iconst hc dX2_leadsTo_25 ?_
        refine g_icmp_ne (tgt := 33) hc dX2_leadsTo_26 (by decide) (by first | exact hI _ _ | exact hxI2 _ _ | exact hIa _ _ | exact hIb _ _ | exact g_b32 | exact g_and32 | assumption | exact ⟨by omega, by omega⟩) (by first | exact hI _ _ | exact hxI2 _ _ | exact hIa _ _ | exact hIb _ _ | exact g_b32 | exact g_and32 | assumption | exact ⟨by omega, by omega⟩) (fun c2 => ?_) (fun c2 => ?_)
        · skip
          refine g_iconst hc dX2_leadsTo_33 ?_
          refine g_istore_4 hc dX2_leadsTo_34 rfl ?_
          refine g_aldn hc dX2_leadsTo_36 rfl ?_
          refine g_iload_n hc dX2_leadsTo_37 rfl ?_
          refine g_V1r hc (c_X2_factsOf w hR hlb hI hsI2 hxI2 hC (by omega)) my_X2_factsOf mv_X2_factsOf ca_697 rfl rfl lm_X2_41 rfl (by decide) (Nat.le_of_ble_eq_true rfl) hm dX2_leadsTo_38 ?_
          refine g_iload_n hc dX2_leadsTo_41 rfl ?_
          refine g_ishr hc dX2_leadsTo_42 ?_
          refine g_iconst hc dX2_leadsTo_43 ?_
          refine g_iand hc dX2_leadsTo_44 ?_
          refine g_iconst hc dX2_leadsTo_45 ?_
          refine g_icmp_ne (tgt := 53) hc dX2_leadsTo_46 (by decide) (by first | exact hI _ _ | exact hxI2 _ _ | exact hIa _ _ | exact hIb _ _ | exact g_b32 | exact g_and32 | assumption | exact ⟨by omega, by omega⟩) (by first | exact hI _ _ | exact hxI2 _ _ | exact hIa _ _ | exact hIb _ _ | exact g_b32 | exact g_and32 | assumption | exact ⟨by omega, by omega⟩) (fun c3 => ?_) (fun c3 => ?_)
          · skip
            refine g_iconst hc dX2_leadsTo_53 ?_
            refine g_istore_5 hc dX2_leadsTo_54 rfl ?_
            refine g_iload hc dX2_leadsTo_56 rfl ?_
            refine g_if_eq (tgt := 79) hc dX2_leadsTo_58 (by decide) (show g32 _ from ⟨by decide, by decide⟩) (fun c4 => ?_) (fun c4 => ?_)
            · skip
              refine g_iinc_3 hc dX2_leadsTo_79 rfl ?_
              refine g_goto (tgt := 2) hc dX2_leadsTo_82 (by decide) ?_
              refine G_sub (L' := [some (gvr w 697), some (gvI u), some (gvI v), some (gvI (i + 1)), none, none]) (show g_le _ _ from ⟨rfl, ⟨rfl, ⟨rfl, ⟨rfl, trivial⟩⟩⟩⟩) ?_
              refine ih_2 _ ?_ ?_ ?_
              · omega
              · rw [h4, g_all_t (by omega) (by simp only [decide_eq_true_eq]; intro z; first | exact absurd z.1 (by assumption) | exact absurd (by assumption) z.2.1 | exact absurd z.2.2 (by assumption))]
              · omega
            · exfalso; omega
          · skip
            refine g_iconst hc dX2_leadsTo_49 ?_
            refine g_goto (tgt := 54) hc dX2_leadsTo_50 (by decide) ?_
            refine g_istore_5 hc dX2_leadsTo_54 rfl ?_
            refine g_iload hc dX2_leadsTo_56 rfl ?_
            refine g_if_eq (tgt := 79) hc dX2_leadsTo_58 (by decide) (show g32 _ from ⟨by decide, by decide⟩) (fun c5 => ?_) (fun c5 => ?_)
            · skip
              refine g_iinc_3 hc dX2_leadsTo_79 rfl ?_
              refine g_goto (tgt := 2) hc dX2_leadsTo_82 (by decide) ?_
              refine G_sub (L' := [some (gvr w 697), some (gvI u), some (gvI v), some (gvI (i + 1)), none, none]) (show g_le _ _ from ⟨rfl, ⟨rfl, ⟨rfl, ⟨rfl, trivial⟩⟩⟩⟩) ?_
              refine ih_2 _ ?_ ?_ ?_
              · omega
              · rw [h4, g_all_t (by omega) (by simp only [decide_eq_true_eq]; intro z; first | exact absurd z.1 (by assumption) | exact absurd (by assumption) z.2.1 | exact absurd z.2.2 (by assumption))]
              · omega
            · exfalso; omega
        · skip
          refine g_iconst hc dX2_leadsTo_29 ?_
          refine g_goto (tgt := 34) hc dX2_leadsTo_30 (by decide) ?_
          refine g_istore_4 hc dX2_leadsTo_34 rfl ?_
          refine g_aldn hc dX2_leadsTo_36 rfl ?_
          refine g_iload_n hc dX2_leadsTo_37 rfl ?_
          refine g_V1r hc (c_X2_factsOf w hR hlb hI hsI2 hxI2 hC (by omega)) my_X2_factsOf mv_X2_factsOf ca_697 rfl rfl lm_X2_41 rfl (by decide) (Nat.le_of_ble_eq_true rfl) hm dX2_leadsTo_38 ?_
          refine g_iload_n hc dX2_leadsTo_41 rfl ?_
          refine g_ishr hc dX2_leadsTo_42 ?_
          refine g_iconst hc dX2_leadsTo_43 ?_
          refine g_iand hc dX2_leadsTo_44 ?_
          refine g_iconst hc dX2_leadsTo_45 ?_
          refine g_icmp_ne (tgt := 53) hc dX2_leadsTo_46 (by decide) (by first | exact hI _ _ | exact hxI2 _ _ | exact hIa _ _ | exact hIb _ _ | exact g_b32 | exact g_and32 | assumption | exact ⟨by omega, by omega⟩) (by first | exact hI _ _ | exact hxI2 _ _ | exact hIa _ _ | exact hIb _ _ | exact g_b32 | exact g_and32 | assumption | exact ⟨by omega, by omega⟩) (fun c6 => ?_) (fun c6 => ?_)
          · skip
            refine g_iconst hc dX2_leadsTo_53 ?_
            refine g_istore_5 hc dX2_leadsTo_54 rfl ?_
            refine g_iload hc dX2_leadsTo_56 rfl ?_
            refine g_if_eq (tgt := 79) hc dX2_leadsTo_58 (by decide) (show g32 _ from ⟨by decide, by decide⟩) (fun c7 => ?_) (fun c7 => ?_)
            · exfalso; omega
            · skip
              refine g_iload hc dX2_leadsTo_61 rfl ?_
              refine g_if_ne (tgt := 79) hc dX2_leadsTo_63 (by decide) (show g32 _ from ⟨by decide, by decide⟩) (fun c8 => ?_) (fun c8 => ?_)
              · exfalso; omega
              · skip
                refine g_aldn hc dX2_leadsTo_66 rfl ?_
                refine g_getRk hc lk_X2_21 ca_697 (rc_697_0 hR) dX2_leadsTo_67 ?_
                refine g_iload_n hc dX2_leadsTo_70 rfl ?_
                refine g_V1r hc (c_X7_isThere w hR hxI2 hlb (g_lok_cg hsI2 hlb hL) (by first | omega | (rw [hsI2 _ (g_nl hlb (by omega) (by omega))]; omega))) my_X7_isThere mv_X7_isThere ca_548 rfl rfl lm_X2_45 rfl (by decide) (Nat.le_of_ble_eq_true rfl) hm dX2_leadsTo_71 ?_
                rw [show g_thr I2 lb i = g_thr I lb i from g_thr_cg hsI2 hlb (by omega)]
                refine g_ifb_eq (tgt := 79) hc dX2_leadsTo_74 (by decide)  (fun c9 => ?_) (fun c9 => ?_)
                · skip
                  refine g_iinc_3 hc dX2_leadsTo_79 rfl ?_
                  refine g_goto (tgt := 2) hc dX2_leadsTo_82 (by decide) ?_
                  refine G_sub (L' := [some (gvr w 697), some (gvI u), some (gvI v), some (gvI (i + 1)), none, none]) (show g_le _ _ from ⟨rfl, ⟨rfl, ⟨rfl, ⟨rfl, trivial⟩⟩⟩⟩) ?_
                  refine ih_2 _ ?_ ?_ ?_
                  · omega
                  · rw [h4, g_all_t (by omega) (by simp only [decide_eq_true_eq]; intro z; first | exact absurd z.1 (by assumption) | exact absurd (by assumption) z.2.1 | exact absurd z.2.2 (by assumption))]
                  · omega
                · skip
                  refine g_iconst hc dX2_leadsTo_77 ?_
                  refine g_zret hc hm (by first | exact g_b01 | omega) dX2_leadsTo_78 ?_
                  first | (exfalso; omega) | exact g_postE (g_b0 (by rw [h4, g_all_f (by omega) (fun z => (of_decide_eq_true z) ⟨by assumption, by assumption, by assumption⟩)]; decide)) | exact g_postE (g_b1 (by rw [h4, g_all_e (by omega)]))
          · skip
            refine g_iconst hc dX2_leadsTo_49 ?_
            refine g_goto (tgt := 54) hc dX2_leadsTo_50 (by decide) ?_
            refine g_istore_5 hc dX2_leadsTo_54 rfl ?_
            refine g_iload hc dX2_leadsTo_56 rfl ?_
            refine g_if_eq (tgt := 79) hc dX2_leadsTo_58 (by decide) (show g32 _ from ⟨by decide, by decide⟩) (fun c10 => ?_) (fun c10 => ?_)
            · exfalso; omega
            · skip
              refine g_iload hc dX2_leadsTo_61 rfl ?_
              refine g_if_ne (tgt := 79) hc dX2_leadsTo_63 (by decide) (show g32 _ from ⟨by decide, by decide⟩) (fun c11 => ?_) (fun c11 => ?_)
              · skip
                refine g_iinc_3 hc dX2_leadsTo_79 rfl ?_
                refine g_goto (tgt := 2) hc dX2_leadsTo_82 (by decide) ?_
                refine G_sub (L' := [some (gvr w 697), some (gvI u), some (gvI v), some (gvI (i + 1)), none, none]) (show g_le _ _ from ⟨rfl, ⟨rfl, ⟨rfl, ⟨rfl, trivial⟩⟩⟩⟩) ?_
                refine ih_2 _ ?_ ?_ ?_
                · omega
                · rw [h4, g_all_t (by omega) (by simp only [decide_eq_true_eq]; intro z; first | exact absurd z.1 (by assumption) | exact absurd (by assumption) z.2.1 | exact absurd z.2.2 (by assumption))]
                · omega
              · exfalso; omega
  refine lp_2 (I lb 0 + 1).toNat _ ?_ ?_ (?_)
  · omega
  · rw [Int.sub_zero]; rfl
  · omega
set_option maxHeartbeats 4000000 in
set_option maxRecDepth 100000 in
/-- X2_hasFact -/
theorem c_X2_hasFact (w : g_W) {I : g_I} {J : g_J} {R : g_R} {lb tx : Nat} (hR : g_rf w R lb tx) (hlb : g_life lb) {I2 : g_I} (hI : ∀ k j, g32 (I k j)) (hsI2 : g_off I I2) (hxI2 : ∀ k j, g32 (I2 k j)) (hC : g_cin I lb) {s u : Int} (h1 : 0 ≤ s ∧ s < I lb 0) (h2 : g32 u) : g_Met w g_n I2 J R yX2_hasFact cX2_hasFact 3 (some .boolean) 1 0 0 [(gvr w 697), (gvI s), (gvI u)] (g_post (some (gvI (g_b (g_hfa I lb s u)))) g_n I2 J R) := by
  refine g_intro (own := RX2) [some (gvr w 697), some (gvI s), some (gvI u)] (by decide +kernel) rfl (by decide) (Nat.le_of_ble_eq_true rfl) rfl (fun i v hv => g_args 0 i v hv rfl) (fun x hc hm => ?_)
  have hL := hC.1
  obtain ⟨hn0, hn1, hLs, hLf⟩ := id hL
  obtain ⟨-, hC1, hC2, hC3, hC4, hC5, hC6, hC7⟩ := id hC
  have hlb5 := hlb
  unfold g_life at hlb5
  have hdI2 : ∀ k : Nat, ¬ g_sV k → I2 k = I2 k := fun _ _ => rfl
  refine g_iload_n hc dX2_hasFact_0 rfl ?_
  refine g_bipush hc dX2_hasFact_1 (by decide +kernel) ?_
  refine g_icmp_gt (tgt := 23) hc dX2_hasFact_3 (by decide) (by first | exact hI _ _ | exact hxI2 _ _ | exact hIa _ _ | exact hIb _ _ | exact g_b32 | exact g_and32 | assumption | exact ⟨by omega, by omega⟩) (by first | exact hI _ _ | exact hxI2 _ _ | exact hIa _ _ | exact hIb _ _ | exact g_b32 | exact g_and32 | assumption | exact ⟨by omega, by omega⟩) (fun c1 => ?_) (fun c1 => ?_)
  · skip
    refine g_iconst hc dX2_hasFact_23 ?_
    refine g_zret hc hm (by first | exact g_b01 | omega) dX2_hasFact_24 ?_
    first | (exfalso; omega) | exact g_postE (g_b1 ⟨by omega, by assumption⟩) | exact g_postE (g_b0 (fun z => by first | (exfalso; omega) | exact absurd z.2 (by assumption) | (have := z.1; omega)))
  · skip
    refine g_aldn hc dX2_hasFact_6 rfl ?_
    refine g_iload_n hc dX2_hasFact_7 rfl ?_
    refine g_V1r hc (c_X2_factsOf w hR hlb hI hsI2 hxI2 hC (by omega)) my_X2_factsOf mv_X2_factsOf ca_697 rfl rfl lm_X2_41 rfl (by decide) (Nat.le_of_ble_eq_true rfl) hm dX2_hasFact_8 ?_
    refine g_iload_n hc dX2_hasFact_11 rfl ?_
    refine g_ishr hc dX2_hasFact_12 ?_
    refine g_iconst hc dX2_hasFact_13 ?_
    refine g_iand hc dX2_hasFact_14 ?_
    refine g_iconst hc dX2_hasFact_15 ?_
    refine g_icmp_ne (tgt := 23) hc dX2_hasFact_16 (by decide) (by first | exact hI _ _ | exact hxI2 _ _ | exact hIa _ _ | exact hIb _ _ | exact g_b32 | exact g_and32 | assumption | exact ⟨by omega, by omega⟩) (by first | exact hI _ _ | exact hxI2 _ _ | exact hIa _ _ | exact hIb _ _ | exact g_b32 | exact g_and32 | assumption | exact ⟨by omega, by omega⟩) (fun c2 => ?_) (fun c2 => ?_)
    · skip
      refine g_iconst hc dX2_hasFact_23 ?_
      refine g_zret hc hm (by first | exact g_b01 | omega) dX2_hasFact_24 ?_
      first | (exfalso; omega) | exact g_postE (g_b1 ⟨by omega, by assumption⟩) | exact g_postE (g_b0 (fun z => by first | (exfalso; omega) | exact absurd z.2 (by assumption) | (have := z.1; omega)))
    · skip
      refine g_iconst hc dX2_hasFact_19 ?_
      refine g_goto (tgt := 24) hc dX2_hasFact_20 (by decide) ?_
      refine g_zret hc hm (by first | exact g_b01 | omega) dX2_hasFact_24 ?_
      first | (exfalso; omega) | exact g_postE (g_b1 ⟨by omega, by assumption⟩) | exact g_postE (g_b0 (fun z => by first | (exfalso; omega) | exact absurd z.2 (by assumption) | (have := z.1; omega)))
set_option maxHeartbeats 4000000 in
set_option maxRecDepth 100000 in
/-- X2_holds -/
theorem c_X2_holds (w : g_W) {I : g_I} {J : g_J} {R : g_R} {lb tx : Nat} (hR : g_rf w R lb tx) (hlb : g_life lb) {I2 : g_I} (hI : ∀ k j, g32 (I k j)) (hsI2 : g_off I I2) (hxI2 : ∀ k j, g32 (I2 k j)) (hC : g_cin I lb) {c s : Int} (hK : g_cok I) (h1 : 0 ≤ s ∧ s < I lb 0) (h2 : 0 ≤ c ∧ c < I 697 4) : g_Met w g_n I2 J R yX2_holds cX2_holds 5 (some .boolean) 2 0 0 [(gvr w 697), (gvI c), (gvI s)] (g_post (some (gvI (g_b (g_hlb I lb c s = true)))) g_n I2 J R) := by
  refine g_intro (own := RX2) [some (gvr w 697), some (gvI c), some (gvI s), none, none] (by decide +kernel) rfl (by decide) (Nat.le_of_ble_eq_true rfl) rfl (fun i v hv => g_args 2 i v hv rfl) (fun x hc hm => ?_)
  have hL := hC.1
  obtain ⟨hn0, hn1, hLs, hLf⟩ := id hL
  obtain ⟨-, hC1, hC2, hC3, hC4, hC5, hC6, hC7⟩ := id hC
  have hlb5 := hlb
  unfold g_life at hlb5
  have hdI2 : ∀ k : Nat, ¬ g_sV k → I2 k = I2 k := fun _ _ => rfl
  obtain ⟨hK1, hK2⟩ := hK
  obtain ⟨hkd, hku, hkv⟩ := hK2 c h2.1 h2.2
  obtain ⟨hst, hway⟩ := g_lok_s hL h1
  obtain ⟨-, -, hr0, hr1, hr2, hr3, hr4, hr5, -⟩ := hLs s h1.1 h1.2
  refine g_aldn hc dX2_holds_0 rfl ?_
  refine g_getRk hc lk_X2_21 ca_697 (rc_697_0 hR) dX2_holds_1 ?_
  refine g_getRvk hc lk_X2_25 ca_548 (rc_548_3 hR) dX2_holds_4 ?_
  refine g_astore_3 hc dX2_holds_7 rfl ?_
  refine g_aldn hc dX2_holds_8 rfl ?_
  refine g_getRk hc lk_X2_15 ca_697 (rc_697_2 hR) dX2_holds_9 ?_
  refine g_iload_n hc dX2_holds_12 rfl ?_
  refine g_ialde hc ca_699 (by decide) (by omega) (by omega) (congrFun (hsI2 _ (by decide)) _) dX2_holds_13 ?_
  refine g_istore_4 hc dX2_holds_14 rfl ?_
  refine g_aldn hc dX2_holds_16 rfl ?_
  refine g_getRk hc lk_X2_9 ca_697 (rc_697_1 hR) dX2_holds_17 ?_
  refine g_iload_n hc dX2_holds_20 rfl ?_
  refine g_ialde hc ca_698 (by decide) (by omega) (by omega) (congrFun (hsI2 _ (by decide)) _) dX2_holds_21 ?_
  rcases (show I 698 c < 0 ∨ 4 < I 698 c ∨ I 698 c = 0 ∨ I 698 c = 1 ∨ I 698 c = 2 ∨ I 698 c = 3 ∨ I 698 c = 4 by omega) with hsw | hsw | hsw | hsw | hsw | hsw | hsw
  · skip
    refine g_tableOut (tgt := 135) hc dX2_holds_22 (by first | exact hI _ _ | exact hxI2 _ _ | exact hIa _ _ | exact hIb _ _ | exact g_b32 | exact g_and32 | assumption | exact ⟨by omega, by omega⟩) (by omega) (by decide) ?_
    refine g_iload hc dX2_holds_135 rfl ?_
    refine g_iload_n hc dX2_holds_137 rfl ?_
    refine g_icmp_eq (tgt := 170) hc dX2_holds_138 (by decide) (by first | exact hI _ _ | exact hxI2 _ _ | exact hIa _ _ | exact hIb _ _ | exact g_b32 | exact g_and32 | assumption | exact ⟨by omega, by omega⟩) (by first | exact hI _ _ | exact hxI2 _ _ | exact hIa _ _ | exact hIb _ _ | exact g_b32 | exact g_and32 | assumption | exact ⟨by omega, by omega⟩) (fun c1 => ?_) (fun c1 => ?_)
    · skip
      refine g_iconst hc dX2_holds_170 ?_
      refine g_zret hc hm (by first | exact g_b01 | omega) dX2_holds_171 ?_
      first | (exfalso; omega) | exact g_postE (g_b1 (by rw [g_hlb_iff]; unfold g_hld; rw [if_neg (by omega)]; rw [if_neg (by omega)]; rw [if_neg (by omega)]; rw [if_neg (by omega)]; rw [if_neg (by omega)]; exact ⟨by assumption, hlf.2, by assumption⟩)) | exact g_postE (g_b0 (by rw [g_hlb_iff]; unfold g_hld; rw [if_neg (by omega)]; rw [if_neg (by omega)]; rw [if_neg (by omega)]; rw [if_neg (by omega)]; rw [if_neg (by omega)]; exact fun z => by first | (exfalso; omega) | exact absurd (by assumption) z.1 | exact absurd z.2.2 (by assumption) | (have := z.2.1; omega)))
    · skip
      refine g_aldn hc dX2_holds_141 rfl ?_
      refine g_iload hc dX2_holds_142 rfl ?_
      refine g_V1r hc (c_X4_hasLeaf w hR hxI2 hlb (by first | exact hI _ _ | exact hxI2 _ _ | exact hIa _ _ | exact hIb _ _ | exact g_b32 | exact g_and32 | assumption | exact ⟨by omega, by omega⟩)) my_X4_hasLeaf mv_X4_hasLeaf (la_0 hlb) rfl rfl lm_X2_79 rfl (by decide) (Nat.le_of_ble_eq_true rfl) hm dX2_holds_144 ?_
      rw [show I2 lb 0 = I lb 0 from by rw [hsI2 _ (g_nl hlb (by omega) (by omega))]]
      refine g_ifb_eq (tgt := 170) hc dX2_holds_147 (by decide)  (fun c2 => ?_) (fun c2 => ?_)
      · skip
        refine g_iconst hc dX2_holds_170 ?_
        refine g_zret hc hm (by first | exact g_b01 | omega) dX2_holds_171 ?_
        first | (exfalso; omega) | exact g_postE (g_b1 (by rw [g_hlb_iff]; unfold g_hld; rw [if_neg (by omega)]; rw [if_neg (by omega)]; rw [if_neg (by omega)]; rw [if_neg (by omega)]; rw [if_neg (by omega)]; exact ⟨by assumption, hlf.2, by assumption⟩)) | exact g_postE (g_b0 (by rw [g_hlb_iff]; unfold g_hld; rw [if_neg (by omega)]; rw [if_neg (by omega)]; rw [if_neg (by omega)]; rw [if_neg (by omega)]; rw [if_neg (by omega)]; exact fun z => by first | (exfalso; omega) | exact absurd (by assumption) z.1 | exact absurd z.2.2 (by assumption) | (have := z.2.1; omega)))
      · skip
        have hlf := c2
        obtain ⟨hst2, hway2⟩ := g_lok_s hL hlf
        refine g_aldn hc dX2_holds_150 rfl ?_
        refine g_iload_n hc dX2_holds_151 rfl ?_
        refine g_iload hc dX2_holds_152 rfl ?_
        refine g_V2r hc (c_X4_parting w hR hxI2 hlb (by omega) (by omega) (by first | omega | (rw [hsI2 _ (g_nl hlb (by omega) (by omega))]; omega)) (by first | omega | (rw [hsI2 _ (g_nl hlb (by omega) (by omega))]; omega))) my_X4_parting mv_X4_parting (la_0 hlb) rfl rfl lm_X2_82 rfl (by decide) (Nat.le_of_ble_eq_true rfl) hm dX2_holds_154 ?_
        rw [show g_prt I2 lb s (I 699 c) = g_prt I lb s (I 699 c) from g_prt_cg hsI2 hlb (by omega) (by omega)]
        refine g_aldn hc dX2_holds_157 rfl ?_
        refine g_getRk hc lk_X2_18 ca_697 (rc_697_3 hR) dX2_holds_158 ?_
        refine g_iload_n hc dX2_holds_161 rfl ?_
        refine g_ialde hc ca_700 (by decide) (by omega) (by omega) (congrFun (hsI2 _ (by decide)) _) dX2_holds_162 ?_
        refine g_icmp_ne (tgt := 170) hc dX2_holds_163 (by decide) (by exact g_prt32 hL h1 hlf) (by exact ⟨by omega, by omega⟩) (fun c3 => ?_) (fun c3 => ?_)
        · skip
          refine g_iconst hc dX2_holds_170 ?_
          refine g_zret hc hm (by first | exact g_b01 | omega) dX2_holds_171 ?_
          first | (exfalso; omega) | exact g_postE (g_b1 (by rw [g_hlb_iff]; unfold g_hld; rw [if_neg (by omega)]; rw [if_neg (by omega)]; rw [if_neg (by omega)]; rw [if_neg (by omega)]; rw [if_neg (by omega)]; exact ⟨by assumption, hlf.2, by assumption⟩)) | exact g_postE (g_b0 (by rw [g_hlb_iff]; unfold g_hld; rw [if_neg (by omega)]; rw [if_neg (by omega)]; rw [if_neg (by omega)]; rw [if_neg (by omega)]; rw [if_neg (by omega)]; exact fun z => by first | (exfalso; omega) | exact absurd (by assumption) z.1 | exact absurd z.2.2 (by assumption) | (have := z.2.1; omega)))
        · skip
          refine g_iconst hc dX2_holds_166 ?_
          refine g_goto (tgt := 171) hc dX2_holds_167 (by decide) ?_
          refine g_zret hc hm (by first | exact g_b01 | omega) dX2_holds_171 ?_
          first | (exfalso; omega) | exact g_postE (g_b1 (by rw [g_hlb_iff]; unfold g_hld; rw [if_neg (by omega)]; rw [if_neg (by omega)]; rw [if_neg (by omega)]; rw [if_neg (by omega)]; rw [if_neg (by omega)]; exact ⟨by assumption, hlf.2, by assumption⟩)) | exact g_postE (g_b0 (by rw [g_hlb_iff]; unfold g_hld; rw [if_neg (by omega)]; rw [if_neg (by omega)]; rw [if_neg (by omega)]; rw [if_neg (by omega)]; rw [if_neg (by omega)]; exact fun z => by first | (exfalso; omega) | exact absurd (by assumption) z.1 | exact absurd z.2.2 (by assumption) | (have := z.2.1; omega)))
  · skip
    refine g_tableOut (tgt := 135) hc dX2_holds_22 (by first | exact hI _ _ | exact hxI2 _ _ | exact hIa _ _ | exact hIb _ _ | exact g_b32 | exact g_and32 | assumption | exact ⟨by omega, by omega⟩) (by omega) (by decide) ?_
    refine g_iload hc dX2_holds_135 rfl ?_
    refine g_iload_n hc dX2_holds_137 rfl ?_
    refine g_icmp_eq (tgt := 170) hc dX2_holds_138 (by decide) (by first | exact hI _ _ | exact hxI2 _ _ | exact hIa _ _ | exact hIb _ _ | exact g_b32 | exact g_and32 | assumption | exact ⟨by omega, by omega⟩) (by first | exact hI _ _ | exact hxI2 _ _ | exact hIa _ _ | exact hIb _ _ | exact g_b32 | exact g_and32 | assumption | exact ⟨by omega, by omega⟩) (fun c4 => ?_) (fun c4 => ?_)
    · skip
      refine g_iconst hc dX2_holds_170 ?_
      refine g_zret hc hm (by first | exact g_b01 | omega) dX2_holds_171 ?_
      first | (exfalso; omega) | exact g_postE (g_b1 (by rw [g_hlb_iff]; unfold g_hld; rw [if_neg (by omega)]; rw [if_neg (by omega)]; rw [if_neg (by omega)]; rw [if_neg (by omega)]; rw [if_neg (by omega)]; exact ⟨by assumption, hlf.2, by assumption⟩)) | exact g_postE (g_b0 (by rw [g_hlb_iff]; unfold g_hld; rw [if_neg (by omega)]; rw [if_neg (by omega)]; rw [if_neg (by omega)]; rw [if_neg (by omega)]; rw [if_neg (by omega)]; exact fun z => by first | (exfalso; omega) | exact absurd (by assumption) z.1 | exact absurd z.2.2 (by assumption) | (have := z.2.1; omega)))
    · skip
      refine g_aldn hc dX2_holds_141 rfl ?_
      refine g_iload hc dX2_holds_142 rfl ?_
      refine g_V1r hc (c_X4_hasLeaf w hR hxI2 hlb (by first | exact hI _ _ | exact hxI2 _ _ | exact hIa _ _ | exact hIb _ _ | exact g_b32 | exact g_and32 | assumption | exact ⟨by omega, by omega⟩)) my_X4_hasLeaf mv_X4_hasLeaf (la_0 hlb) rfl rfl lm_X2_79 rfl (by decide) (Nat.le_of_ble_eq_true rfl) hm dX2_holds_144 ?_
      rw [show I2 lb 0 = I lb 0 from by rw [hsI2 _ (g_nl hlb (by omega) (by omega))]]
      refine g_ifb_eq (tgt := 170) hc dX2_holds_147 (by decide)  (fun c5 => ?_) (fun c5 => ?_)
      · skip
        refine g_iconst hc dX2_holds_170 ?_
        refine g_zret hc hm (by first | exact g_b01 | omega) dX2_holds_171 ?_
        first | (exfalso; omega) | exact g_postE (g_b1 (by rw [g_hlb_iff]; unfold g_hld; rw [if_neg (by omega)]; rw [if_neg (by omega)]; rw [if_neg (by omega)]; rw [if_neg (by omega)]; rw [if_neg (by omega)]; exact ⟨by assumption, hlf.2, by assumption⟩)) | exact g_postE (g_b0 (by rw [g_hlb_iff]; unfold g_hld; rw [if_neg (by omega)]; rw [if_neg (by omega)]; rw [if_neg (by omega)]; rw [if_neg (by omega)]; rw [if_neg (by omega)]; exact fun z => by first | (exfalso; omega) | exact absurd (by assumption) z.1 | exact absurd z.2.2 (by assumption) | (have := z.2.1; omega)))
      · skip
        have hlf := c5
        obtain ⟨hst2, hway2⟩ := g_lok_s hL hlf
        refine g_aldn hc dX2_holds_150 rfl ?_
        refine g_iload_n hc dX2_holds_151 rfl ?_
        refine g_iload hc dX2_holds_152 rfl ?_
        refine g_V2r hc (c_X4_parting w hR hxI2 hlb (by omega) (by omega) (by first | omega | (rw [hsI2 _ (g_nl hlb (by omega) (by omega))]; omega)) (by first | omega | (rw [hsI2 _ (g_nl hlb (by omega) (by omega))]; omega))) my_X4_parting mv_X4_parting (la_0 hlb) rfl rfl lm_X2_82 rfl (by decide) (Nat.le_of_ble_eq_true rfl) hm dX2_holds_154 ?_
        rw [show g_prt I2 lb s (I 699 c) = g_prt I lb s (I 699 c) from g_prt_cg hsI2 hlb (by omega) (by omega)]
        refine g_aldn hc dX2_holds_157 rfl ?_
        refine g_getRk hc lk_X2_18 ca_697 (rc_697_3 hR) dX2_holds_158 ?_
        refine g_iload_n hc dX2_holds_161 rfl ?_
        refine g_ialde hc ca_700 (by decide) (by omega) (by omega) (congrFun (hsI2 _ (by decide)) _) dX2_holds_162 ?_
        refine g_icmp_ne (tgt := 170) hc dX2_holds_163 (by decide) (by exact g_prt32 hL h1 hlf) (by exact ⟨by omega, by omega⟩) (fun c6 => ?_) (fun c6 => ?_)
        · skip
          refine g_iconst hc dX2_holds_170 ?_
          refine g_zret hc hm (by first | exact g_b01 | omega) dX2_holds_171 ?_
          first | (exfalso; omega) | exact g_postE (g_b1 (by rw [g_hlb_iff]; unfold g_hld; rw [if_neg (by omega)]; rw [if_neg (by omega)]; rw [if_neg (by omega)]; rw [if_neg (by omega)]; rw [if_neg (by omega)]; exact ⟨by assumption, hlf.2, by assumption⟩)) | exact g_postE (g_b0 (by rw [g_hlb_iff]; unfold g_hld; rw [if_neg (by omega)]; rw [if_neg (by omega)]; rw [if_neg (by omega)]; rw [if_neg (by omega)]; rw [if_neg (by omega)]; exact fun z => by first | (exfalso; omega) | exact absurd (by assumption) z.1 | exact absurd z.2.2 (by assumption) | (have := z.2.1; omega)))
        · skip
          refine g_iconst hc dX2_holds_166 ?_
          refine g_goto (tgt := 171) hc dX2_holds_167 (by decide) ?_
          refine g_zret hc hm (by first | exact g_b01 | omega) dX2_holds_171 ?_
          first | (exfalso; omega) | exact g_postE (g_b1 (by rw [g_hlb_iff]; unfold g_hld; rw [if_neg (by omega)]; rw [if_neg (by omega)]; rw [if_neg (by omega)]; rw [if_neg (by omega)]; rw [if_neg (by omega)]; exact ⟨by assumption, hlf.2, by assumption⟩)) | exact g_postE (g_b0 (by rw [g_hlb_iff]; unfold g_hld; rw [if_neg (by omega)]; rw [if_neg (by omega)]; rw [if_neg (by omega)]; rw [if_neg (by omega)]; rw [if_neg (by omega)]; exact fun z => by first | (exfalso; omega) | exact absurd (by assumption) z.1 | exact absurd z.2.2 (by assumption) | (have := z.2.1; omega)))
  · skip
    refine g_tableIn (tgt := 56) (off := 34) hc dX2_holds_22 (by first | exact hI _ _ | exact hxI2 _ _ | exact hIa _ _ | exact hIb _ _ | exact g_b32 | exact g_and32 | assumption | exact ⟨by omega, by omega⟩) (by omega) (by omega) (by rw [hsw]; rfl) (by decide) ?_
    refine g_aldn hc dX2_holds_56 rfl ?_
    refine g_iload_n hc dX2_holds_57 rfl ?_
    refine g_iload hc dX2_holds_58 rfl ?_
    refine g_V2r hc (c_X2_hasFact w hR hlb hI hsI2 hxI2 hC (by omega) (by first | exact hI _ _ | exact hxI2 _ _ | exact hIa _ _ | exact hIb _ _ | exact g_b32 | exact g_and32 | assumption | exact ⟨by omega, by omega⟩)) my_X2_hasFact mv_X2_hasFact ca_697 rfl rfl lm_X2_72 rfl (by decide) (Nat.le_of_ble_eq_true rfl) hm dX2_holds_60 ?_
    refine g_zret hc hm (by first | exact g_b01 | omega) dX2_holds_63 ?_
    exact g_postE (g_bcg (by rw [g_hlb_iff]; unfold g_hld; rw [if_pos (by omega)]))
  · skip
    refine g_tableIn (tgt := 64) (off := 42) hc dX2_holds_22 (by first | exact hI _ _ | exact hxI2 _ _ | exact hIa _ _ | exact hIb _ _ | exact g_b32 | exact g_and32 | assumption | exact ⟨by omega, by omega⟩) (by omega) (by omega) (by rw [hsw]; rfl) (by decide) ?_
    refine g_aldn hc dX2_holds_64 rfl ?_
    refine g_iload_n hc dX2_holds_65 rfl ?_
    refine g_iload hc dX2_holds_66 rfl ?_
    refine g_V2r hc (c_X2_hasFact w hR hlb hI hsI2 hxI2 hC (by omega) (by first | exact hI _ _ | exact hxI2 _ _ | exact hIa _ _ | exact hIb _ _ | exact g_b32 | exact g_and32 | assumption | exact ⟨by omega, by omega⟩)) my_X2_hasFact mv_X2_hasFact ca_697 rfl rfl lm_X2_72 rfl (by decide) (Nat.le_of_ble_eq_true rfl) hm dX2_holds_68 ?_
    refine g_ifb_ne (tgt := 78) hc dX2_holds_71 (by decide)  (fun c7 => ?_) (fun c7 => ?_)
    · skip
      refine g_iconst hc dX2_holds_78 ?_
      refine g_zret hc hm (by first | exact g_b01 | omega) dX2_holds_79 ?_
      first | (exfalso; omega) | exact g_postE (g_b1 (by rw [g_hlb_iff]; unfold g_hld; rw [if_neg (by omega)]; rw [if_pos (by omega)]; assumption)) | exact g_postE (g_b0 (by rw [g_hlb_iff]; unfold g_hld; rw [if_neg (by omega)]; rw [if_pos (by omega)]; exact fun z => z (by assumption)))
    · skip
      refine g_iconst hc dX2_holds_74 ?_
      refine g_goto (tgt := 79) hc dX2_holds_75 (by decide) ?_
      refine g_zret hc hm (by first | exact g_b01 | omega) dX2_holds_79 ?_
      first | (exfalso; omega) | exact g_postE (g_b1 (by rw [g_hlb_iff]; unfold g_hld; rw [if_neg (by omega)]; rw [if_pos (by omega)]; assumption)) | exact g_postE (g_b0 (by rw [g_hlb_iff]; unfold g_hld; rw [if_neg (by omega)]; rw [if_pos (by omega)]; exact fun z => z (by assumption)))
  · skip
    refine g_tableIn (tgt := 80) (off := 58) hc dX2_holds_22 (by first | exact hI _ _ | exact hxI2 _ _ | exact hIa _ _ | exact hIb _ _ | exact g_b32 | exact g_and32 | assumption | exact ⟨by omega, by omega⟩) (by omega) (by omega) (by rw [hsw]; rfl) (by decide) ?_
    refine g_aldn hc dX2_holds_80 rfl ?_
    refine g_iload_n hc dX2_holds_81 rfl ?_
    refine g_iload hc dX2_holds_82 rfl ?_
    refine g_V2r hc (c_X4_stepAt w hR hxI2 hlb (by omega) (by first | omega | (rw [hsI2 _ (g_nl hlb (by omega) (by omega))]; omega)) (by first | exact hI _ _ | exact hxI2 _ _ | exact hIa _ _ | exact hIb _ _ | exact g_b32 | exact g_and32 | assumption | exact ⟨by omega, by omega⟩)) my_X4_stepAt mv_X4_stepAt (la_0 hlb) rfl rfl lm_X2_75 rfl (by decide) (Nat.le_of_ble_eq_true rfl) hm dX2_holds_84 ?_
    rw [show g_stp I2 lb s (I 699 c) = g_stp I lb s (I 699 c) from g_stp_cg hsI2 hlb (by omega)]
    refine g_iconst hc dX2_holds_87 ?_
    refine g_icmp_eq (tgt := 95) hc dX2_holds_88 (by decide) (by have := g_first_in (p := fun i => I (lb + 16 + s.toNat) i == I 699 c) (I (lb + 14) s).toNat 0 (by omega); change g_stp I lb s (I 699 c) = -1 ∨ (0 ≤ g_stp I lb s (I 699 c) ∧ g_stp I lb s (I 699 c) < 0 + _ ∧ _) at this; exact ⟨by omega, by omega⟩) (by exact ⟨by decide, by decide⟩) (fun c8 => ?_) (fun c8 => ?_)
    · skip
      refine g_iconst hc dX2_holds_95 ?_
      refine g_zret hc hm (by first | exact g_b01 | omega) dX2_holds_96 ?_
      first | (exfalso; omega) | exact g_postE (g_b1 (by rw [g_hlb_iff]; unfold g_hld; rw [if_neg (by omega)]; rw [if_neg (by omega)]; rw [if_pos (by omega)]; assumption)) | exact g_postE (g_b0 (by rw [g_hlb_iff]; unfold g_hld; rw [if_neg (by omega)]; rw [if_neg (by omega)]; rw [if_pos (by omega)]; exact fun z => z (by assumption)))
    · skip
      refine g_iconst hc dX2_holds_91 ?_
      refine g_goto (tgt := 96) hc dX2_holds_92 (by decide) ?_
      refine g_zret hc hm (by first | exact g_b01 | omega) dX2_holds_96 ?_
      first | (exfalso; omega) | exact g_postE (g_b1 (by rw [g_hlb_iff]; unfold g_hld; rw [if_neg (by omega)]; rw [if_neg (by omega)]; rw [if_pos (by omega)]; assumption)) | exact g_postE (g_b0 (by rw [g_hlb_iff]; unfold g_hld; rw [if_neg (by omega)]; rw [if_neg (by omega)]; rw [if_pos (by omega)]; exact fun z => z (by assumption)))
  · skip
    refine g_tableIn (tgt := 97) (off := 75) hc dX2_holds_22 (by first | exact hI _ _ | exact hxI2 _ _ | exact hIa _ _ | exact hIb _ _ | exact g_b32 | exact g_and32 | assumption | exact ⟨by omega, by omega⟩) (by omega) (by omega) (by rw [hsw]; rfl) (by decide) ?_
    refine g_aldn hc dX2_holds_97 rfl ?_
    refine g_getRk hc lk_X2_31 (la_0 hlb) (rl_2 hR hlb) dX2_holds_98 ?_
    refine g_iload_n hc dX2_holds_101 rfl ?_
    refine g_aaldk hc (la_1 hlb) (by decide) rfl rfl (by decide) (by omega) (by omega) (rl_has hR hlb (by omega) (by omega)) dX2_holds_102 ?_
    refine g_iconst hc dX2_holds_103 ?_
    refine g_ialde hc (la_has hlb (by omega) (by omega)) (by decide) (by omega) (by omega) (congrFun (hsI2 _ (by omega)) _) dX2_holds_104 ?_
    refine g_iload hc dX2_holds_105 rfl ?_
    refine g_icmp_lt (tgt := 114) hc dX2_holds_107 (by decide) (by first | exact hI _ _ | exact hxI2 _ _ | exact hIa _ _ | exact hIb _ _ | exact g_b32 | exact g_and32 | assumption | exact ⟨by omega, by omega⟩) (by first | exact hI _ _ | exact hxI2 _ _ | exact hIa _ _ | exact hIb _ _ | exact g_b32 | exact g_and32 | assumption | exact ⟨by omega, by omega⟩) (fun c9 => ?_) (fun c9 => ?_)
    · skip
      refine g_iconst hc dX2_holds_114 ?_
      refine g_zret hc hm (by first | exact g_b01 | omega) dX2_holds_115 ?_
      first | (exfalso; omega) | exact g_postE (g_b1 (by rw [g_hlb_iff]; unfold g_hld; rw [if_neg (by omega)]; rw [if_neg (by omega)]; rw [if_neg (by omega)]; rw [if_pos (by omega)]; omega)) | exact g_postE (g_b0 (by rw [g_hlb_iff]; unfold g_hld; rw [if_neg (by omega)]; rw [if_neg (by omega)]; rw [if_neg (by omega)]; rw [if_pos (by omega)]; omega))
    · skip
      refine g_iconst hc dX2_holds_110 ?_
      refine g_goto (tgt := 115) hc dX2_holds_111 (by decide) ?_
      refine g_zret hc hm (by first | exact g_b01 | omega) dX2_holds_115 ?_
      first | (exfalso; omega) | exact g_postE (g_b1 (by rw [g_hlb_iff]; unfold g_hld; rw [if_neg (by omega)]; rw [if_neg (by omega)]; rw [if_neg (by omega)]; rw [if_pos (by omega)]; omega)) | exact g_postE (g_b0 (by rw [g_hlb_iff]; unfold g_hld; rw [if_neg (by omega)]; rw [if_neg (by omega)]; rw [if_neg (by omega)]; rw [if_pos (by omega)]; omega))
  · skip
    refine g_tableIn (tgt := 116) (off := 94) hc dX2_holds_22 (by first | exact hI _ _ | exact hxI2 _ _ | exact hIa _ _ | exact hIb _ _ | exact g_b32 | exact g_and32 | assumption | exact ⟨by omega, by omega⟩) (by omega) (by omega) (by rw [hsw]; rfl) (by decide) ?_
    refine g_aldn hc dX2_holds_116 rfl ?_
    refine g_getRk hc lk_X2_31 (la_0 hlb) (rl_2 hR hlb) dX2_holds_117 ?_
    refine g_iload_n hc dX2_holds_120 rfl ?_
    refine g_aaldk hc (la_1 hlb) (by decide) rfl rfl (by decide) (by omega) (by omega) (rl_has hR hlb (by omega) (by omega)) dX2_holds_121 ?_
    refine g_iconst hc dX2_holds_122 ?_
    refine g_ialde hc (la_has hlb (by omega) (by omega)) (by decide) (by omega) (by omega) (congrFun (hsI2 _ (by omega)) _) dX2_holds_123 ?_
    refine g_iload hc dX2_holds_124 rfl ?_
    refine g_icmp_lt (tgt := 133) hc dX2_holds_126 (by decide) (by first | exact hI _ _ | exact hxI2 _ _ | exact hIa _ _ | exact hIb _ _ | exact g_b32 | exact g_and32 | assumption | exact ⟨by omega, by omega⟩) (by first | exact hI _ _ | exact hxI2 _ _ | exact hIa _ _ | exact hIb _ _ | exact g_b32 | exact g_and32 | assumption | exact ⟨by omega, by omega⟩) (fun c10 => ?_) (fun c10 => ?_)
    · skip
      refine g_iconst hc dX2_holds_133 ?_
      refine g_zret hc hm (by first | exact g_b01 | omega) dX2_holds_134 ?_
      first | (exfalso; omega) | exact g_postE (g_b1 (by rw [g_hlb_iff]; unfold g_hld; rw [if_neg (by omega)]; rw [if_neg (by omega)]; rw [if_neg (by omega)]; rw [if_neg (by omega)]; rw [if_pos (by omega)]; omega)) | exact g_postE (g_b0 (by rw [g_hlb_iff]; unfold g_hld; rw [if_neg (by omega)]; rw [if_neg (by omega)]; rw [if_neg (by omega)]; rw [if_neg (by omega)]; rw [if_pos (by omega)]; omega))
    · skip
      refine g_iconst hc dX2_holds_129 ?_
      refine g_goto (tgt := 134) hc dX2_holds_130 (by decide) ?_
      refine g_zret hc hm (by first | exact g_b01 | omega) dX2_holds_134 ?_
      first | (exfalso; omega) | exact g_postE (g_b1 (by rw [g_hlb_iff]; unfold g_hld; rw [if_neg (by omega)]; rw [if_neg (by omega)]; rw [if_neg (by omega)]; rw [if_neg (by omega)]; rw [if_pos (by omega)]; omega)) | exact g_postE (g_b0 (by rw [g_hlb_iff]; unfold g_hld; rw [if_neg (by omega)]; rw [if_neg (by omega)]; rw [if_neg (by omega)]; rw [if_neg (by omega)]; rw [if_pos (by omega)]; omega))
set_option maxHeartbeats 4000000 in
set_option maxRecDepth 100000 in
/-- X2_canBe -/
theorem c_X2_canBe (w : g_W) {I : g_I} {J : g_J} {R : g_R} {lb tx : Nat} (hR : g_rf w R lb tx) (hlb : g_life lb) {I2 : g_I} (hI : ∀ k j, g32 (I k j)) (hsI2 : g_off I I2) (hxI2 : ∀ k j, g32 (I2 k j)) (hC : g_cin I lb) {s : Int} (hK : g_cok I) (h1 : 0 ≤ s ∧ s < I lb 0) : g_Met w g_n I2 J R yX2_canBe cX2_canBe 3 (some .boolean) 3 0 0 [(gvr w 697), (gvI s)] (g_post (some (gvI (g_b (g_cbe I lb s = true)))) g_n I2 J R) := by
  refine g_intro (own := RX2) [some (gvr w 697), some (gvI s), none] (by decide +kernel) rfl (by decide) (Nat.le_of_ble_eq_true rfl) rfl (fun i v hv => g_args 1 i v hv rfl) (fun x hc hm => ?_)
  have hL := hC.1
  obtain ⟨hn0, hn1, hLs, hLf⟩ := id hL
  obtain ⟨-, hC1, hC2, hC3, hC4, hC5, hC6, hC7⟩ := id hC
  have hlb5 := hlb
  unfold g_life at hlb5
  have hdI2 : ∀ k : Nat, ¬ g_sV k → I2 k = I2 k := fun _ _ => rfl
  obtain ⟨hK1, hK2⟩ := id hK
  refine g_iconst hc dX2_canBe_0 ?_
  refine g_istore_2 hc dX2_canBe_1 rfl ?_
  have lp_2 : ∀ (fu : Nat) (i : Int), 0 ≤ i ∧ i ≤ I 697 4 → g_cbe I lb s = g_all (fun c => g_hlb I lb c s) (I 697 4 - i).toNat i → I 697 4 - i < (fu : Int) → G w x (g_post (some (gvI (g_b (g_cbe I lb s = true)))) g_n I2 J R) 0 0 g_n I2 J R 2 [some (gvr w 697), some (gvI s), some (gvI i)] [] := by
    intro fu
    induction fu with
    | zero => intro i h3 h4 hfu; exfalso; omega
    | succ fu ih =>
      intro i h3 h4 hfu
      have ih_2 := ih
      refine g_iload_n hc dX2_canBe_2 rfl ?_
      refine g_aldn hc dX2_canBe_3 rfl ?_
      refine g_getIe hc lk_X2_69 ca_697 4 rfl (congrFun (hsI2 _ (by decide)) _) dX2_canBe_4 ?_
      refine g_icmp_ge (tgt := 27) hc dX2_canBe_7 (by decide) (by first | exact hI _ _ | exact hxI2 _ _ | exact hIa _ _ | exact hIb _ _ | exact g_b32 | exact g_and32 | assumption | exact ⟨by omega, by omega⟩) (by first | exact hI _ _ | exact hxI2 _ _ | exact hIa _ _ | exact hIb _ _ | exact g_b32 | exact g_and32 | assumption | exact ⟨by omega, by omega⟩) (fun c1 => ?_) (fun c1 => ?_)
      · skip
        refine g_iconst hc dX2_canBe_27 ?_
        refine g_zret hc hm (by first | exact g_b01 | omega) dX2_canBe_28 ?_
        first | (exfalso; omega) | exact g_postE (g_b0 (by rw [h4, g_all_f (by omega) (fun z => absurd z (by assumption))]; decide)) | exact g_postE (g_b1 (by rw [h4, g_all_e (by omega)]))
      · skip
        refine g_aldn hc dX2_canBe_10 rfl ?_
        refine g_iload_n hc dX2_canBe_11 rfl ?_
        refine g_iload_n hc dX2_canBe_12 rfl ?_
        refine g_V2r hc (c_X2_holds w hR hlb hI hsI2 hxI2 hC hK (by omega) (by omega)) my_X2_holds mv_X2_holds ca_697 rfl rfl lm_X2_85 rfl (by decide) (Nat.le_of_ble_eq_true rfl) hm dX2_canBe_13 ?_
        refine g_ifb_ne (tgt := 21) hc dX2_canBe_16 (by decide)  (fun c2 => ?_) (fun c2 => ?_)
        · skip
          refine g_iinc_2 hc dX2_canBe_21 rfl ?_
          refine g_goto (tgt := 2) hc dX2_canBe_24 (by decide) ?_
          refine ih_2 _ ?_ ?_ ?_
          · omega
          · rw [h4, g_all_t (by omega) (by assumption)]
          · omega
        · skip
          refine g_iconst hc dX2_canBe_19 ?_
          refine g_zret hc hm (by first | exact g_b01 | omega) dX2_canBe_20 ?_
          first | (exfalso; omega) | exact g_postE (g_b0 (by rw [h4, g_all_f (by omega) (fun z => absurd z (by assumption))]; decide)) | exact g_postE (g_b1 (by rw [h4, g_all_e (by omega)]))
  refine lp_2 (I 697 4 + 1).toNat _ ?_ ?_ (?_)
  · omega
  · rw [Int.sub_zero]; rfl
  · omega
set_option maxHeartbeats 4000000 in
set_option maxRecDepth 100000 in
/-- X2_possible -/
theorem c_X2_possible (w : g_W) {I : g_I} {J : g_J} {R : g_R} {lb tx : Nat} (hR : g_rf w R lb tx) (hlb : g_life lb) {I2 : g_I} (hI : ∀ k j, g32 (I k j)) (hsI2 : g_off I I2) (hxI2 : ∀ k j, g32 (I2 k j)) (hC : g_cin I lb) (hK : g_cok I) : g_Met w g_n I2 J R yX2_possible cX2_possible 3 (some .int) 4 0 0 [(gvr w 697)] (g_post (some (gvI (g_pos2 I lb))) g_n I2 J R) := by
  refine g_intro (own := RX2) [some (gvr w 697), none, none] (by decide +kernel) rfl (by decide) (Nat.le_of_ble_eq_true rfl) rfl (fun i v hv => g_args 2 i v hv rfl) (fun x hc hm => ?_)
  have hL := hC.1
  obtain ⟨hn0, hn1, hLs, hLf⟩ := id hL
  obtain ⟨-, hC1, hC2, hC3, hC4, hC5, hC6, hC7⟩ := id hC
  have hlb5 := hlb
  unfold g_life at hlb5
  have hdI2 : ∀ k : Nat, ¬ g_sV k → I2 k = I2 k := fun _ _ => rfl
  refine g_iconst hc dX2_possible_0 ?_
  refine g_istore_1 hc dX2_possible_1 rfl ?_
  refine g_iconst hc dX2_possible_2 ?_
  refine g_istore_2 hc dX2_possible_3 rfl ?_
  have lp_4 : ∀ (fu : Nat) (a i : Int), 0 ≤ i ∧ i ≤ I lb 0 → a = g_ors (fun s => if g_cbe I lb s = true then g_shl 1 s else 0) i.toNat → I lb 0 - i < (fu : Int) → G w x (g_post (some (gvI (g_pos2 I lb))) g_n I2 J R) 0 0 g_n I2 J R 4 [some (gvr w 697), some (gvI a), some (gvI i)] [] := by
    intro fu
    induction fu with
    | zero => intro a i h3 h4 hfu; exfalso; omega
    | succ fu ih =>
      intro a i h3 h4 hfu
      have ih_4 := ih
      refine g_iload_n hc dX2_possible_4 rfl ?_
      refine g_aldn hc dX2_possible_5 rfl ?_
      refine g_getRk hc lk_X2_21 ca_697 (rc_697_0 hR) dX2_possible_6 ?_
      refine g_getRvk hc lk_X2_25 ca_548 (rc_548_3 hR) dX2_possible_9 ?_
      refine g_getIe hc lk_X2_37 (la_0 hlb) 0 rfl (congrFun (hsI2 _ (by omega)) _) dX2_possible_12 ?_
      refine g_icmp_ge (tgt := 42) hc dX2_possible_15 (by decide) (by first | exact hI _ _ | exact hxI2 _ _ | exact hIa _ _ | exact hIb _ _ | exact g_b32 | exact g_and32 | assumption | exact ⟨by omega, by omega⟩) (by first | exact hI _ _ | exact hxI2 _ _ | exact hIa _ _ | exact hIb _ _ | exact g_b32 | exact g_and32 | assumption | exact ⟨by omega, by omega⟩) (fun c1 => ?_) (fun c1 => ?_)
      · skip
        refine g_iload_n hc dX2_possible_42 rfl ?_
        refine g_iret hc hm dX2_possible_43 ?_
        exact g_postE (by rw [g_pos2, h4, show I lb 0 = i by omega])
      · skip
        refine g_iload_n hc dX2_possible_18 rfl ?_
        refine g_aldn hc dX2_possible_19 rfl ?_
        refine g_iload_n hc dX2_possible_20 rfl ?_
        refine g_V1r hc (c_X2_canBe w hR hlb hI hsI2 hxI2 hC hK (by omega)) my_X2_canBe mv_X2_canBe ca_697 rfl rfl lm_X2_88 rfl (by decide) (Nat.le_of_ble_eq_true rfl) hm dX2_possible_21 ?_
        refine g_ifb_eq (tgt := 33) hc dX2_possible_24 (by decide)  (fun c2 => ?_) (fun c2 => ?_)
        · skip
          refine g_iconst hc dX2_possible_33 ?_
          refine g_ior hc dX2_possible_34 ?_
          refine g_istore_1 hc dX2_possible_35 rfl ?_
          refine g_iinc_2 hc dX2_possible_36 rfl ?_
          refine g_goto (tgt := 4) hc dX2_possible_39 (by decide) ?_
          refine ih_4 _ _ ?_ ?_ ?_
          · omega
          · rw [g_ors_i h3.1, h4]; first | rw [if_pos (by assumption)] | rw [if_neg (by assumption)]
          · omega
        · skip
          refine g_iconst hc dX2_possible_27 ?_
          refine g_iload_n hc dX2_possible_28 rfl ?_
          refine g_ishl hc dX2_possible_29 ?_
          refine g_goto (tgt := 34) hc dX2_possible_30 (by decide) ?_
          refine g_ior hc dX2_possible_34 ?_
          refine g_istore_1 hc dX2_possible_35 rfl ?_
          refine g_iinc_2 hc dX2_possible_36 rfl ?_
          refine g_goto (tgt := 4) hc dX2_possible_39 (by decide) ?_
          refine ih_4 _ _ ?_ ?_ ?_
          · omega
          · rw [g_ors_i h3.1, h4]; first | rw [if_pos (by assumption)] | rw [if_neg (by assumption)]
          · omega
  refine lp_4 (I lb 0 + 1).toNat _ _ ?_ ?_ (?_)
  · omega
  · rfl
  · omega
set_option maxHeartbeats 4000000 in
set_option maxRecDepth 100000 in
/-- X2_likeliest -/
theorem c_X2_likeliest (w : g_W) {I : g_I} {J : g_J} {R : g_R} {lb tx : Nat} (hR : g_rf w R lb tx) (hlb : g_life lb) {I2 : g_I} (hI : ∀ k j, g32 (I k j)) (hsI2 : g_off I I2) (hxI2 : ∀ k j, g32 (I2 k j)) (hC : g_cin I lb) (hK : g_cok I) : g_Met w g_n I2 J R yX2_likeliest cX2_likeliest 5 (some .int) 7 0 0 [(gvr w 697)] (fun rr nn II JJ RR => g_rel w (some (gvI (g_lkl I lb))) g_sT I2 J R rr nn II JJ RR) := by
  refine g_intro (own := RX2) [some (gvr w 697), none, none, none, none] (by decide +kernel) rfl (by decide) (Nat.le_of_ble_eq_true rfl) rfl (fun i v hv => g_args 4 i v hv rfl) (fun x hc hm => ?_)
  have hL := hC.1
  obtain ⟨hn0, hn1, hLs, hLf⟩ := id hL
  obtain ⟨-, hC1, hC2, hC3, hC4, hC5, hC6, hC7⟩ := id hC
  have hlb5 := hlb
  unfold g_life at hlb5
  have hdI2 : ∀ k : Nat, ¬ g_sT k → I2 k = I2 k := fun _ _ => rfl
  refine g_iconst hc dX2_likeliest_0 ?_
  refine g_istore_1 hc dX2_likeliest_1 rfl ?_
  refine g_iconst hc dX2_likeliest_2 ?_
  refine g_istore_2 hc dX2_likeliest_3 rfl ?_
  refine g_iconst hc dX2_likeliest_4 ?_
  refine g_istore_3 hc dX2_likeliest_5 rfl ?_
  have lp_6 : ∀ (fu : Nat) (a q i : Int) (Im : g_I), 0 ≤ i ∧ i ≤ I lb 0 → g_lkn I lb i.toNat = (a, q) → (-1 ≤ a ∧ a < i ∨ a = -1) ∧ 0 ≤ q ∧ q ≤ 1000000000 → g_off I Im → (∀ k j, g32 (Im k j)) → (∀ k : Nat, ¬ g_sT k → Im k = I2 k) → I lb 0 - i < (fu : Int) → G w x (fun rr nn II JJ RR => g_rel w (some (gvI (g_lkl I lb))) g_sT I2 J R rr nn II JJ RR) 0 0 g_n Im J R 6 [some (gvr w 697), some (gvI a), some (gvI q), some (gvI i), none] [] := by
    intro fu
    induction fu with
    | zero => intro a q i Im h3 h4 h5 hsIm hxIm hdIm hfu; exfalso; omega
    | succ fu ih =>
      intro a q i Im h3 h4 h5 hsIm hxIm hdIm hfu
      have ih_6 := ih
      refine g_iload_n hc dX2_likeliest_6 rfl ?_
      refine g_aldn hc dX2_likeliest_7 rfl ?_
      refine g_getRk hc lk_X2_21 ca_697 (rc_697_0 hR) dX2_likeliest_8 ?_
      refine g_getRvk hc lk_X2_25 ca_548 (rc_548_3 hR) dX2_likeliest_11 ?_
      refine g_getIe hc lk_X2_37 (la_0 hlb) 0 rfl (congrFun (hsIm _ (by omega)) _) dX2_likeliest_14 ?_
      refine g_icmp_ge (tgt := 71) hc dX2_likeliest_17 (by decide) (by first | exact hI _ _ | exact hxI2 _ _ | exact hIa _ _ | exact hIb _ _ | exact g_b32 | exact g_and32 | assumption | exact ⟨by omega, by omega⟩) (by first | exact hI _ _ | exact hxI2 _ _ | exact hIa _ _ | exact hIb _ _ | exact g_b32 | exact g_and32 | assumption | exact ⟨by omega, by omega⟩) (fun c1 => ?_) (fun c1 => ?_)
      · skip
        refine g_iload_n hc dX2_likeliest_71 rfl ?_
        refine g_iret hc hm dX2_likeliest_72 ?_
        exact g_relE (by rw [g_lkl, show I lb 0 = i by omega, h4]) hdIm hxIm
      · skip
        have hpi := g_pts_in (z := 1) hL (s := i) (by omega)
        refine g_aldn hc dX2_likeliest_20 rfl ?_
        refine g_iload_n hc dX2_likeliest_21 rfl ?_
        refine g_V1r hc (c_X2_canBe w hR hlb hI hsIm hxIm hC hK (by omega)) my_X2_canBe mv_X2_canBe ca_697 rfl rfl lm_X2_88 rfl (by decide) (Nat.le_of_ble_eq_true rfl) hm dX2_likeliest_22 ?_
        refine g_ifb_eq (tgt := 40) hc dX2_likeliest_25 (by decide)  (fun c2 => ?_) (fun c2 => ?_)
        · skip
          refine g_iconst hc dX2_likeliest_40 ?_
          refine g_istore_4 hc dX2_likeliest_41 rfl ?_
          refine g_iload hc dX2_likeliest_43 rfl ?_
          refine g_iconst hc dX2_likeliest_45 ?_
          refine g_icmp_eq (tgt := 65) hc dX2_likeliest_46 (by decide) (by first | exact ⟨by decide, by decide⟩ | exact ⟨by omega, by omega⟩) ⟨by decide, by decide⟩ (fun c3 => ?_) (fun c3 => ?_)
          · skip
            refine g_iinc_3 hc dX2_likeliest_65 rfl ?_
            refine g_goto (tgt := 6) hc dX2_likeliest_68 (by decide) ?_
            refine G_sub (L' := [some (gvr w 697), some (gvI a), some (gvI q), some (gvI (i + 1)), none]) (show g_le _ _ from ⟨rfl, ⟨rfl, ⟨rfl, ⟨rfl, trivial⟩⟩⟩⟩) ?_
            refine ih_6 _ _ _ _ ?_ ?_ ?_ ?_ ?_ ?_ ?_
            · omega
            · first | (exfalso; omega) | (rw [g_lkn_i h3.1, h4, if_neg (fun z => absurd z.1 c2)]) | (rw [g_lkn_i h3.1, h4, if_pos ⟨c2, Or.inl (by assumption)⟩]) | (rw [g_lkn_i h3.1, h4, if_pos ⟨c2, Or.inr (by show q < _; omega)⟩]) | (rw [g_lkn_i h3.1, h4, if_neg (fun z => by rcases z.2 with z | z; (exact absurd z (by assumption)); (have z2 : q < _ := z; omega))])
            · omega
            · exact hsIm
            · exact hxIm
            · exact hdIm
            · omega
          · skip
            refine g_iload_n hc dX2_likeliest_49 rfl ?_
            refine g_iconst hc dX2_likeliest_50 ?_
            refine g_icmp_eq (tgt := 60) hc dX2_likeliest_51 (by decide) (by first | exact hI _ _ | exact hxI2 _ _ | exact hIa _ _ | exact hIb _ _ | exact g_b32 | exact g_and32 | assumption | exact ⟨by omega, by omega⟩) (by first | exact hI _ _ | exact hxI2 _ _ | exact hIa _ _ | exact hIb _ _ | exact g_b32 | exact g_and32 | assumption | exact ⟨by omega, by omega⟩) (fun c4 => ?_) (fun c4 => ?_)
            · skip
              refine g_iload_n hc dX2_likeliest_60 rfl ?_
              refine g_istore_1 hc dX2_likeliest_61 rfl ?_
              refine g_iload hc dX2_likeliest_62 rfl ?_
              refine g_istore_2 hc dX2_likeliest_64 rfl ?_
              refine g_iinc_3 hc dX2_likeliest_65 rfl ?_
              refine g_goto (tgt := 6) hc dX2_likeliest_68 (by decide) ?_
              refine G_sub (L' := [some (gvr w 697), some (gvI i), some (gvI (-1)), some (gvI (i + 1)), none]) (show g_le _ _ from ⟨rfl, ⟨rfl, ⟨rfl, ⟨rfl, trivial⟩⟩⟩⟩) ?_
              refine ih_6 _ _ _ _ ?_ ?_ ?_ ?_ ?_ ?_ ?_
              · omega
              · first | (exfalso; omega) | (rw [g_lkn_i h3.1, h4, if_neg (fun z => absurd z.1 c2)]) | (rw [g_lkn_i h3.1, h4, if_pos ⟨c2, Or.inl (by assumption)⟩]) | (rw [g_lkn_i h3.1, h4, if_pos ⟨c2, Or.inr (by show q < _; omega)⟩]) | (rw [g_lkn_i h3.1, h4, if_neg (fun z => by rcases z.2 with z | z; (exact absurd z (by assumption)); (have z2 : q < _ := z; omega))])
              · omega
              · exact hsIm
              · exact hxIm
              · exact hdIm
              · omega
            · skip
              refine g_iload hc dX2_likeliest_54 rfl ?_
              refine g_iload_n hc dX2_likeliest_56 rfl ?_
              refine g_icmp_le (tgt := 65) hc dX2_likeliest_57 (by decide) (by exact ⟨by omega, by omega⟩) (by exact ⟨by omega, by omega⟩) (fun c5 => ?_) (fun c5 => ?_)
              · skip
                refine g_iinc_3 hc dX2_likeliest_65 rfl ?_
                refine g_goto (tgt := 6) hc dX2_likeliest_68 (by decide) ?_
                refine G_sub (L' := [some (gvr w 697), some (gvI a), some (gvI q), some (gvI (i + 1)), none]) (show g_le _ _ from ⟨rfl, ⟨rfl, ⟨rfl, ⟨rfl, trivial⟩⟩⟩⟩) ?_
                refine ih_6 _ _ _ _ ?_ ?_ ?_ ?_ ?_ ?_ ?_
                · omega
                · first | (exfalso; omega) | (rw [g_lkn_i h3.1, h4, if_neg (fun z => absurd z.1 c2)]) | (rw [g_lkn_i h3.1, h4, if_pos ⟨c2, Or.inl (by assumption)⟩]) | (rw [g_lkn_i h3.1, h4, if_pos ⟨c2, Or.inr (by show q < _; omega)⟩]) | (rw [g_lkn_i h3.1, h4, if_neg (fun z => by rcases z.2 with z | z; (exact absurd z (by assumption)); (have z2 : q < _ := z; omega))])
                · omega
                · exact hsIm
                · exact hxIm
                · exact hdIm
                · omega
              · skip
                refine g_iload_n hc dX2_likeliest_60 rfl ?_
                refine g_istore_1 hc dX2_likeliest_61 rfl ?_
                refine g_iload hc dX2_likeliest_62 rfl ?_
                refine g_istore_2 hc dX2_likeliest_64 rfl ?_
                refine g_iinc_3 hc dX2_likeliest_65 rfl ?_
                refine g_goto (tgt := 6) hc dX2_likeliest_68 (by decide) ?_
                refine G_sub (L' := [some (gvr w 697), some (gvI i), some (gvI (-1)), some (gvI (i + 1)), none]) (show g_le _ _ from ⟨rfl, ⟨rfl, ⟨rfl, ⟨rfl, trivial⟩⟩⟩⟩) ?_
                refine ih_6 _ _ _ _ ?_ ?_ ?_ ?_ ?_ ?_ ?_
                · omega
                · first | (exfalso; omega) | (rw [g_lkn_i h3.1, h4, if_neg (fun z => absurd z.1 c2)]) | (rw [g_lkn_i h3.1, h4, if_pos ⟨c2, Or.inl (by assumption)⟩]) | (rw [g_lkn_i h3.1, h4, if_pos ⟨c2, Or.inr (by show q < _; omega)⟩]) | (rw [g_lkn_i h3.1, h4, if_neg (fun z => by rcases z.2 with z | z; (exact absurd z (by assumption)); (have z2 : q < _ := z; omega))])
                · omega
                · exact hsIm
                · exact hxIm
                · exact hdIm
                · omega
        · skip
          refine g_aldn hc dX2_likeliest_28 rfl ?_
          refine g_getRk hc lk_X2_21 ca_697 (rc_697_0 hR) dX2_likeliest_29 ?_
          refine g_iload_n hc dX2_likeliest_32 rfl ?_
          refine g_iconst hc dX2_likeliest_33 ?_
          refine g_V2 hc (c_X7_parts w hR hlb hI hsIm hxIm hC (by omega) (by omega)) my_X7_parts mv_X7_parts ca_548 rfl rfl lm_X2_91 rfl (by decide) (Nat.le_of_ble_eq_true rfl) hm dX2_likeliest_34 (fun r3 n3 I3 J3 R3 hp3 => ?_)
          obtain ⟨rfl, rfl, hfI3, hxI3, rfl, rfl⟩ := hp3
          have hsI3 : g_off I I3 := fun k hk => (hfI3 k (fun q => hk (by omega))).trans (hsIm k hk)
          have hdI3 : ∀ k : Nat, ¬ g_sT k → I3 k = I2 k := fun k hk => (hfI3 k (fun q => hk (by omega))).trans (hdIm k hk)
          refine g_goto (tgt := 41) hc dX2_likeliest_37 (by decide) ?_
          refine g_istore_4 hc dX2_likeliest_41 rfl ?_
          refine g_iload hc dX2_likeliest_43 rfl ?_
          refine g_iconst hc dX2_likeliest_45 ?_
          refine g_icmp_eq (tgt := 65) hc dX2_likeliest_46 (by decide) (by first | exact ⟨by decide, by decide⟩ | exact ⟨by omega, by omega⟩) ⟨by decide, by decide⟩ (fun c6 => ?_) (fun c6 => ?_)
          · skip
            refine g_iinc_3 hc dX2_likeliest_65 rfl ?_
            refine g_goto (tgt := 6) hc dX2_likeliest_68 (by decide) ?_
            refine G_sub (L' := [some (gvr w 697), some (gvI a), some (gvI q), some (gvI (i + 1)), none]) (show g_le _ _ from ⟨rfl, ⟨rfl, ⟨rfl, ⟨rfl, trivial⟩⟩⟩⟩) ?_
            refine ih_6 _ _ _ _ ?_ ?_ ?_ ?_ ?_ ?_ ?_
            · omega
            · first | (exfalso; omega) | (rw [g_lkn_i h3.1, h4, if_neg (fun z => absurd z.1 c2)]) | (rw [g_lkn_i h3.1, h4, if_pos ⟨c2, Or.inl (by assumption)⟩]) | (rw [g_lkn_i h3.1, h4, if_pos ⟨c2, Or.inr (by show q < _; omega)⟩]) | (rw [g_lkn_i h3.1, h4, if_neg (fun z => by rcases z.2 with z | z; (exact absurd z (by assumption)); (have z2 : q < _ := z; omega))])
            · omega
            · exact hsI3
            · exact hxI3
            · exact hdI3
            · omega
          · skip
            refine g_iload_n hc dX2_likeliest_49 rfl ?_
            refine g_iconst hc dX2_likeliest_50 ?_
            refine g_icmp_eq (tgt := 60) hc dX2_likeliest_51 (by decide) (by first | exact hI _ _ | exact hxI2 _ _ | exact hIa _ _ | exact hIb _ _ | exact g_b32 | exact g_and32 | assumption | exact ⟨by omega, by omega⟩) (by first | exact hI _ _ | exact hxI2 _ _ | exact hIa _ _ | exact hIb _ _ | exact g_b32 | exact g_and32 | assumption | exact ⟨by omega, by omega⟩) (fun c7 => ?_) (fun c7 => ?_)
            · skip
              refine g_iload_n hc dX2_likeliest_60 rfl ?_
              refine g_istore_1 hc dX2_likeliest_61 rfl ?_
              refine g_iload hc dX2_likeliest_62 rfl ?_
              refine g_istore_2 hc dX2_likeliest_64 rfl ?_
              refine g_iinc_3 hc dX2_likeliest_65 rfl ?_
              refine g_goto (tgt := 6) hc dX2_likeliest_68 (by decide) ?_
              refine G_sub (L' := [some (gvr w 697), some (gvI i), some (gvI (g_pts I lb i 1)), some (gvI (i + 1)), none]) (show g_le _ _ from ⟨rfl, ⟨rfl, ⟨rfl, ⟨rfl, trivial⟩⟩⟩⟩) ?_
              refine ih_6 _ _ _ _ ?_ ?_ ?_ ?_ ?_ ?_ ?_
              · omega
              · first | (exfalso; omega) | (rw [g_lkn_i h3.1, h4, if_neg (fun z => absurd z.1 c2)]) | (rw [g_lkn_i h3.1, h4, if_pos ⟨c2, Or.inl (by assumption)⟩]) | (rw [g_lkn_i h3.1, h4, if_pos ⟨c2, Or.inr (by show q < _; omega)⟩]) | (rw [g_lkn_i h3.1, h4, if_neg (fun z => by rcases z.2 with z | z; (exact absurd z (by assumption)); (have z2 : q < _ := z; omega))])
              · omega
              · exact hsI3
              · exact hxI3
              · exact hdI3
              · omega
            · skip
              refine g_iload hc dX2_likeliest_54 rfl ?_
              refine g_iload_n hc dX2_likeliest_56 rfl ?_
              refine g_icmp_le (tgt := 65) hc dX2_likeliest_57 (by decide) (by exact ⟨by omega, by omega⟩) (by exact ⟨by omega, by omega⟩) (fun c8 => ?_) (fun c8 => ?_)
              · skip
                refine g_iinc_3 hc dX2_likeliest_65 rfl ?_
                refine g_goto (tgt := 6) hc dX2_likeliest_68 (by decide) ?_
                refine G_sub (L' := [some (gvr w 697), some (gvI a), some (gvI q), some (gvI (i + 1)), none]) (show g_le _ _ from ⟨rfl, ⟨rfl, ⟨rfl, ⟨rfl, trivial⟩⟩⟩⟩) ?_
                refine ih_6 _ _ _ _ ?_ ?_ ?_ ?_ ?_ ?_ ?_
                · omega
                · first | (exfalso; omega) | (rw [g_lkn_i h3.1, h4, if_neg (fun z => absurd z.1 c2)]) | (rw [g_lkn_i h3.1, h4, if_pos ⟨c2, Or.inl (by assumption)⟩]) | (rw [g_lkn_i h3.1, h4, if_pos ⟨c2, Or.inr (by show q < _; omega)⟩]) | (rw [g_lkn_i h3.1, h4, if_neg (fun z => by rcases z.2 with z | z; (exact absurd z (by assumption)); (have z2 : q < _ := z; omega))])
                · omega
                · exact hsI3
                · exact hxI3
                · exact hdI3
                · omega
              · skip
                refine g_iload_n hc dX2_likeliest_60 rfl ?_
                refine g_istore_1 hc dX2_likeliest_61 rfl ?_
                refine g_iload hc dX2_likeliest_62 rfl ?_
                refine g_istore_2 hc dX2_likeliest_64 rfl ?_
                refine g_iinc_3 hc dX2_likeliest_65 rfl ?_
                refine g_goto (tgt := 6) hc dX2_likeliest_68 (by decide) ?_
                refine G_sub (L' := [some (gvr w 697), some (gvI i), some (gvI (g_pts I lb i 1)), some (gvI (i + 1)), none]) (show g_le _ _ from ⟨rfl, ⟨rfl, ⟨rfl, ⟨rfl, trivial⟩⟩⟩⟩) ?_
                refine ih_6 _ _ _ _ ?_ ?_ ?_ ?_ ?_ ?_ ?_
                · omega
                · first | (exfalso; omega) | (rw [g_lkn_i h3.1, h4, if_neg (fun z => absurd z.1 c2)]) | (rw [g_lkn_i h3.1, h4, if_pos ⟨c2, Or.inl (by assumption)⟩]) | (rw [g_lkn_i h3.1, h4, if_pos ⟨c2, Or.inr (by show q < _; omega)⟩]) | (rw [g_lkn_i h3.1, h4, if_neg (fun z => by rcases z.2 with z | z; (exact absurd z (by assumption)); (have z2 : q < _ := z; omega))])
                · omega
                · exact hsI3
                · exact hxI3
                · exact hdI3
                · omega
  refine lp_6 (I lb 0 + 1).toNat _ _ _ _ ?_ ?_ ?_ ?_ ?_ ?_ (?_)
  · omega
  · rfl
  · omega
  · exact hsI2
  · exact hxI2
  · exact hdI2
  · omega
