set_option maxHeartbeats 4000000 in
set_option maxRecDepth 100000 in
/-- X2_factsOf -/
theorem c_X2_factsOf (w : g_W) {I : g_I} {J : g_J} {R : g_R} {lb tx : Nat} (hR : g_rf w R lb tx) (hlb : g_life lb) {I2 : g_I} (hI : ∀ k j, g32 (I k j)) (hsI2 : g_off I I2) (hxI2 : ∀ k j, g32 (I2 k j)) (hC : g_cin I lb) {s : Int} (h1 : 0 ≤ s ∧ s < I lb 0) : g_Met w g_n I2 J R yX2_factsOf cX2_factsOf 2 (some .int) 0 0 0 [(gvr w 697), (gvI s)] (g_post (some (gvI (g_fct I lb s))) g_n I2 J R) := by
  refine g_intro (own := RX2) [some (gvr w 697), some (gvI s)] (by decide +kernel) rfl (by decide) (Nat.le_of_ble_eq_true rfl) rfl (fun i v hv => g_args 0 i v hv rfl) (fun x hc hm => ?_)
  have hL := hC.1
  obtain ⟨hn0, hn1, hLs, hLf⟩ := id hL
  obtain ⟨-, hC1, hC2, hC3, hC4, hC5, hC6, hC7⟩ := id hC
  have hlb5 := hlb
  unfold g_life at hlb5
  have hdI2 : ∀ k : Nat, ¬ g_sV k → I2 k = I2 k := fun _ _ => rfl
  refine g_aldn hc dX2_factsOf_0 rfl ?_
  refine g_getRk hc lk_X2_21 ca_697 (rc_697_0 hR) dX2_factsOf_1 ?_
  refine g_getRvk hc lk_X2_25 ca_548 (rc_548_3 hR) dX2_factsOf_4 ?_
  refine g_getRk hc lk_X2_31 (la_0 hlb) (rl_2 hR hlb) dX2_factsOf_7 ?_
  refine g_iload_n hc dX2_factsOf_10 rfl ?_
  refine g_aaldk hc (la_1 hlb) (by decide) rfl rfl (by decide) (by omega) (by omega) (rl_has hR hlb (by omega) (by omega)) dX2_factsOf_11 ?_
  refine g_bipush hc dX2_factsOf_12 (by decide +kernel) ?_
  refine g_ialde hc (la_has hlb (by omega) (by omega)) (by decide) (by omega) (by omega) (congrFun (hsI2 _ (by omega)) _) dX2_factsOf_14 ?_
  refine g_iret hc hm dX2_factsOf_15 ?_
  first | (exfalso; omega) | exact ⟨rfl, rfl, rfl, rfl, rfl⟩ | exact ⟨by rw [g_b1 (by omega)], rfl, rfl, rfl, rfl⟩ | exact ⟨by rw [g_b0 (by omega)], rfl, rfl, rfl, rfl⟩
set_option maxHeartbeats 4000000 in
set_option maxRecDepth 100000 in
/-- X2_common -/
theorem c_X2_common (w : g_W) {I : g_I} {J : g_J} {R : g_R} {lb tx : Nat} (hR : g_rf w R lb tx) (hlb : g_life lb) {I2 : g_I} (hI : ∀ k j, g32 (I k j)) (hsI2 : g_off I I2) (hxI2 : ∀ k j, g32 (I2 k j)) (hC : g_cin I lb) {m : Int} : g_Met w g_n I2 J R yX2_common cX2_common 4 (some .int) 1 0 0 [(gvr w 697), (gvI m)] (g_post (some (gvI (g_com I lb m))) g_n I2 J R) := by
  refine g_intro (own := RX2) [some (gvr w 697), some (gvI m), none, none] (by decide +kernel) rfl (by decide) (Nat.le_of_ble_eq_true rfl) rfl (fun i v hv => g_args 2 i v hv rfl) (fun x hc hm => ?_)
  have hL := hC.1
  obtain ⟨hn0, hn1, hLs, hLf⟩ := id hL
  obtain ⟨-, hC1, hC2, hC3, hC4, hC5, hC6, hC7⟩ := id hC
  have hlb5 := hlb
  unfold g_life at hlb5
  have hdI2 : ∀ k : Nat, ¬ g_sV k → I2 k = I2 k := fun _ _ => rfl
  refine g_sipush hc dX2_common_0 (by decide +kernel) ?_
  refine g_istore_2 hc dX2_common_3 rfl ?_
  refine g_iconst hc dX2_common_4 ?_
  refine g_istore_3 hc dX2_common_5 rfl ?_
  have lp_6 : ∀ (fu : Nat) (a i : Int), 0 ≤ i ∧ i ≤ I lb 0 → a = g_cmn I lb m i.toNat → I lb 0 - i < (fu : Int) → G w x (g_post (some (gvI (g_com I lb m))) g_n I2 J R) 0 0 g_n I2 J R 6 [some (gvr w 697), some (gvI m), some (gvI a), some (gvI i)] [] := by
    intro fu
    induction fu with
    | zero => intro a i h3 h4 hfu; exfalso; omega
    | succ fu ih =>
      intro a i h3 h4 hfu
      have ih_6 := ih
      refine g_iload_n hc dX2_common_6 rfl ?_
      refine g_aldn hc dX2_common_7 rfl ?_
      refine g_getRk hc lk_X2_21 ca_697 (rc_697_0 hR) dX2_common_8 ?_
      refine g_getRvk hc lk_X2_25 ca_548 (rc_548_3 hR) dX2_common_11 ?_
      refine g_getIe hc lk_X2_37 (la_0 hlb) 0 rfl (congrFun (hsI2 _ (by omega)) _) dX2_common_14 ?_
      refine g_icmp_ge (tgt := 49) hc dX2_common_17 (by decide) (by first | exact hI _ _ | exact hxI2 _ _ | exact hIa _ _ | exact hIb _ _ | exact g_b32 | exact g_and32 | assumption | exact ⟨by omega, by omega⟩) (by first | exact hI _ _ | exact hxI2 _ _ | exact hIa _ _ | exact hIb _ _ | exact g_b32 | exact g_and32 | assumption | exact ⟨by omega, by omega⟩) (fun c1 => ?_) (fun c1 => ?_)
      · skip
        refine g_iload_n hc dX2_common_49 rfl ?_
        refine g_iret hc hm dX2_common_50 ?_
        exact g_postE (by rw [g_com, h4, show I lb 0 = i by omega])
      · skip
        refine g_iload_n hc dX2_common_20 rfl ?_
        refine g_iload_n hc dX2_common_21 rfl ?_
        refine g_iload_n hc dX2_common_22 rfl ?_
        refine g_ishr hc dX2_common_23 ?_
        refine g_iconst hc dX2_common_24 ?_
        refine g_iand hc dX2_common_25 ?_
        refine g_iconst hc dX2_common_26 ?_
        refine g_icmp_ne (tgt := 38) hc dX2_common_27 (by decide) (by first | exact hI _ _ | exact hxI2 _ _ | exact hIa _ _ | exact hIb _ _ | exact g_b32 | exact g_and32 | assumption | exact ⟨by omega, by omega⟩) (by first | exact hI _ _ | exact hxI2 _ _ | exact hIa _ _ | exact hIb _ _ | exact g_b32 | exact g_and32 | assumption | exact ⟨by omega, by omega⟩) (fun c2 => ?_) (fun c2 => ?_)
        · skip
          refine g_sipush hc dX2_common_38 (by decide +kernel) ?_
          refine g_iand hc dX2_common_41 ?_
          refine g_istore_2 hc dX2_common_42 rfl ?_
          refine g_iinc_3 hc dX2_common_43 rfl ?_
          refine g_goto (tgt := 6) hc dX2_common_46 (by decide) ?_
          refine ih_6 _ _ ?_ ?_ ?_
          · omega
          · rw [g_cmn_i h3.1, h4]; first | rw [if_pos (by assumption)] | rw [if_neg (by assumption)]
          · omega
        · skip
          refine g_aldn hc dX2_common_30 rfl ?_
          refine g_iload_n hc dX2_common_31 rfl ?_
          refine g_V1r hc (c_X2_factsOf w hR hlb hI hsI2 hxI2 hC (by omega)) my_X2_factsOf mv_X2_factsOf ca_697 rfl rfl lm_X2_41 rfl (by decide) (Nat.le_of_ble_eq_true rfl) hm dX2_common_32 ?_
          refine g_goto (tgt := 41) hc dX2_common_35 (by decide) ?_
          refine g_iand hc dX2_common_41 ?_
          refine g_istore_2 hc dX2_common_42 rfl ?_
          refine g_iinc_3 hc dX2_common_43 rfl ?_
          refine g_goto (tgt := 6) hc dX2_common_46 (by decide) ?_
          refine ih_6 _ _ ?_ ?_ ?_
          · omega
          · rw [g_cmn_i h3.1, h4]; first | rw [if_pos (by assumption)] | rw [if_neg (by assumption)]
          · omega
  refine lp_6 (I lb 0 + 1).toNat _ _ ?_ ?_ (?_)
  · omega
  · rfl
  · omega
set_option maxHeartbeats 4000000 in
set_option maxRecDepth 100000 in
/-- X2_sameAs -/
theorem c_X2_sameAs (w : g_W) {I : g_I} {J : g_J} {R : g_R} {lb tx : Nat} (hR : g_rf w R lb tx) (hlb : g_life lb) {I2 : g_I} (hI : ∀ k j, g32 (I k j)) (hsI2 : g_off I I2) (hxI2 : ∀ k j, g32 (I2 k j)) (hC : g_cin I lb) {s : Int} (h1 : 0 ≤ s ∧ s < I lb 0) : g_Met w g_n I2 J R yX2_sameAs cX2_sameAs 5 (some .int) 3 0 0 [(gvr w 697), (gvI s)] (g_post (some (gvI (g_twn I lb s))) g_n I2 J R) := by
  refine g_intro (own := RX2) [some (gvr w 697), some (gvI s), none, none, none] (by decide +kernel) rfl (by decide) (Nat.le_of_ble_eq_true rfl) rfl (fun i v hv => g_args 3 i v hv rfl) (fun x hc hm => ?_)
  have hL := hC.1
  obtain ⟨hn0, hn1, hLs, hLf⟩ := id hL
  obtain ⟨-, hC1, hC2, hC3, hC4, hC5, hC6, hC7⟩ := id hC
  have hlb5 := hlb
  unfold g_life at hlb5
  have hdI2 : ∀ k : Nat, ¬ g_sV k → I2 k = I2 k := fun _ _ => rfl
  refine g_iconst hc dX2_sameAs_0 ?_
  refine g_istore_2 hc dX2_sameAs_1 rfl ?_
  refine g_iconst hc dX2_sameAs_2 ?_
  refine g_istore_3 hc dX2_sameAs_3 rfl ?_
  have lp_4 : ∀ (fu : Nat) (a i : Int), 0 ≤ i ∧ i ≤ I lb 0 → a = g_ors (fun t => if ¬ t = s ∧ g_fct I lb t = g_fct I lb s ∧ g_thr I lb t = true then g_shl 1 t else 0) i.toNat → I lb 0 - i < (fu : Int) → G w x (g_post (some (gvI (g_twn I lb s))) g_n I2 J R) 0 0 g_n I2 J R 4 [some (gvr w 697), some (gvI s), some (gvI a), some (gvI i), none] [] := by
    intro fu
    induction fu with
    | zero => intro a i h3 h4 hfu; exfalso; omega
    | succ fu ih =>
      intro a i h3 h4 hfu
      have ih_4 := ih
      refine g_iload_n hc dX2_sameAs_4 rfl ?_
      refine g_aldn hc dX2_sameAs_5 rfl ?_
      refine g_getRk hc lk_X2_21 ca_697 (rc_697_0 hR) dX2_sameAs_6 ?_
      refine g_getRvk hc lk_X2_25 ca_548 (rc_548_3 hR) dX2_sameAs_9 ?_
      refine g_getIe hc lk_X2_37 (la_0 hlb) 0 rfl (congrFun (hsI2 _ (by omega)) _) dX2_sameAs_12 ?_
      refine g_icmp_ge (tgt := 75) hc dX2_sameAs_15 (by decide) (by first | exact hI _ _ | exact hxI2 _ _ | exact hIa _ _ | exact hIb _ _ | exact g_b32 | exact g_and32 | assumption | exact ⟨by omega, by omega⟩) (by first | exact hI _ _ | exact hxI2 _ _ | exact hIa _ _ | exact hIb _ _ | exact g_b32 | exact g_and32 | assumption | exact ⟨by omega, by omega⟩) (fun c1 => ?_) (fun c1 => ?_)
      · skip
        refine g_iload_n hc dX2_sameAs_75 rfl ?_
        refine g_iret hc hm dX2_sameAs_76 ?_
        exact g_postE (by rw [g_twn, h4, show I lb 0 = i by omega])
      · skip
        refine g_iload_n hc dX2_sameAs_18 rfl ?_
        refine g_iload_n hc dX2_sameAs_19 rfl ?_
        refine g_icmp_eq (tgt := 51) hc dX2_sameAs_20 (by decide) (by first | exact hI _ _ | exact hxI2 _ _ | exact hIa _ _ | exact hIb _ _ | exact g_b32 | exact g_and32 | assumption | exact ⟨by omega, by omega⟩) (by first | exact hI _ _ | exact hxI2 _ _ | exact hIa _ _ | exact hIb _ _ | exact g_b32 | exact g_and32 | assumption | exact ⟨by omega, by omega⟩) (fun c2 => ?_) (fun c2 => ?_)
        · skip
          refine g_iconst hc dX2_sameAs_51 ?_
          refine g_istore_4 hc dX2_sameAs_52 rfl ?_
          refine g_iload_n hc dX2_sameAs_54 rfl ?_
          refine g_iload hc dX2_sameAs_55 rfl ?_
          refine g_if_eq (tgt := 66) hc dX2_sameAs_57 (by decide) (show g32 _ from ⟨by decide, by decide⟩) (fun c3 => ?_) (fun c3 => ?_)
          · skip
            refine g_iconst hc dX2_sameAs_66 ?_
            refine g_ior hc dX2_sameAs_67 ?_
            refine g_istore_2 hc dX2_sameAs_68 rfl ?_
            refine g_iinc_3 hc dX2_sameAs_69 rfl ?_
            refine g_goto (tgt := 4) hc dX2_sameAs_72 (by decide) ?_
            refine G_sub (L' := [some (gvr w 697), some (gvI s), some (gvI (g_or a 0)), some (gvI (i + 1)), none]) (show g_le _ _ from ⟨rfl, ⟨rfl, ⟨rfl, ⟨rfl, trivial⟩⟩⟩⟩) ?_
            refine ih_4 _ _ ?_ ?_ ?_
            · omega
            · rw [g_ors_i h3.1, h4]; first | rw [if_pos ⟨by assumption, by assumption, by assumption⟩] | (rw [if_neg (fun z => by first | exact absurd (by assumption) z.1 | exact absurd z.2.1 (by assumption) | exact absurd z.2.2 (by assumption))])
            · omega
          · exfalso; omega
        · skip
          refine g_aldn hc dX2_sameAs_23 rfl ?_
          refine g_iload_n hc dX2_sameAs_24 rfl ?_
          refine g_V1r hc (c_X2_factsOf w hR hlb hI hsI2 hxI2 hC (by omega)) my_X2_factsOf mv_X2_factsOf ca_697 rfl rfl lm_X2_41 rfl (by decide) (Nat.le_of_ble_eq_true rfl) hm dX2_sameAs_25 ?_
          refine g_aldn hc dX2_sameAs_28 rfl ?_
          refine g_iload_n hc dX2_sameAs_29 rfl ?_
          refine g_V1r hc (c_X2_factsOf w hR hlb hI hsI2 hxI2 hC (by omega)) my_X2_factsOf mv_X2_factsOf ca_697 rfl rfl lm_X2_41 rfl (by decide) (Nat.le_of_ble_eq_true rfl) hm dX2_sameAs_30 ?_
          refine g_icmp_ne (tgt := 51) hc dX2_sameAs_33 (by decide) (by first | exact hI _ _ | exact hxI2 _ _ | exact hIa _ _ | exact hIb _ _ | exact g_b32 | exact g_and32 | assumption | exact ⟨by omega, by omega⟩) (by first | exact hI _ _ | exact hxI2 _ _ | exact hIa _ _ | exact hIb _ _ | exact g_b32 | exact g_and32 | assumption | exact ⟨by omega, by omega⟩) (fun c4 => ?_) (fun c4 => ?_)
          · skip
            refine g_iconst hc dX2_sameAs_51 ?_
            refine g_istore_4 hc dX2_sameAs_52 rfl ?_
            refine g_iload_n hc dX2_sameAs_54 rfl ?_
            refine g_iload hc dX2_sameAs_55 rfl ?_
            refine g_if_eq (tgt := 66) hc dX2_sameAs_57 (by decide) (show g32 _ from ⟨by decide, by decide⟩) (fun c5 => ?_) (fun c5 => ?_)
            · skip
              refine g_iconst hc dX2_sameAs_66 ?_
              refine g_ior hc dX2_sameAs_67 ?_
              refine g_istore_2 hc dX2_sameAs_68 rfl ?_
              refine g_iinc_3 hc dX2_sameAs_69 rfl ?_
              refine g_goto (tgt := 4) hc dX2_sameAs_72 (by decide) ?_
              refine G_sub (L' := [some (gvr w 697), some (gvI s), some (gvI (g_or a 0)), some (gvI (i + 1)), none]) (show g_le _ _ from ⟨rfl, ⟨rfl, ⟨rfl, ⟨rfl, trivial⟩⟩⟩⟩) ?_
              refine ih_4 _ _ ?_ ?_ ?_
              · omega
              · rw [g_ors_i h3.1, h4]; first | rw [if_pos ⟨by assumption, by assumption, by assumption⟩] | (rw [if_neg (fun z => by first | exact absurd (by assumption) z.1 | exact absurd z.2.1 (by assumption) | exact absurd z.2.2 (by assumption))])
              · omega
            · exfalso; omega
          · skip
            refine g_aldn hc dX2_sameAs_36 rfl ?_
            refine g_getRk hc lk_X2_21 ca_697 (rc_697_0 hR) dX2_sameAs_37 ?_
            refine g_iload_n hc dX2_sameAs_40 rfl ?_
            refine g_V1r hc (c_X7_isThere w hR hxI2 hlb (g_lok_cg hsI2 hlb hL) (by first | omega | (rw [hsI2 _ (g_nl hlb (by omega) (by omega))]; omega))) my_X7_isThere mv_X7_isThere ca_548 rfl rfl lm_X2_45 rfl (by decide) (Nat.le_of_ble_eq_true rfl) hm dX2_sameAs_41 ?_
            rw [show g_thr I2 lb i = g_thr I lb i from g_thr_cg hsI2 hlb (by omega)]
            refine g_ifb_eq (tgt := 51) hc dX2_sameAs_44 (by decide)  (fun c6 => ?_) (fun c6 => ?_)
            · skip
              refine g_iconst hc dX2_sameAs_51 ?_
              refine g_istore_4 hc dX2_sameAs_52 rfl ?_
              refine g_iload_n hc dX2_sameAs_54 rfl ?_
              refine g_iload hc dX2_sameAs_55 rfl ?_
              refine g_if_eq (tgt := 66) hc dX2_sameAs_57 (by decide) (show g32 _ from ⟨by decide, by decide⟩) (fun c7 => ?_) (fun c7 => ?_)
              · skip
                refine g_iconst hc dX2_sameAs_66 ?_
                refine g_ior hc dX2_sameAs_67 ?_
                refine g_istore_2 hc dX2_sameAs_68 rfl ?_
                refine g_iinc_3 hc dX2_sameAs_69 rfl ?_
                refine g_goto (tgt := 4) hc dX2_sameAs_72 (by decide) ?_
                refine G_sub (L' := [some (gvr w 697), some (gvI s), some (gvI (g_or a 0)), some (gvI (i + 1)), none]) (show g_le _ _ from ⟨rfl, ⟨rfl, ⟨rfl, ⟨rfl, trivial⟩⟩⟩⟩) ?_
                refine ih_4 _ _ ?_ ?_ ?_
                · omega
                · rw [g_ors_i h3.1, h4]; first | rw [if_pos ⟨by assumption, by assumption, by assumption⟩] | (rw [if_neg (fun z => by first | exact absurd (by assumption) z.1 | exact absurd z.2.1 (by assumption) | exact absurd z.2.2 (by assumption))])
                · omega
              · exfalso; omega
            · skip
              refine g_iconst hc dX2_sameAs_47 ?_
              refine g_goto (tgt := 52) hc dX2_sameAs_48 (by decide) ?_
              refine g_istore_4 hc dX2_sameAs_52 rfl ?_
              refine g_iload_n hc dX2_sameAs_54 rfl ?_
              refine g_iload hc dX2_sameAs_55 rfl ?_
              refine g_if_eq (tgt := 66) hc dX2_sameAs_57 (by decide) (show g32 _ from ⟨by decide, by decide⟩) (fun c8 => ?_) (fun c8 => ?_)
              · exfalso; omega
              · skip
                refine g_iconst hc dX2_sameAs_60 ?_
                refine g_iload_n hc dX2_sameAs_61 rfl ?_
                refine g_ishl hc dX2_sameAs_62 ?_
                refine g_goto (tgt := 67) hc dX2_sameAs_63 (by decide) ?_
                refine g_ior hc dX2_sameAs_67 ?_
                refine g_istore_2 hc dX2_sameAs_68 rfl ?_
                refine g_iinc_3 hc dX2_sameAs_69 rfl ?_
                refine g_goto (tgt := 4) hc dX2_sameAs_72 (by decide) ?_
                refine G_sub (L' := [some (gvr w 697), some (gvI s), some (gvI (g_or a (g_shl 1 i))), some (gvI (i + 1)), none]) (show g_le _ _ from ⟨rfl, ⟨rfl, ⟨rfl, ⟨rfl, trivial⟩⟩⟩⟩) ?_
                refine ih_4 _ _ ?_ ?_ ?_
                · omega
                · rw [g_ors_i h3.1, h4]; first | rw [if_pos ⟨by assumption, by assumption, by assumption⟩] | (rw [if_neg (fun z => by first | exact absurd (by assumption) z.1 | exact absurd z.2.1 (by assumption) | exact absurd z.2.2 (by assumption))])
                · omega
  refine lp_4 (I lb 0 + 1).toNat _ _ ?_ ?_ (?_)
  · omega
  · rfl
  · omega
set_option maxHeartbeats 4000000 in
set_option maxRecDepth 100000 in
/-- X2_tells -/
theorem c_X2_tells (w : g_W) {I : g_I} {J : g_J} {R : g_R} {lb tx : Nat} (hR : g_rf w R lb tx) (hlb : g_life lb) {I2 : g_I} (hI : ∀ k j, g32 (I k j)) (hsI2 : g_off I I2) (hxI2 : ∀ k j, g32 (I2 k j)) (hC : g_cin I lb) {s o m : Int} (h1 : 0 ≤ s ∧ s < I lb 0) : g_Met w g_n I2 J R yX2_tells cX2_tells 5 (some .boolean) 1 0 0 [(gvr w 697), (gvI s), (gvI o), (gvI m)] (g_post (some (gvI (g_b (g_tls I lb s o m = true)))) g_n I2 J R) := by
  refine g_intro (own := RX2) [some (gvr w 697), some (gvI s), some (gvI o), some (gvI m), none] (by decide +kernel) rfl (by decide) (Nat.le_of_ble_eq_true rfl) rfl (fun i v hv => g_args 1 i v hv rfl) (fun x hc hm => ?_)
  have hL := hC.1
  obtain ⟨hn0, hn1, hLs, hLf⟩ := id hL
  obtain ⟨-, hC1, hC2, hC3, hC4, hC5, hC6, hC7⟩ := id hC
  have hlb5 := hlb
  unfold g_life at hlb5
  have hdI2 : ∀ k : Nat, ¬ g_sV k → I2 k = I2 k := fun _ _ => rfl
  refine g_iconst hc dX2_tells_0 ?_
  refine g_istore_4 hc dX2_tells_1 rfl ?_
  have lp_3 : ∀ (fu : Nat) (i : Int), 0 ≤ i ∧ i ≤ I lb 0 → g_tls I lb s o m = g_all (fun t => decide (¬ (g_bit o t ∧ g_and (g_xor (g_fct I lb t) (g_fct I lb s)) m = 0))) (I lb 0 - i).toNat i → I lb 0 - i < (fu : Int) → G w x (g_post (some (gvI (g_b (g_tls I lb s o m = true)))) g_n I2 J R) 0 0 g_n I2 J R 3 [some (gvr w 697), some (gvI s), some (gvI o), some (gvI m), some (gvI i)] [] := by
    intro fu
    induction fu with
    | zero => intro i h3 h4 hfu; exfalso; omega
    | succ fu ih =>
      intro i h3 h4 hfu
      have ih_3 := ih
      refine g_iload hc dX2_tells_3 rfl ?_
      refine g_aldn hc dX2_tells_5 rfl ?_
      refine g_getRk hc lk_X2_21 ca_697 (rc_697_0 hR) dX2_tells_6 ?_
      refine g_getRvk hc lk_X2_25 ca_548 (rc_548_3 hR) dX2_tells_9 ?_
      refine g_getIe hc lk_X2_37 (la_0 hlb) 0 rfl (congrFun (hsI2 _ (by omega)) _) dX2_tells_12 ?_
      refine g_icmp_ge (tgt := 53) hc dX2_tells_15 (by decide) (by first | exact hI _ _ | exact hxI2 _ _ | exact hIa _ _ | exact hIb _ _ | exact g_b32 | exact g_and32 | assumption | exact ⟨by omega, by omega⟩) (by first | exact hI _ _ | exact hxI2 _ _ | exact hIa _ _ | exact hIb _ _ | exact g_b32 | exact g_and32 | assumption | exact ⟨by omega, by omega⟩) (fun c1 => ?_) (fun c1 => ?_)
      · skip
        refine g_iconst hc dX2_tells_53 ?_
        refine g_zret hc hm (by first | exact g_b01 | omega) dX2_tells_54 ?_
        first | (exfalso; omega) | exact g_postE (g_b0 (by rw [h4, g_all_f (by omega) (fun z => (of_decide_eq_true z) (by first | (exfalso; omega) | exact ⟨by assumption, by assumption⟩ | exact ⟨by assumption, by assumption, by assumption⟩))]; decide)) | exact g_postE (g_b1 (by rw [h4, g_all_e (by omega)]))
      · skip
        refine g_iload_n hc dX2_tells_18 rfl ?_
        refine g_iload hc dX2_tells_19 rfl ?_
        refine g_ishr hc dX2_tells_21 ?_
        refine g_iconst hc dX2_tells_22 ?_
        refine g_iand hc dX2_tells_23 ?_
        refine g_iconst hc dX2_tells_24 ?_
        refine g_icmp_ne (tgt := 47) hc dX2_tells_25 (by decide) (by first | exact hI _ _ | exact hxI2 _ _ | exact hIa _ _ | exact hIb _ _ | exact g_b32 | exact g_and32 | assumption | exact ⟨by omega, by omega⟩) (by first | exact hI _ _ | exact hxI2 _ _ | exact hIa _ _ | exact hIb _ _ | exact g_b32 | exact g_and32 | assumption | exact ⟨by omega, by omega⟩) (fun c2 => ?_) (fun c2 => ?_)
        · skip
          refine g_iinc_4 hc dX2_tells_47 rfl ?_
          refine g_goto (tgt := 3) hc dX2_tells_50 (by decide) ?_
          refine ih_3 _ ?_ ?_ ?_
          · omega
          · rw [h4, g_all_t (by omega) (by simp only [decide_eq_true_eq]; intro z; first | exact absurd z.1 (by assumption) | exact absurd z.2 (by assumption) | exact absurd z.2.1 (by assumption) | exact absurd z.2.2 (by assumption) | exact absurd (by assumption) z.2.1)]
          · omega
        · skip
          refine g_aldn hc dX2_tells_28 rfl ?_
          refine g_iload hc dX2_tells_29 rfl ?_
          refine g_V1r hc (c_X2_factsOf w hR hlb hI hsI2 hxI2 hC (by omega)) my_X2_factsOf mv_X2_factsOf ca_697 rfl rfl lm_X2_41 rfl (by decide) (Nat.le_of_ble_eq_true rfl) hm dX2_tells_31 ?_
          refine g_aldn hc dX2_tells_34 rfl ?_
          refine g_iload_n hc dX2_tells_35 rfl ?_
          refine g_V1r hc (c_X2_factsOf w hR hlb hI hsI2 hxI2 hC (by omega)) my_X2_factsOf mv_X2_factsOf ca_697 rfl rfl lm_X2_41 rfl (by decide) (Nat.le_of_ble_eq_true rfl) hm dX2_tells_36 ?_
          refine g_ixor hc dX2_tells_39 ?_
          refine g_iload_n hc dX2_tells_40 rfl ?_
          refine g_iand hc dX2_tells_41 ?_
          refine g_if_ne (tgt := 47) hc dX2_tells_42 (by decide) (by first | exact hI _ _ | exact hxI2 _ _ | exact hIa _ _ | exact hIb _ _ | exact g_b32 | exact g_and32 | assumption | exact ⟨by omega, by omega⟩) (fun c3 => ?_) (fun c3 => ?_)
          · skip
            refine g_iinc_4 hc dX2_tells_47 rfl ?_
            refine g_goto (tgt := 3) hc dX2_tells_50 (by decide) ?_
            refine ih_3 _ ?_ ?_ ?_
            · omega
            · rw [h4, g_all_t (by omega) (by simp only [decide_eq_true_eq]; intro z; first | exact absurd z.1 (by assumption) | exact absurd z.2 (by assumption) | exact absurd z.2.1 (by assumption) | exact absurd z.2.2 (by assumption) | exact absurd (by assumption) z.2.1)]
            · omega
          · skip
            refine g_iconst hc dX2_tells_45 ?_
            refine g_zret hc hm (by first | exact g_b01 | omega) dX2_tells_46 ?_
            first | (exfalso; omega) | exact g_postE (g_b0 (by rw [h4, g_all_f (by omega) (fun z => (of_decide_eq_true z) (by first | (exfalso; omega) | exact ⟨by assumption, by assumption⟩ | exact ⟨by assumption, by assumption, by assumption⟩))]; decide)) | exact g_postE (g_b1 (by rw [h4, g_all_e (by omega)]))
  refine lp_3 (I lb 0 + 1).toNat _ ?_ ?_ (?_)
  · omega
  · rw [Int.sub_zero]; rfl
  · omega
set_option maxHeartbeats 4000000 in
set_option maxRecDepth 100000 in
/-- X2_reachesAll -/
theorem c_X2_reachesAll (w : g_W) {I : g_I} {J : g_J} {R : g_R} {lb tx : Nat} (hR : g_rf w R lb tx) (hlb : g_life lb) {I2 : g_I} (hI : ∀ k j, g32 (I k j)) (hsI2 : g_off I I2) (hxI2 : ∀ k j, g32 (I2 k j)) (hC : g_cin I lb) {o m : Int} : g_Met w g_n I2 J R yX2_reachesAll cX2_reachesAll 4 (some .boolean) 1 0 0 [(gvr w 697), (gvI o), (gvI m)] (g_post (some (gvI (g_b (g_rea I lb o m = true)))) g_n I2 J R) := by
  refine g_intro (own := RX2) [some (gvr w 697), some (gvI o), some (gvI m), none] (by decide +kernel) rfl (by decide) (Nat.le_of_ble_eq_true rfl) rfl (fun i v hv => g_args 1 i v hv rfl) (fun x hc hm => ?_)
  have hL := hC.1
  obtain ⟨hn0, hn1, hLs, hLf⟩ := id hL
  obtain ⟨-, hC1, hC2, hC3, hC4, hC5, hC6, hC7⟩ := id hC
  have hlb5 := hlb
  unfold g_life at hlb5
  have hdI2 : ∀ k : Nat, ¬ g_sV k → I2 k = I2 k := fun _ _ => rfl
  refine g_iconst hc dX2_reachesAll_0 ?_
  refine g_istore_3 hc dX2_reachesAll_1 rfl ?_
  have lp_2 : ∀ (fu : Nat) (i : Int), 0 ≤ i ∧ i ≤ I lb 0 → g_rea I lb o m = g_all (fun t => decide (¬ (g_bit o t ∧ g_and (g_fct I lb t) m = 0))) (I lb 0 - i).toNat i → I lb 0 - i < (fu : Int) → G w x (g_post (some (gvI (g_b (g_rea I lb o m = true)))) g_n I2 J R) 0 0 g_n I2 J R 2 [some (gvr w 697), some (gvI o), some (gvI m), some (gvI i)] [] := by
    intro fu
    induction fu with
    | zero => intro i h3 h4 hfu; exfalso; omega
    | succ fu ih =>
      intro i h3 h4 hfu
      have ih_2 := ih
      refine g_iload_n hc dX2_reachesAll_2 rfl ?_
      refine g_aldn hc dX2_reachesAll_3 rfl ?_
      refine g_getRk hc lk_X2_21 ca_697 (rc_697_0 hR) dX2_reachesAll_4 ?_
      refine g_getRvk hc lk_X2_25 ca_548 (rc_548_3 hR) dX2_reachesAll_7 ?_
      refine g_getIe hc lk_X2_37 (la_0 hlb) 0 rfl (congrFun (hsI2 _ (by omega)) _) dX2_reachesAll_10 ?_
      refine g_icmp_ge (tgt := 43) hc dX2_reachesAll_13 (by decide) (by first | exact hI _ _ | exact hxI2 _ _ | exact hIa _ _ | exact hIb _ _ | exact g_b32 | exact g_and32 | assumption | exact ⟨by omega, by omega⟩) (by first | exact hI _ _ | exact hxI2 _ _ | exact hIa _ _ | exact hIb _ _ | exact g_b32 | exact g_and32 | assumption | exact ⟨by omega, by omega⟩) (fun c1 => ?_) (fun c1 => ?_)
      · skip
        refine g_iconst hc dX2_reachesAll_43 ?_
        refine g_zret hc hm (by first | exact g_b01 | omega) dX2_reachesAll_44 ?_
        first | (exfalso; omega) | exact g_postE (g_b0 (by rw [h4, g_all_f (by omega) (fun z => (of_decide_eq_true z) (by first | (exfalso; omega) | exact ⟨by assumption, by assumption⟩ | exact ⟨by assumption, by assumption, by assumption⟩))]; decide)) | exact g_postE (g_b1 (by rw [h4, g_all_e (by omega)]))
      · skip
        refine g_iload_n hc dX2_reachesAll_16 rfl ?_
        refine g_iload_n hc dX2_reachesAll_17 rfl ?_
        refine g_ishr hc dX2_reachesAll_18 ?_
        refine g_iconst hc dX2_reachesAll_19 ?_
        refine g_iand hc dX2_reachesAll_20 ?_
        refine g_iconst hc dX2_reachesAll_21 ?_
        refine g_icmp_ne (tgt := 37) hc dX2_reachesAll_22 (by decide) (by first | exact hI _ _ | exact hxI2 _ _ | exact hIa _ _ | exact hIb _ _ | exact g_b32 | exact g_and32 | assumption | exact ⟨by omega, by omega⟩) (by first | exact hI _ _ | exact hxI2 _ _ | exact hIa _ _ | exact hIb _ _ | exact g_b32 | exact g_and32 | assumption | exact ⟨by omega, by omega⟩) (fun c2 => ?_) (fun c2 => ?_)
        · skip
          refine g_iinc_3 hc dX2_reachesAll_37 rfl ?_
          refine g_goto (tgt := 2) hc dX2_reachesAll_40 (by decide) ?_
          refine ih_2 _ ?_ ?_ ?_
          · omega
          · rw [h4, g_all_t (by omega) (by simp only [decide_eq_true_eq]; intro z; first | exact absurd z.1 (by assumption) | exact absurd z.2 (by assumption) | exact absurd z.2.1 (by assumption) | exact absurd z.2.2 (by assumption) | exact absurd (by assumption) z.2.1)]
          · omega
        · skip
          refine g_aldn hc dX2_reachesAll_25 rfl ?_
          refine g_iload_n hc dX2_reachesAll_26 rfl ?_
          refine g_V1r hc (c_X2_factsOf w hR hlb hI hsI2 hxI2 hC (by omega)) my_X2_factsOf mv_X2_factsOf ca_697 rfl rfl lm_X2_41 rfl (by decide) (Nat.le_of_ble_eq_true rfl) hm dX2_reachesAll_27 ?_
          refine g_iload_n hc dX2_reachesAll_30 rfl ?_
          refine g_iand hc dX2_reachesAll_31 ?_
          refine g_if_ne (tgt := 37) hc dX2_reachesAll_32 (by decide) (by first | exact hI _ _ | exact hxI2 _ _ | exact hIa _ _ | exact hIb _ _ | exact g_b32 | exact g_and32 | assumption | exact ⟨by omega, by omega⟩) (fun c3 => ?_) (fun c3 => ?_)
          · skip
            refine g_iinc_3 hc dX2_reachesAll_37 rfl ?_
            refine g_goto (tgt := 2) hc dX2_reachesAll_40 (by decide) ?_
            refine ih_2 _ ?_ ?_ ?_
            · omega
            · rw [h4, g_all_t (by omega) (by simp only [decide_eq_true_eq]; intro z; first | exact absurd z.1 (by assumption) | exact absurd z.2 (by assumption) | exact absurd z.2.1 (by assumption) | exact absurd z.2.2 (by assumption) | exact absurd (by assumption) z.2.1)]
            · omega
          · skip
            refine g_iconst hc dX2_reachesAll_35 ?_
            refine g_zret hc hm (by first | exact g_b01 | omega) dX2_reachesAll_36 ?_
            first | (exfalso; omega) | exact g_postE (g_b0 (by rw [h4, g_all_f (by omega) (fun z => (of_decide_eq_true z) (by first | (exfalso; omega) | exact ⟨by assumption, by assumption⟩ | exact ⟨by assumption, by assumption, by assumption⟩))]; decide)) | exact g_postE (g_b1 (by rw [h4, g_all_e (by omega)]))
  refine lp_2 (I lb 0 + 1).toNat _ ?_ ?_ (?_)
  · omega
  · rw [Int.sub_zero]; rfl
  · omega
set_option maxHeartbeats 4000000 in
set_option maxRecDepth 100000 in
/-- X2_fewestTelling -/
theorem c_X2_fewestTelling (w : g_W) {I : g_I} {J : g_J} {R : g_R} {lb tx : Nat} (hR : g_rf w R lb tx) (hlb : g_life lb) {I2 : g_I} (hI : ∀ k j, g32 (I k j)) (hsI2 : g_off I I2) (hxI2 : ∀ k j, g32 (I2 k j)) (hC : g_cin I lb) {s : Int} (h1 : 0 ≤ s ∧ s < I lb 0) : g_Met w g_n I2 J R yX2_fewestTelling cX2_fewestTelling 5 (some .int) 4 0 0 [(gvr w 697), (gvI s)] (g_post (some (gvI (g_tel I lb s))) g_n I2 J R) := by
  refine g_intro (own := RX2) [some (gvr w 697), some (gvI s), none, none, none] (by decide +kernel) rfl (by decide) (Nat.le_of_ble_eq_true rfl) rfl (fun i v hv => g_args 3 i v hv rfl) (fun x hc hm => ?_)
  have hL := hC.1
  obtain ⟨hn0, hn1, hLs, hLf⟩ := id hL
  obtain ⟨-, hC1, hC2, hC3, hC4, hC5, hC6, hC7⟩ := id hC
  have hlb5 := hlb
  unfold g_life at hlb5
  have hdI2 : ∀ k : Nat, ¬ g_sV k → I2 k = I2 k := fun _ _ => rfl
  refine g_aldn hc dX2_fewestTelling_0 rfl ?_
  refine g_iload_n hc dX2_fewestTelling_1 rfl ?_
  refine g_V1r hc (c_X2_sameAs w hR hlb hI hsI2 hxI2 hC (by omega)) my_X2_sameAs mv_X2_sameAs ca_697 rfl rfl lm_X2_49 rfl (by decide) (Nat.le_of_ble_eq_true rfl) hm dX2_fewestTelling_2 ?_
  refine g_if_eq (tgt := 10) hc dX2_fewestTelling_5 (by decide) g_ors32 (fun c1 => ?_) (fun c1 => ?_)
  · skip
    refine g_aldn hc dX2_fewestTelling_10 rfl ?_
    refine g_getRk hc lk_X2_21 ca_697 (rc_697_0 hR) dX2_fewestTelling_11 ?_
    refine g_V0r hc (c_X7_thereBits w hR hxI2 hlb (g_lok_cg hsI2 hlb hL)) my_X7_thereBits mv_X7_thereBits ca_548 rfl rfl lm_X2_52 rfl (by decide) (Nat.le_of_ble_eq_true rfl) hm dX2_fewestTelling_14 ?_
    rw [show g_thb I2 lb = g_thb I lb from g_thb_cg hsI2 hlb hL]
    refine g_iconst hc dX2_fewestTelling_17 ?_
    refine g_iload_n hc dX2_fewestTelling_18 rfl ?_
    refine g_ishl hc dX2_fewestTelling_19 ?_
    refine g_iconst hc dX2_fewestTelling_20 ?_
    refine g_ixor hc dX2_fewestTelling_21 ?_
    refine g_iand hc dX2_fewestTelling_22 ?_
    refine g_istore_2 hc dX2_fewestTelling_23 rfl ?_
    refine g_sipush hc dX2_fewestTelling_24 (by decide +kernel) ?_
    refine g_istore_3 hc dX2_fewestTelling_27 rfl ?_
    refine g_iconst hc dX2_fewestTelling_28 ?_
    refine g_istore_4 hc dX2_fewestTelling_29 rfl ?_
    have lp_31 : ∀ (fu : Nat) (a i : Int), 0 ≤ i ∧ i ≤ 1023 → a = g_fws (fun set => g_tls I lb s (g_and (g_thb I lb) (g_xor (g_shl 1 s) (-1))) set) i.toNat → 1023 - i < (fu : Int) → G w x (g_post (some (gvI (g_tel I lb s))) g_n I2 J R) 0 0 g_n I2 J R 31 [some (gvr w 697), some (gvI s), some (gvI (g_and (g_thb I lb) (g_xor (g_shl 1 s) (-1)))), some (gvI a), some (gvI i)] [] := by
      intro fu
      induction fu with
      | zero => intro a i h3 h4 hfu; exfalso; omega
      | succ fu ih =>
        intro a i h3 h4 hfu
        have hbi := g_bc_in (a := i)
        have hba := g_bc_in (a := a)
        have ih_31 := ih
        refine g_iload hc dX2_fewestTelling_31 rfl ?_
        refine g_sipush hc dX2_fewestTelling_33 (by decide +kernel) ?_
        refine g_icmp_ge (tgt := 71) hc dX2_fewestTelling_36 (by decide) (by first | exact hI _ _ | exact hxI2 _ _ | exact hIa _ _ | exact hIb _ _ | exact g_b32 | exact g_and32 | assumption | exact ⟨by omega, by omega⟩) (by first | exact hI _ _ | exact hxI2 _ _ | exact hIa _ _ | exact hIb _ _ | exact g_b32 | exact g_and32 | assumption | exact ⟨by omega, by omega⟩) (fun c2 => ?_) (fun c2 => ?_)
        · skip
          refine g_iload_n hc dX2_fewestTelling_71 rfl ?_
          refine g_iret hc hm dX2_fewestTelling_72 ?_
          exact g_postE (by rw [g_tel, if_neg (by omega), h4, show i = 1023 by omega]; rfl)
        · skip
          refine g_iload hc dX2_fewestTelling_39 rfl ?_
          refine g_S1r hc (c_J6_bitCount_0f7a4 w) my_J6_bitCount_0f7a4 ms_J6_bitCount_0f7a4 lm_X2_56 rfl (by decide) (Nat.le_of_ble_eq_true rfl) hm dX2_fewestTelling_41 ?_
          refine g_iload_n hc dX2_fewestTelling_44 rfl ?_
          refine g_S1r hc (c_J6_bitCount_0f7a4 w) my_J6_bitCount_0f7a4 ms_J6_bitCount_0f7a4 lm_X2_56 rfl (by decide) (Nat.le_of_ble_eq_true rfl) hm dX2_fewestTelling_45 ?_
          refine g_icmp_ge (tgt := 65) hc dX2_fewestTelling_48 (by decide) (by first | exact hI _ _ | exact hxI2 _ _ | exact hIa _ _ | exact hIb _ _ | exact g_b32 | exact g_and32 | assumption | exact ⟨by omega, by omega⟩) (by first | exact hI _ _ | exact hxI2 _ _ | exact hIa _ _ | exact hIb _ _ | exact g_b32 | exact g_and32 | assumption | exact ⟨by omega, by omega⟩) (fun c3 => ?_) (fun c3 => ?_)
          · skip
            refine g_iinc_4 hc dX2_fewestTelling_65 rfl ?_
            refine g_goto (tgt := 31) hc dX2_fewestTelling_68 (by decide) ?_
            refine ih_31 _ _ ?_ ?_ ?_
            · omega
            · rw [g_fws_i h3.1, ← h4]; first | rw [if_pos ⟨by omega, by assumption⟩] | rw [if_neg (fun z => by first | exact absurd z.2 (by assumption) | omega)]
            · omega
          · skip
            refine g_aldn hc dX2_fewestTelling_51 rfl ?_
            refine g_iload_n hc dX2_fewestTelling_52 rfl ?_
            refine g_iload_n hc dX2_fewestTelling_53 rfl ?_
            refine g_iload hc dX2_fewestTelling_54 rfl ?_
            refine g_V3r hc (c_X2_tells w hR hlb hI hsI2 hxI2 hC (by omega)) my_X2_tells mv_X2_tells ca_697 rfl rfl lm_X2_61 rfl (by decide) (Nat.le_of_ble_eq_true rfl) hm dX2_fewestTelling_56 ?_
            refine g_ifb_eq (tgt := 65) hc dX2_fewestTelling_59 (by decide)  (fun c4 => ?_) (fun c4 => ?_)
            · skip
              refine g_iinc_4 hc dX2_fewestTelling_65 rfl ?_
              refine g_goto (tgt := 31) hc dX2_fewestTelling_68 (by decide) ?_
              refine ih_31 _ _ ?_ ?_ ?_
              · omega
              · rw [g_fws_i h3.1, ← h4]; first | rw [if_pos ⟨by omega, by assumption⟩] | rw [if_neg (fun z => by first | exact absurd z.2 (by assumption) | omega)]
              · omega
            · skip
              refine g_iload hc dX2_fewestTelling_62 rfl ?_
              refine g_istore_3 hc dX2_fewestTelling_64 rfl ?_
              refine g_iinc_4 hc dX2_fewestTelling_65 rfl ?_
              refine g_goto (tgt := 31) hc dX2_fewestTelling_68 (by decide) ?_
              refine ih_31 _ _ ?_ ?_ ?_
              · omega
              · rw [g_fws_i h3.1, ← h4]; first | rw [if_pos ⟨by omega, by assumption⟩] | rw [if_neg (fun z => by first | exact absurd z.2 (by assumption) | omega)]
              · omega
    refine lp_31 1024 _ _ ?_ ?_ (?_)
    · omega
    · rfl
    · omega
  · skip
    refine g_iconst hc dX2_fewestTelling_8 ?_
    refine g_iret hc hm dX2_fewestTelling_9 ?_
    exact g_postE (by rw [g_tel, if_pos (by assumption)])
set_option maxHeartbeats 4000000 in
set_option maxRecDepth 100000 in
/-- X2_fewestForAll -/
theorem c_X2_fewestForAll (w : g_W) {I : g_I} {J : g_J} {R : g_R} {lb tx : Nat} (hR : g_rf w R lb tx) (hlb : g_life lb) {I2 : g_I} (hI : ∀ k j, g32 (I k j)) (hsI2 : g_off I I2) (hxI2 : ∀ k j, g32 (I2 k j)) (hC : g_cin I lb)  : g_Met w g_n I2 J R yX2_fewestForAll cX2_fewestForAll 4 (some .int) 4 0 0 [(gvr w 697)] (g_post (some (gvI (g_sen I lb))) g_n I2 J R) := by
  refine g_intro (own := RX2) [some (gvr w 697), none, none, none] (by decide +kernel) rfl (by decide) (Nat.le_of_ble_eq_true rfl) rfl (fun i v hv => g_args 3 i v hv rfl) (fun x hc hm => ?_)
  have hL := hC.1
  obtain ⟨hn0, hn1, hLs, hLf⟩ := id hL
  obtain ⟨-, hC1, hC2, hC3, hC4, hC5, hC6, hC7⟩ := id hC
  have hlb5 := hlb
  unfold g_life at hlb5
  have hdI2 : ∀ k : Nat, ¬ g_sV k → I2 k = I2 k := fun _ _ => rfl
  refine g_aldn hc dX2_fewestForAll_0 rfl ?_
  refine g_getRk hc lk_X2_21 ca_697 (rc_697_0 hR) dX2_fewestForAll_1 ?_
  refine g_V0r hc (c_X7_thereBits w hR hxI2 hlb (g_lok_cg hsI2 hlb hL)) my_X7_thereBits mv_X7_thereBits ca_548 rfl rfl lm_X2_52 rfl (by decide) (Nat.le_of_ble_eq_true rfl) hm dX2_fewestForAll_4 ?_
  rw [show g_thb I2 lb = g_thb I lb from g_thb_cg hsI2 hlb hL]
  refine g_istore_1 hc dX2_fewestForAll_7 rfl ?_
  refine g_aldn hc dX2_fewestForAll_8 rfl ?_
  refine g_iload_n hc dX2_fewestForAll_9 rfl ?_
  refine g_sipush hc dX2_fewestForAll_10 (by decide +kernel) ?_
  refine g_V2r hc (c_X2_reachesAll w hR hlb hI hsI2 hxI2 hC) my_X2_reachesAll mv_X2_reachesAll ca_697 rfl rfl lm_X2_65 rfl (by decide) (Nat.le_of_ble_eq_true rfl) hm dX2_fewestForAll_13 ?_
  refine g_ifb_ne (tgt := 21) hc dX2_fewestForAll_16 (by decide)  (fun c1 => ?_) (fun c1 => ?_)
  · skip
    have hr := c1
    refine g_sipush hc dX2_fewestForAll_21 (by decide +kernel) ?_
    refine g_istore_2 hc dX2_fewestForAll_24 rfl ?_
    refine g_iconst hc dX2_fewestForAll_25 ?_
    refine g_istore_3 hc dX2_fewestForAll_26 rfl ?_
    have lp_27 : ∀ (fu : Nat) (a i : Int), 0 ≤ i ∧ i ≤ 1023 → a = g_fws (fun set => g_rea I lb (g_thb I lb) set) i.toNat → 1023 - i < (fu : Int) → G w x (g_post (some (gvI (g_sen I lb))) g_n I2 J R) 0 0 g_n I2 J R 27 [some (gvr w 697), some (gvI (g_thb I lb)), some (gvI a), some (gvI i)] [] := by
      intro fu
      induction fu with
      | zero => intro a i h3 h4 hfu; exfalso; omega
      | succ fu ih =>
        intro a i h3 h4 hfu
        have hbi := g_bc_in (a := i)
        have hba := g_bc_in (a := a)
        have ih_27 := ih
        refine g_iload_n hc dX2_fewestForAll_27 rfl ?_
        refine g_sipush hc dX2_fewestForAll_28 (by decide +kernel) ?_
        refine g_icmp_ge (tgt := 62) hc dX2_fewestForAll_31 (by decide) (by first | exact hI _ _ | exact hxI2 _ _ | exact hIa _ _ | exact hIb _ _ | exact g_b32 | exact g_and32 | assumption | exact ⟨by omega, by omega⟩) (by first | exact hI _ _ | exact hxI2 _ _ | exact hIa _ _ | exact hIb _ _ | exact g_b32 | exact g_and32 | assumption | exact ⟨by omega, by omega⟩) (fun c2 => ?_) (fun c2 => ?_)
        · skip
          refine g_iload_n hc dX2_fewestForAll_62 rfl ?_
          refine g_iret hc hm dX2_fewestForAll_63 ?_
          exact g_postE (by rw [g_sen, if_pos hr, h4, show i = 1023 by omega]; rfl)
        · skip
          refine g_iload_n hc dX2_fewestForAll_34 rfl ?_
          refine g_S1r hc (c_J6_bitCount_0f7a4 w) my_J6_bitCount_0f7a4 ms_J6_bitCount_0f7a4 lm_X2_56 rfl (by decide) (Nat.le_of_ble_eq_true rfl) hm dX2_fewestForAll_35 ?_
          refine g_iload_n hc dX2_fewestForAll_38 rfl ?_
          refine g_S1r hc (c_J6_bitCount_0f7a4 w) my_J6_bitCount_0f7a4 ms_J6_bitCount_0f7a4 lm_X2_56 rfl (by decide) (Nat.le_of_ble_eq_true rfl) hm dX2_fewestForAll_39 ?_
          refine g_icmp_ge (tgt := 56) hc dX2_fewestForAll_42 (by decide) (by first | exact hI _ _ | exact hxI2 _ _ | exact hIa _ _ | exact hIb _ _ | exact g_b32 | exact g_and32 | assumption | exact ⟨by omega, by omega⟩) (by first | exact hI _ _ | exact hxI2 _ _ | exact hIa _ _ | exact hIb _ _ | exact g_b32 | exact g_and32 | assumption | exact ⟨by omega, by omega⟩) (fun c3 => ?_) (fun c3 => ?_)
          · skip
            refine g_iinc_3 hc dX2_fewestForAll_56 rfl ?_
            refine g_goto (tgt := 27) hc dX2_fewestForAll_59 (by decide) ?_
            refine ih_27 _ _ ?_ ?_ ?_
            · omega
            · rw [g_fws_i h3.1, ← h4]; first | rw [if_pos ⟨by omega, by assumption⟩] | rw [if_neg (fun z => by first | exact absurd z.2 (by assumption) | omega)]
            · omega
          · skip
            refine g_aldn hc dX2_fewestForAll_45 rfl ?_
            refine g_iload_n hc dX2_fewestForAll_46 rfl ?_
            refine g_iload_n hc dX2_fewestForAll_47 rfl ?_
            refine g_V2r hc (c_X2_reachesAll w hR hlb hI hsI2 hxI2 hC) my_X2_reachesAll mv_X2_reachesAll ca_697 rfl rfl lm_X2_65 rfl (by decide) (Nat.le_of_ble_eq_true rfl) hm dX2_fewestForAll_48 ?_
            refine g_ifb_eq (tgt := 56) hc dX2_fewestForAll_51 (by decide)  (fun c4 => ?_) (fun c4 => ?_)
            · skip
              refine g_iinc_3 hc dX2_fewestForAll_56 rfl ?_
              refine g_goto (tgt := 27) hc dX2_fewestForAll_59 (by decide) ?_
              refine ih_27 _ _ ?_ ?_ ?_
              · omega
              · rw [g_fws_i h3.1, ← h4]; first | rw [if_pos ⟨by omega, by assumption⟩] | rw [if_neg (fun z => by first | exact absurd z.2 (by assumption) | omega)]
              · omega
            · skip
              refine g_iload_n hc dX2_fewestForAll_54 rfl ?_
              refine g_istore_2 hc dX2_fewestForAll_55 rfl ?_
              refine g_iinc_3 hc dX2_fewestForAll_56 rfl ?_
              refine g_goto (tgt := 27) hc dX2_fewestForAll_59 (by decide) ?_
              refine ih_27 _ _ ?_ ?_ ?_
              · omega
              · rw [g_fws_i h3.1, ← h4]; first | rw [if_pos ⟨by omega, by assumption⟩] | rw [if_neg (fun z => by first | exact absurd z.2 (by assumption) | omega)]
              · omega
    refine lp_27 1024 _ _ ?_ ?_ (?_)
    · omega
    · rfl
    · omega
  · skip
    have hr := c1
    refine g_iconst hc dX2_fewestForAll_19 ?_
    refine g_iret hc hm dX2_fewestForAll_20 ?_
    exact g_postE (by rw [g_sen, if_neg hr])
