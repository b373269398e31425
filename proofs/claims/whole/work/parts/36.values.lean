set_option maxHeartbeats 4000000 in
set_option maxRecDepth 100000 in
/-- X4_parting -/
theorem c_X4_parting (w : g_W) {I : g_I} {J : g_J} {R : g_R} {lb tx : Nat} (hR : g_rf w R lb tx) (hI : ∀ k j, g32 (I k j)) {b : Nat} (hb : g_life b) {s t : Int} (h1 : 0 ≤ s ∧ s < 12) (h2 : 0 ≤ t ∧ t < 12) (h3 : 0 ≤ I (b + 14) s ∧ I (b + 14) s ≤ 6) (h4 : 0 ≤ I (b + 14) t ∧ I (b + 14) t ≤ 6) : g_Met w g_n I J R yX4_parting cX4_parting 5 (some .int) 0 0 0 [(gvr w b), (gvI s), (gvI t)] (g_post (some (gvI (g_prt I b s t))) g_n I J R) := by
  refine g_intro (own := RX4) [some (gvr w b), some (gvI s), some (gvI t), none, none] (by decide +kernel) rfl (by decide) (Nat.le_of_ble_eq_true rfl) rfl (fun i v hv => g_args 2 i v hv rfl) (fun x hc hm => ?_)
  refine g_iconst hc dX4_parting_0 ?_
  refine g_istore_3 hc dX4_parting_1 rfl ?_
  refine g_iconst hc dX4_parting_2 ?_
  refine g_istore_4 hc dX4_parting_3 rfl ?_
  have lp_5 : ∀ (fu : Nat) (a i : Int), 0 ≤ i ∧ i ≤ min (I (b + 14) s) (I (b + 14) t) → a = g_prn I b s t i.toNat → min (I (b + 14) s) (I (b + 14) t) - i < (fu : Int) → G w x (g_post (some (gvI (g_prt I b s t))) g_n I J R) 0 0 g_n I J R 5 [some (gvr w b), some (gvI s), some (gvI t), some (gvI a), some (gvI i)] [] := by
    intro fu
    induction fu with
    | zero => intro a i h5 h6 hfu; exfalso; omega
    | succ fu ih =>
      intro a i h5 h6 hfu
      have ih_5 := ih
      refine g_iload hc dX4_parting_5 rfl ?_
      refine g_aldn hc dX4_parting_7 rfl ?_
      refine g_getRk hc lk_X4_16 (la_0 hb) (rl_3 hR hb) dX4_parting_8 ?_
      refine g_iload_n hc dX4_parting_11 rfl ?_
      refine g_iald hc (la_14 hb) (by decide) (by omega) (by omega) dX4_parting_12 ?_
      refine g_icmp_ge (tgt := 64) hc dX4_parting_13 (by decide) (by first | exact hI _ _ | exact hxI2 _ _ | exact hIa _ _ | exact hIb _ _ | exact g_b32 | exact g_and32 | assumption | exact ⟨by omega, by omega⟩) (by first | exact hI _ _ | exact hxI2 _ _ | exact hIa _ _ | exact hIb _ _ | exact g_b32 | exact g_and32 | assumption | exact ⟨by omega, by omega⟩) (fun c1 => ?_) (fun c1 => ?_)
      · skip
        refine g_iload_n hc dX4_parting_64 rfl ?_
        refine g_iret hc hm dX4_parting_65 ?_
        exact g_postE (by rw [g_prt, h6, show min (I (b + 14) s) (I (b + 14) t) = i by omega])
      · skip
        refine g_iload hc dX4_parting_16 rfl ?_
        refine g_aldn hc dX4_parting_18 rfl ?_
        refine g_getRk hc lk_X4_16 (la_0 hb) (rl_3 hR hb) dX4_parting_19 ?_
        refine g_iload_n hc dX4_parting_22 rfl ?_
        refine g_iald hc (la_14 hb) (by decide) (by omega) (by omega) dX4_parting_23 ?_
        refine g_icmp_ge (tgt := 64) hc dX4_parting_24 (by decide) (by first | exact hI _ _ | exact hxI2 _ _ | exact hIa _ _ | exact hIb _ _ | exact g_b32 | exact g_and32 | assumption | exact ⟨by omega, by omega⟩) (by first | exact hI _ _ | exact hxI2 _ _ | exact hIa _ _ | exact hIb _ _ | exact g_b32 | exact g_and32 | assumption | exact ⟨by omega, by omega⟩) (fun c2 => ?_) (fun c2 => ?_)
        · skip
          refine g_iload_n hc dX4_parting_64 rfl ?_
          refine g_iret hc hm dX4_parting_65 ?_
          exact g_postE (by rw [g_prt, h6, show min (I (b + 14) s) (I (b + 14) t) = i by omega])
        · skip
          refine g_aldn hc dX4_parting_27 rfl ?_
          refine g_getRk hc lk_X4_20 (la_0 hb) (rl_4 hR hb) dX4_parting_28 ?_
          refine g_iload_n hc dX4_parting_31 rfl ?_
          refine g_aaldk hc (la_15 hb) (by decide) rfl rfl (by decide) (by omega) (by omega) (rl_wf hR hb (by omega) (by omega)) dX4_parting_32 ?_
          refine g_iload hc dX4_parting_33 rfl ?_
          refine g_iald hc (la_wf hb (by omega) (by omega)) (by decide) (by omega) (by omega) dX4_parting_35 ?_
          refine g_aldn hc dX4_parting_36 rfl ?_
          refine g_getRk hc lk_X4_20 (la_0 hb) (rl_4 hR hb) dX4_parting_37 ?_
          refine g_iload_n hc dX4_parting_40 rfl ?_
          refine g_aaldk hc (la_15 hb) (by decide) rfl rfl (by decide) (by omega) (by omega) (rl_wf hR hb (by omega) (by omega)) dX4_parting_41 ?_
          refine g_iload hc dX4_parting_42 rfl ?_
          refine g_iald hc (la_wf hb (by omega) (by omega)) (by decide) (by omega) (by omega) dX4_parting_44 ?_
          refine g_icmp_ne (tgt := 58) hc dX4_parting_45 (by decide) (by first | exact hI _ _ | exact hxI2 _ _ | exact hIa _ _ | exact hIb _ _ | exact g_b32 | exact g_and32 | assumption | exact ⟨by omega, by omega⟩) (by first | exact hI _ _ | exact hxI2 _ _ | exact hIa _ _ | exact hIb _ _ | exact g_b32 | exact g_and32 | assumption | exact ⟨by omega, by omega⟩) (fun c3 => ?_) (fun c3 => ?_)
          · skip
            refine g_iinc_4 hc dX4_parting_58 rfl ?_
            refine g_goto (tgt := 5) hc dX4_parting_61 (by decide) ?_
            refine ih_5 _ _ ?_ ?_ ?_
            · omega
            · rw [g_prn_i h5.1]; first | rw [if_pos (by assumption)] | rw [if_neg (by assumption), h6]
            · omega
          · skip
            refine g_aldn hc dX4_parting_48 rfl ?_
            refine g_getRk hc lk_X4_20 (la_0 hb) (rl_4 hR hb) dX4_parting_49 ?_
            refine g_iload_n hc dX4_parting_52 rfl ?_
            refine g_aaldk hc (la_15 hb) (by decide) rfl rfl (by decide) (by omega) (by omega) (rl_wf hR hb (by omega) (by omega)) dX4_parting_53 ?_
            refine g_iload hc dX4_parting_54 rfl ?_
            refine g_iald hc (la_wf hb (by omega) (by omega)) (by decide) (by omega) (by omega) dX4_parting_56 ?_
            refine g_istore_3 hc dX4_parting_57 rfl ?_
            refine g_iinc_4 hc dX4_parting_58 rfl ?_
            refine g_goto (tgt := 5) hc dX4_parting_61 (by decide) ?_
            refine ih_5 _ _ ?_ ?_ ?_
            · omega
            · rw [g_prn_i h5.1]; first | rw [if_pos (by assumption)] | rw [if_neg (by assumption), h6]
            · omega
  refine lp_5 (min (I (b + 14) s) (I (b + 14) t) + 1).toNat _ _ ?_ ?_ (?_)
  · omega
  · rfl
  · omega
set_option maxHeartbeats 4000000 in
set_option maxRecDepth 100000 in
/-- X11_behind -/
theorem c_X11_behind (w : g_W) {I : g_I} {J : g_J} {R : g_R} {lb tx : Nat} (hR : g_rf w R lb tx) (hlb : g_life lb) {I2 : g_I} (hI : ∀ k j, g32 (I k j)) (hsI2 : g_off I I2) (hxI2 : ∀ k j, g32 (I2 k j)) (hC : g_cin I lb) {lo : Int} (hVI2 : g_vok I lb I2 lo) {f r : Int} (h1 : g32 f) (h2 : g32 r) (h3 : lo ≤ f + 1) : g_Met w g_n I2 J R yX11_behind cX11_behind 4 (some .int) 2 0 0 [(gvr w 683), (gvI f), (gvI r)] (g_post (some (gvI (g_bhd I lb (g_w5 I lb) f r))) g_n I2 J R) := by
  refine g_intro (own := RX11) [some (gvr w 683), some (gvI f), some (gvI r), none] (by decide +kernel) rfl (by decide) (Nat.le_of_ble_eq_true rfl) rfl (fun i v hv => g_args 1 i v hv rfl) (fun x hc hm => ?_)
  have hL := hC.1
  obtain ⟨hn0, hn1, hLs, hLf⟩ := id hL
  obtain ⟨-, hC1, hC2, hC3, hC4, hC5, hC6, hC7⟩ := id hC
  have hlb5 := hlb
  unfold g_life at hlb5
  have hdI2 : ∀ k : Nat, ¬ g_sV k → I2 k = I2 k := fun _ _ => rfl
  refine g_aldn hc dX11_behind_0 rfl ?_
  refine g_getRk hc lk_X11_18 ca_683 (rc_683_0 hR) dX11_behind_1 ?_
  refine g_getRvk hc lk_X11_22 ca_548 (rc_548_3 hR) dX11_behind_4 ?_
  refine g_iload_n hc dX11_behind_7 rfl ?_
  refine g_iload_n hc dX11_behind_8 rfl ?_
  refine g_V2r hc (c_X4_hasBranch w hR hxI2 hlb (by first | exact hI _ _ | exact hxI2 _ _ | exact hIa _ _ | exact hIb _ _ | exact g_b32 | exact g_and32 | assumption | exact ⟨by omega, by omega⟩) (by first | exact hI _ _ | exact hxI2 _ _ | exact hIa _ _ | exact hIb _ _ | exact g_b32 | exact g_and32 | assumption | exact ⟨by omega, by omega⟩) (by first | omega | (rw [hsI2 _ (g_nl hlb (by omega) (by omega))]; omega))) my_X4_hasBranch mv_X4_hasBranch (la_0 hlb) rfl rfl lm_X11_54 rfl (by decide) (Nat.le_of_ble_eq_true rfl) hm dX11_behind_9 ?_
  rw [show I2 lb 1 = I lb 1 from by rw [hsI2 _ (g_nl hlb (by omega) (by omega))]]
  rw [show I2 (lb + 43) f = I (lb + 43) f from by rw [hsI2 _ (g_nl hlb (by omega) (by omega))]]
  refine g_ifb_ne (tgt := 17) hc dX11_behind_12 (by decide)  (fun c1 => ?_) (fun c1 => ?_)
  · skip
    have hin := c1
    obtain ⟨hk2, -, -, hit⟩ := hLf f hin.1.1 hin.1.2
    obtain ⟨-, -, -, -, -, ht⟩ := hit r hin.2.1 hin.2.2
    refine g_aldn hc dX11_behind_17 rfl ?_
    refine g_getRk hc lk_X11_18 ca_683 (rc_683_0 hR) dX11_behind_18 ?_
    refine g_getRvk hc lk_X11_22 ca_548 (rc_548_3 hR) dX11_behind_21 ?_
    refine g_iload_n hc dX11_behind_24 rfl ?_
    refine g_iload_n hc dX11_behind_25 rfl ?_
    refine g_V2r hc (c_X4_target w hR hxI2 hlb (by omega) (by omega)) my_X4_target mv_X4_target (la_0 hlb) rfl rfl lm_X11_58 rfl (by decide) (Nat.le_of_ble_eq_true rfl) hm dX11_behind_26 ?_
    rw [show I2 (lb + 127) (f * 4 + r) = I (lb + 127) (f * 4 + r) from by rw [hsI2 _ (g_nl hlb (by omega) (by omega))]]
    refine g_istore_3 hc dX11_behind_29 rfl ?_
    refine g_iload_n hc dX11_behind_30 rfl ?_
    refine g_bipush hc dX11_behind_31 (by decide +kernel) ?_
    refine g_icmp_lt (tgt := 48) hc dX11_behind_33 (by decide) (by first | exact hI _ _ | exact hxI2 _ _ | exact hIa _ _ | exact hIb _ _ | exact g_b32 | exact g_and32 | assumption | exact ⟨by omega, by omega⟩) (by first | exact hI _ _ | exact hxI2 _ _ | exact hIa _ _ | exact hIb _ _ | exact g_b32 | exact g_and32 | assumption | exact ⟨by omega, by omega⟩) (fun c2 => ?_) (fun c2 => ?_)
    · skip
      refine g_aldn hc dX11_behind_48 rfl ?_
      refine g_getRk hc lk_X11_9 ca_683 (rc_683_1 hR) dX11_behind_49 ?_
      refine g_iload_n hc dX11_behind_52 rfl ?_
      refine g_iald hc ca_684 (by decide) (by omega) (by omega) dX11_behind_53 ?_
      refine g_iret hc hm dX11_behind_54 ?_
      first | (exfalso; omega) | exact g_postE (by rw [g_bhd, if_pos hin, if_pos (by omega), (hVI2.2 ((I (lb + 127) (f * 4 + r)) - 100) (by omega) (by omega)).1]) | exact g_postE (by rw [g_bhd, if_pos hin, if_neg (by omega), (hVI2.1 (I (lb + 127) (f * 4 + r)) (by omega) (by omega)).1])
    · skip
      refine g_aldn hc dX11_behind_36 rfl ?_
      refine g_getRk hc lk_X11_15 ca_683 (rc_683_2 hR) dX11_behind_37 ?_
      refine g_iload_n hc dX11_behind_40 rfl ?_
      refine g_bipush hc dX11_behind_41 (by decide +kernel) ?_
      refine g_isub hc dX11_behind_43 ?_
      refine g_iald hc ca_685 (by decide) (by omega) (by omega) dX11_behind_44 ?_
      refine g_goto (tgt := 54) hc dX11_behind_45 (by decide) ?_
      refine g_iret hc hm dX11_behind_54 ?_
      first | (exfalso; omega) | exact g_postE (by rw [g_bhd, if_pos hin, if_pos (by omega), (hVI2.2 ((I (lb + 127) (f * 4 + r)) - 100) (by omega) (by omega)).1]) | exact g_postE (by rw [g_bhd, if_pos hin, if_neg (by omega), (hVI2.1 (I (lb + 127) (f * 4 + r)) (by omega) (by omega)).1])
  · skip
    refine g_iconst hc dX11_behind_15 ?_
    refine g_iret hc hm dX11_behind_16 ?_
    exact g_postE (by rw [g_bhd, if_neg (by assumption)])
set_option maxHeartbeats 4000000 in
set_option maxRecDepth 100000 in
/-- X11_bestBranch -/
theorem c_X11_bestBranch (w : g_W) {I : g_I} {J : g_J} {R : g_R} {lb tx : Nat} (hR : g_rf w R lb tx) (hlb : g_life lb) {I2 : g_I} (hI : ∀ k j, g32 (I k j)) (hsI2 : g_off I I2) (hxI2 : ∀ k j, g32 (I2 k j)) (hC : g_cin I lb) {lo : Int} (hVI2 : g_vok I lb I2 lo) {f : Int} (h1 : 0 ≤ f ∧ f < I lb 1) (h2 : lo ≤ f + 1) : g_Met w g_n I2 J R yX11_bestBranch cX11_bestBranch 4 (some .int) 3 0 0 [(gvr w 683), (gvI f)] (g_post (some (gvI (g_bst I lb (g_w5 I lb) f))) g_n I2 J R) := by
  refine g_intro (own := RX11) [some (gvr w 683), some (gvI f), none, none] (by decide +kernel) rfl (by decide) (Nat.le_of_ble_eq_true rfl) rfl (fun i v hv => g_args 2 i v hv rfl) (fun x hc hm => ?_)
  have hL := hC.1
  obtain ⟨hn0, hn1, hLs, hLf⟩ := id hL
  obtain ⟨-, hC1, hC2, hC3, hC4, hC5, hC6, hC7⟩ := id hC
  have hlb5 := hlb
  unfold g_life at hlb5
  have hdI2 : ∀ k : Nat, ¬ g_sV k → I2 k = I2 k := fun _ _ => rfl
  obtain ⟨hk2, hk1, hy, hit⟩ := hLf f h1.1 h1.2
  refine g_iconst hc dX11_bestBranch_0 ?_
  refine g_istore_2 hc dX11_bestBranch_1 rfl ?_
  refine g_iconst hc dX11_bestBranch_2 ?_
  refine g_istore_3 hc dX11_bestBranch_3 rfl ?_
  have lp_4 : ∀ (fu : Nat) (a i : Int), 0 ≤ i ∧ i ≤ I (lb + 43) f → a = g_bsn I lb (g_w5 I lb) f i.toNat → I (lb + 43) f - i < (fu : Int) → G w x (g_post (some (gvI (g_bst I lb (g_w5 I lb) f))) g_n I2 J R) 0 0 g_n I2 J R 4 [some (gvr w 683), some (gvI f), some (gvI a), some (gvI i)] [] := by
    intro fu
    induction fu with
    | zero => intro a i h3 h4 hfu; exfalso; omega
    | succ fu ih =>
      intro a i h3 h4 hfu
      have hbi := g_bsn_in (I := I) (b := lb) (f := f) (W5 := g_w5 I lb) i.toNat
      have hba := g_bhd_in (f := f) hL hVI2 h2 a
      have hbb := g_bhd_in (f := f) hL hVI2 h2 i
      have ih_4 := ih
      refine g_iload_n hc dX11_bestBranch_4 rfl ?_
      refine g_aldn hc dX11_bestBranch_5 rfl ?_
      refine g_getRk hc lk_X11_18 ca_683 (rc_683_0 hR) dX11_bestBranch_6 ?_
      refine g_getRvk hc lk_X11_22 ca_548 (rc_548_3 hR) dX11_bestBranch_9 ?_
      refine g_getRk hc lk_X11_61 (la_0 hlb) (rl_8 hR hlb) dX11_bestBranch_12 ?_
      refine g_iload_n hc dX11_bestBranch_15 rfl ?_
      refine g_ialde hc (la_43 hlb) (by decide) (by omega) (by omega) (congrFun (hsI2 _ (by omega)) _) dX11_bestBranch_16 ?_
      refine g_icmp_ge (tgt := 60) hc dX11_bestBranch_17 (by decide) (by first | exact hI _ _ | exact hxI2 _ _ | exact hIa _ _ | exact hIb _ _ | exact g_b32 | exact g_and32 | assumption | exact ⟨by omega, by omega⟩) (by first | exact hI _ _ | exact hxI2 _ _ | exact hIa _ _ | exact hIb _ _ | exact g_b32 | exact g_and32 | assumption | exact ⟨by omega, by omega⟩) (fun c1 => ?_) (fun c1 => ?_)
      · skip
        refine g_iload_n hc dX11_bestBranch_60 rfl ?_
        refine g_iret hc hm dX11_bestBranch_61 ?_
        exact g_postE (by rw [g_bst, h4, show I (lb + 43) f = i by omega])
      · skip
        refine g_aldn hc dX11_bestBranch_20 rfl ?_
        refine g_getRk hc lk_X11_18 ca_683 (rc_683_0 hR) dX11_bestBranch_21 ?_
        refine g_iload_n hc dX11_bestBranch_24 rfl ?_
        refine g_iload_n hc dX11_bestBranch_25 rfl ?_
        refine g_V2r hc (c_X7_isOpen w hR hxI2 (by omega)) my_X7_isOpen mv_X7_isOpen ca_548 rfl rfl lm_X11_64 rfl (by decide) (Nat.le_of_ble_eq_true rfl) hm dX11_bestBranch_26 ?_
        rw [show I2 550 (4 + f) = I 550 (4 + f) from by rw [hsI2 550 (by decide)]]
        refine g_ifb_eq (tgt := 54) hc dX11_bestBranch_29 (by decide)  (fun c2 => ?_) (fun c2 => ?_)
        · skip
          refine g_iinc_3 hc dX11_bestBranch_54 rfl ?_
          refine g_goto (tgt := 4) hc dX11_bestBranch_57 (by decide) ?_
          refine ih_4 _ _ ?_ ?_ ?_
          · omega
          · rw [g_bsn_i h3.1, ← h4]; first | rw [if_neg (fun z => absurd z.1 c2)] | rw [if_pos ⟨c2, Or.inl (by omega)⟩] | rw [if_pos ⟨c2, Or.inr (by omega)⟩] | rw [if_neg (fun z => by have := z.2; omega)]
          · omega
        · skip
          refine g_iload_n hc dX11_bestBranch_32 rfl ?_
          refine g_iconst hc dX11_bestBranch_33 ?_
          refine g_icmp_eq (tgt := 52) hc dX11_bestBranch_34 (by decide) (by first | exact hI _ _ | exact hxI2 _ _ | exact hIa _ _ | exact hIb _ _ | exact g_b32 | exact g_and32 | assumption | exact ⟨by omega, by omega⟩) (by first | exact hI _ _ | exact hxI2 _ _ | exact hIa _ _ | exact hIb _ _ | exact g_b32 | exact g_and32 | assumption | exact ⟨by omega, by omega⟩) (fun c3 => ?_) (fun c3 => ?_)
          · skip
            refine g_iload_n hc dX11_bestBranch_52 rfl ?_
            refine g_istore_2 hc dX11_bestBranch_53 rfl ?_
            refine g_iinc_3 hc dX11_bestBranch_54 rfl ?_
            refine g_goto (tgt := 4) hc dX11_bestBranch_57 (by decide) ?_
            refine ih_4 _ _ ?_ ?_ ?_
            · omega
            · rw [g_bsn_i h3.1, ← h4]; first | rw [if_neg (fun z => absurd z.1 c2)] | rw [if_pos ⟨c2, Or.inl (by omega)⟩] | rw [if_pos ⟨c2, Or.inr (by omega)⟩] | rw [if_neg (fun z => by have := z.2; omega)]
            · omega
          · skip
            refine g_aldn hc dX11_bestBranch_37 rfl ?_
            refine g_iload_n hc dX11_bestBranch_38 rfl ?_
            refine g_iload_n hc dX11_bestBranch_39 rfl ?_
            refine g_V2r hc (c_X11_behind w hR hlb hI hsI2 hxI2 hC hVI2 (by first | exact hI _ _ | exact hxI2 _ _ | exact hIa _ _ | exact hIb _ _ | exact g_b32 | exact g_and32 | assumption | exact ⟨by omega, by omega⟩) (by first | exact hI _ _ | exact hxI2 _ _ | exact hIa _ _ | exact hIb _ _ | exact g_b32 | exact g_and32 | assumption | exact ⟨by omega, by omega⟩) (by omega)) my_X11_behind mv_X11_behind ca_683 rfl rfl lm_X11_50 rfl (by decide) (Nat.le_of_ble_eq_true rfl) hm dX11_bestBranch_40 ?_
            refine g_aldn hc dX11_bestBranch_43 rfl ?_
            refine g_iload_n hc dX11_bestBranch_44 rfl ?_
            refine g_iload_n hc dX11_bestBranch_45 rfl ?_
            refine g_V2r hc (c_X11_behind w hR hlb hI hsI2 hxI2 hC hVI2 (by first | exact hI _ _ | exact hxI2 _ _ | exact hIa _ _ | exact hIb _ _ | exact g_b32 | exact g_and32 | assumption | exact ⟨by omega, by omega⟩) (by first | exact hI _ _ | exact hxI2 _ _ | exact hIa _ _ | exact hIb _ _ | exact g_b32 | exact g_and32 | assumption | exact ⟨by omega, by omega⟩) (by omega)) my_X11_behind mv_X11_behind ca_683 rfl rfl lm_X11_50 rfl (by decide) (Nat.le_of_ble_eq_true rfl) hm dX11_bestBranch_46 ?_
            refine g_icmp_le (tgt := 54) hc dX11_bestBranch_49 (by decide) (by exact ⟨by omega, by omega⟩) (by exact ⟨by omega, by omega⟩) (fun c4 => ?_) (fun c4 => ?_)
            · skip
              refine g_iinc_3 hc dX11_bestBranch_54 rfl ?_
              refine g_goto (tgt := 4) hc dX11_bestBranch_57 (by decide) ?_
              refine ih_4 _ _ ?_ ?_ ?_
              · omega
              · rw [g_bsn_i h3.1, ← h4]; first | rw [if_neg (fun z => absurd z.1 c2)] | rw [if_pos ⟨c2, Or.inl (by omega)⟩] | rw [if_pos ⟨c2, Or.inr (by omega)⟩] | rw [if_neg (fun z => by have := z.2; omega)]
              · omega
            · skip
              refine g_iload_n hc dX11_bestBranch_52 rfl ?_
              refine g_istore_2 hc dX11_bestBranch_53 rfl ?_
              refine g_iinc_3 hc dX11_bestBranch_54 rfl ?_
              refine g_goto (tgt := 4) hc dX11_bestBranch_57 (by decide) ?_
              refine ih_4 _ _ ?_ ?_ ?_
              · omega
              · rw [g_bsn_i h3.1, ← h4]; first | rw [if_neg (fun z => absurd z.1 c2)] | rw [if_pos ⟨c2, Or.inl (by omega)⟩] | rw [if_pos ⟨c2, Or.inr (by omega)⟩] | rw [if_neg (fun z => by have := z.2; omega)]
              · omega
  refine lp_4 (I (lb + 43) f + 1).toNat _ _ ?_ ?_ (?_)
  · omega
  · rfl
  · omega
set_option maxHeartbeats 4000000 in
set_option maxRecDepth 100000 in
/-- X11_byChance -/
theorem c_X11_byChance (w : g_W) {I : g_I} {J : g_J} {R : g_R} {lb tx : Nat} (hR : g_rf w R lb tx) (hlb : g_life lb) {I2 : g_I} (hI : ∀ k j, g32 (I k j)) (hsI2 : g_off I I2) (hxI2 : ∀ k j, g32 (I2 k j)) (hC : g_cin I lb) {lo : Int} (hVI2 : g_vok I lb I2 lo) {f : Int} (h1 : 0 ≤ f ∧ f < I lb 1) (h2 : lo ≤ f + 1) : g_Met w g_n I2 J R yX11_byChance cX11_byChance 5 (some .int) 3 0 0 [(gvr w 683), (gvI f)] (g_post (some (gvI (g_chv I lb (g_w5 I lb) f))) g_n I2 J R) := by
  refine g_intro (own := RX11) [some (gvr w 683), some (gvI f), none, none, none] (by decide +kernel) rfl (by decide) (Nat.le_of_ble_eq_true rfl) rfl (fun i v hv => g_args 3 i v hv rfl) (fun x hc hm => ?_)
  have hL := hC.1
  obtain ⟨hn0, hn1, hLs, hLf⟩ := id hL
  obtain ⟨-, hC1, hC2, hC3, hC4, hC5, hC6, hC7⟩ := id hC
  have hlb5 := hlb
  unfold g_life at hlb5
  have hdI2 : ∀ k : Nat, ¬ g_sV k → I2 k = I2 k := fun _ _ => rfl
  obtain ⟨hk2, hk1, hy, hit⟩ := hLf f h1.1 h1.2
  have hwin := g_wt_in (m := I 550 (4 + f)) (fun r h0 h1 => (hit r h0 h1).1) (I (lb + 43) f).toNat (by omega)
  refine g_lconst hc dX11_byChance_0 0 (by decide +kernel) ?_
  refine g_lstore_2 hc dX11_byChance_1 rfl ?_
  refine g_iconst hc dX11_byChance_2 ?_
  refine g_istore_4 hc dX11_byChance_3 rfl ?_
  have lp_5 : ∀ (fu : Nat) (a i : Int), 0 ≤ i ∧ i ≤ I (lb + 43) f → a = g_sum (fun r => if g_bit (I 550 (4 + f)) r then g_bhd I lb (g_w5 I lb) f r * I (lb + 47 + (f * 4 + r).toNat) 0 else 0) i.toNat → -(1000000000 * i) ≤ a ∧ a ≤ 1000000000 * i → I (lb + 43) f - i < (fu : Int) → G w x (g_post (some (gvI (g_chv I lb (g_w5 I lb) f))) g_n I2 J R) 0 0 g_n I2 J R 5 [some (gvr w 683), some (gvI f), some (gvL a), none, some (gvI i)] [] := by
    intro fu
    induction fu with
    | zero => intro a i h3 h4 h5 hfu; exfalso; omega
    | succ fu ih =>
      intro a i h3 h4 h5 hfu
      have hbb := g_bhd_in (f := f) hL hVI2 h2 i
      have ih_5 := ih
      refine g_iload hc dX11_byChance_5 rfl ?_
      refine g_aldn hc dX11_byChance_7 rfl ?_
      refine g_getRk hc lk_X11_18 ca_683 (rc_683_0 hR) dX11_byChance_8 ?_
      refine g_getRvk hc lk_X11_22 ca_548 (rc_548_3 hR) dX11_byChance_11 ?_
      refine g_getRk hc lk_X11_61 (la_0 hlb) (rl_8 hR hlb) dX11_byChance_14 ?_
      refine g_iload_n hc dX11_byChance_17 rfl ?_
      refine g_ialde hc (la_43 hlb) (by decide) (by omega) (by omega) (congrFun (hsI2 _ (by omega)) _) dX11_byChance_18 ?_
      refine g_icmp_ge (tgt := 67) hc dX11_byChance_19 (by decide) (by first | exact hI _ _ | exact hxI2 _ _ | exact hIa _ _ | exact hIb _ _ | exact g_b32 | exact g_and32 | assumption | exact ⟨by omega, by omega⟩) (by first | exact hI _ _ | exact hxI2 _ _ | exact hIa _ _ | exact hIb _ _ | exact g_b32 | exact g_and32 | assumption | exact ⟨by omega, by omega⟩) (fun c1 => ?_) (fun c1 => ?_)
      · skip
        refine g_aldn hc dX11_byChance_67 rfl ?_
        refine g_getRk hc lk_X11_18 ca_683 (rc_683_0 hR) dX11_byChance_68 ?_
        refine g_getRvk hc lk_X11_22 ca_548 (rc_548_3 hR) dX11_byChance_71 ?_
        refine g_iload_n hc dX11_byChance_74 rfl ?_
        refine g_aldn hc dX11_byChance_75 rfl ?_
        refine g_getRk hc lk_X11_18 ca_683 (rc_683_0 hR) dX11_byChance_76 ?_
        refine g_iload_n hc dX11_byChance_79 rfl ?_
        refine g_V1r hc (c_X7_openMask w hR hxI2 (by omega)) my_X7_openMask mv_X7_openMask ca_548 rfl rfl lm_X11_70 rfl (by decide) (Nat.le_of_ble_eq_true rfl) hm dX11_byChance_80 ?_
        rw [show I2 550 (4 + f) = I 550 (4 + f) from by rw [hsI2 550 (by decide)]]
        refine g_V2r hc (c_X4_weights w hR hxI2 hlb (by omega) (by first | omega | (rw [hsI2 _ (g_nl hlb (by omega) (by omega))]; omega))) my_X4_weights mv_X4_weights (la_0 hlb) rfl rfl lm_X11_73 rfl (by decide) (Nat.le_of_ble_eq_true rfl) hm dX11_byChance_83 ?_
        rw [show g_wt I2 lb f (I 550 (4 + f)) (I2 (lb + 43) f).toNat = g_wt I lb f (I 550 (4 + f)) (I (lb + 43) f).toNat from by rw [hsI2 _ (g_nl hlb (by omega) (by omega)), g_wt_cg hsI2 hlb (by omega) _ (by omega)]]
        refine g_istore_4 hc dX11_byChance_86 rfl ?_
        refine g_iload hc dX11_byChance_88 rfl ?_
        refine g_if_ne (tgt := 97) hc dX11_byChance_90 (by decide) (by exact ⟨by omega, by omega⟩) (fun c2 => ?_) (fun c2 => ?_)
        · skip
          refine g_lload_n hc dX11_byChance_97 rfl ?_
          refine g_iload hc dX11_byChance_98 rfl ?_
          refine g_i2l hc dX11_byChance_100 (by exact ⟨by omega, by omega⟩) ?_
          refine g_ldiv hc dX11_byChance_101 (by exact ⟨by omega, by omega⟩) (by exact ⟨by omega, by omega⟩) (by omega) ?_
          refine g_l2i hc dX11_byChance_102 ?_
          refine g_iret hc hm dX11_byChance_103 ?_
          first | (exfalso; omega) | exact g_postE (by rw [g_chv, if_pos (by assumption)]) | exact g_postE (by rw [g_chv, if_neg (by assumption), h4, show I (lb + 43) f = i by omega])
        · skip
          refine g_iconst hc dX11_byChance_93 ?_
          refine g_goto (tgt := 103) hc dX11_byChance_94 (by decide) ?_
          refine g_iret hc hm dX11_byChance_103 ?_
          first | (exfalso; omega) | exact g_postE (by rw [g_chv, if_pos (by assumption)]) | exact g_postE (by rw [g_chv, if_neg (by assumption), h4, show I (lb + 43) f = i by omega])
      · skip
        refine g_aldn hc dX11_byChance_22 rfl ?_
        refine g_getRk hc lk_X11_18 ca_683 (rc_683_0 hR) dX11_byChance_23 ?_
        refine g_iload_n hc dX11_byChance_26 rfl ?_
        refine g_iload hc dX11_byChance_27 rfl ?_
        refine g_V2r hc (c_X7_isOpen w hR hxI2 (by omega)) my_X7_isOpen mv_X7_isOpen ca_548 rfl rfl lm_X11_64 rfl (by decide) (Nat.le_of_ble_eq_true rfl) hm dX11_byChance_29 ?_
        rw [show I2 550 (4 + f) = I 550 (4 + f) from by rw [hsI2 550 (by decide)]]
        refine g_ifb_eq (tgt := 61) hc dX11_byChance_32 (by decide)  (fun c3 => ?_) (fun c3 => ?_)
        · skip
          refine g_iinc_4 hc dX11_byChance_61 rfl ?_
          refine g_goto (tgt := 5) hc dX11_byChance_64 (by decide) ?_
          refine ih_5 _ _ ?_ ?_ ?_ ?_
          · omega
          · rw [g_sum_i h3.1, h4]; first | rw [if_pos (by assumption)] | (rw [if_neg (by assumption)]; omega)
          · omega
          · omega
        · skip
          obtain ⟨hw9, -⟩ := hit i h3.1 (by omega)
          have hmb := g_mulb (a := g_bhd I lb (g_w5 I lb) f i) (b := I (lb + 47 + (f * 4 + i).toNat) 0) (m := 100030000) (n := 9) (by omega) (by omega)
          refine g_lload_n hc dX11_byChance_35 rfl ?_
          refine g_aldn hc dX11_byChance_36 rfl ?_
          refine g_iload_n hc dX11_byChance_37 rfl ?_
          refine g_iload hc dX11_byChance_38 rfl ?_
          refine g_V2r hc (c_X11_behind w hR hlb hI hsI2 hxI2 hC hVI2 (by first | exact hI _ _ | exact hxI2 _ _ | exact hIa _ _ | exact hIb _ _ | exact g_b32 | exact g_and32 | assumption | exact ⟨by omega, by omega⟩) (by first | exact hI _ _ | exact hxI2 _ _ | exact hIa _ _ | exact hIb _ _ | exact g_b32 | exact g_and32 | assumption | exact ⟨by omega, by omega⟩) (by omega)) my_X11_behind mv_X11_behind ca_683 rfl rfl lm_X11_50 rfl (by decide) (Nat.le_of_ble_eq_true rfl) hm dX11_byChance_40 ?_
          refine g_i2l hc dX11_byChance_43 (by exact ⟨by omega, by omega⟩) ?_
          refine g_aldn hc dX11_byChance_44 rfl ?_
          refine g_getRk hc lk_X11_18 ca_683 (rc_683_0 hR) dX11_byChance_45 ?_
          refine g_getRvk hc lk_X11_22 ca_548 (rc_548_3 hR) dX11_byChance_48 ?_
          refine g_iload_n hc dX11_byChance_51 rfl ?_
          refine g_iload hc dX11_byChance_52 rfl ?_
          refine g_V2r hc (c_X4_weight w hR hxI2 hlb (by omega) (by omega)) my_X4_weight mv_X4_weight (la_0 hlb) rfl rfl lm_X11_67 rfl (by decide) (Nat.le_of_ble_eq_true rfl) hm dX11_byChance_54 ?_
          rw [show I2 (lb + 47 + (f * 4 + i).toNat) 0 = I (lb + 47 + (f * 4 + i).toNat) 0 from by rw [hsI2 _ (g_nl hlb (by omega) (by omega))]]
          refine g_i2l hc dX11_byChance_57 (by exact ⟨by omega, by omega⟩) ?_
          refine g_lmul hc dX11_byChance_58 ?_
          refine g_ladd hc dX11_byChance_59 ?_
          refine g_lstore_2 hc dX11_byChance_60 rfl ?_
          refine g_iinc_4 hc dX11_byChance_61 rfl ?_
          refine g_goto (tgt := 5) hc dX11_byChance_64 (by decide) ?_
          refine ih_5 _ _ ?_ ?_ ?_ ?_
          · omega
          · rw [g_sum_i h3.1, h4]; first | rw [if_pos (by assumption)] | (rw [if_neg (by assumption)]; omega)
          · omega
          · omega
  refine lp_5 (I (lb + 43) f + 1).toNat _ _ ?_ ?_ ?_ (?_)
  · omega
  · rfl
  · omega
  · omega
set_option maxHeartbeats 4000000 in
set_option maxRecDepth 100000 in
/-- X11_regretAt -/
theorem c_X11_regretAt (w : g_W) {I : g_I} {J : g_J} {R : g_R} {lb tx : Nat} (hR : g_rf w R lb tx) (hlb : g_life lb) {I2 : g_I} (hI : ∀ k j, g32 (I k j)) (hsI2 : g_off I I2) (hxI2 : ∀ k j, g32 (I2 k j)) (hC : g_cin I lb) (hVI2 : g_vok I lb I2 0) {s i : Int} (h1 : 0 ≤ s ∧ s < I lb 0) (h2 : 0 ≤ i ∧ i < I (lb + 14) s) : g_Met w g_n I2 J R yX11_regretAt cX11_regretAt 4 (some .int) 3 0 0 [(gvr w 683), (gvI s), (gvI i)] (g_post (some (gvI (g_rgt I lb s i))) g_n I2 J R) := by
  refine g_intro (own := RX11) [some (gvr w 683), some (gvI s), some (gvI i), none] (by decide +kernel) rfl (by decide) (Nat.le_of_ble_eq_true rfl) rfl (fun i v hv => g_args 1 i v hv rfl) (fun x hc hm => ?_)
  have hL := hC.1
  obtain ⟨hn0, hn1, hLs, hLf⟩ := id hL
  obtain ⟨-, hC1, hC2, hC3, hC4, hC5, hC6, hC7⟩ := id hC
  have hlb5 := hlb
  unfold g_life at hlb5
  have hdI2 : ∀ k : Nat, ¬ g_sV k → I2 k = I2 k := fun _ _ => rfl
  obtain ⟨hst, hway⟩ := g_lok_s hL h1
  have hwy := hway i h2.1 h2.2
  have hbb := g_bhd_in (f := (I (lb + 16 + s.toNat) i)) hL hVI2 (by omega) (I (lb + 29 + s.toNat) i)
  obtain ⟨hk2, hk1, hy, hit⟩ := hLf (I (lb + 16 + s.toNat) i) hwy.1.1 hwy.1.2
  obtain ⟨hv1, hv2⟩ := hVI2.2 (I (lb + 16 + s.toNat) i) (by omega) (by omega)
  refine g_aldn hc dX11_regretAt_0 rfl ?_
  refine g_getRk hc lk_X11_18 ca_683 (rc_683_0 hR) dX11_regretAt_1 ?_
  refine g_getRvk hc lk_X11_22 ca_548 (rc_548_3 hR) dX11_regretAt_4 ?_
  refine g_getRk hc lk_X11_76 (la_0 hlb) (rl_4 hR hlb) dX11_regretAt_7 ?_
  refine g_iload_n hc dX11_regretAt_10 rfl ?_
  refine g_aaldk hc (la_15 hlb) (by decide) rfl rfl (by decide) (by omega) (by omega) (rl_wf hR hlb (by omega) (by omega)) dX11_regretAt_11 ?_
  refine g_iload_n hc dX11_regretAt_12 rfl ?_
  refine g_ialde hc (la_wf hlb (by omega) (by omega)) (by decide) (by omega) (by omega) (congrFun (hsI2 _ (by omega)) _) dX11_regretAt_13 ?_
  refine g_istore_3 hc dX11_regretAt_14 rfl ?_
  refine g_aldn hc dX11_regretAt_15 rfl ?_
  refine g_getRk hc lk_X11_18 ca_683 (rc_683_0 hR) dX11_regretAt_16 ?_
  refine g_getRvk hc lk_X11_22 ca_548 (rc_548_3 hR) dX11_regretAt_19 ?_
  refine g_getRk hc lk_X11_41 (la_0 hlb) (rl_7 hR hlb) dX11_regretAt_22 ?_
  refine g_iload_n hc dX11_regretAt_25 rfl ?_
  refine g_ialde hc (la_42 hlb) (by decide) (by omega) (by omega) (congrFun (hsI2 _ (by omega)) _) dX11_regretAt_26 ?_
  refine g_iconst hc dX11_regretAt_27 ?_
  refine g_icmp_ne (tgt := 33) hc dX11_regretAt_28 (by decide) (by first | exact hI _ _ | exact hxI2 _ _ | exact hIa _ _ | exact hIb _ _ | exact g_b32 | exact g_and32 | assumption | exact ⟨by omega, by omega⟩) (by first | exact hI _ _ | exact hxI2 _ _ | exact hIa _ _ | exact hIb _ _ | exact g_b32 | exact g_and32 | assumption | exact ⟨by omega, by omega⟩) (fun c1 => ?_) (fun c1 => ?_)
  · skip
    refine g_iconst hc dX11_regretAt_33 ?_
    refine g_aldn hc dX11_regretAt_34 rfl ?_
    refine g_getRk hc lk_X11_15 ca_683 (rc_683_2 hR) dX11_regretAt_35 ?_
    refine g_iload_n hc dX11_regretAt_38 rfl ?_
    refine g_iald hc ca_685 (by decide) (by omega) (by omega) dX11_regretAt_39 ?_
    refine g_aldn hc dX11_regretAt_40 rfl ?_
    refine g_iload_n hc dX11_regretAt_41 rfl ?_
    refine g_aldn hc dX11_regretAt_42 rfl ?_
    refine g_getRk hc lk_X11_18 ca_683 (rc_683_0 hR) dX11_regretAt_43 ?_
    refine g_getRvk hc lk_X11_22 ca_548 (rc_548_3 hR) dX11_regretAt_46 ?_
    refine g_getRk hc lk_X11_80 (la_0 hlb) (rl_5 hR hlb) dX11_regretAt_49 ?_
    refine g_iload_n hc dX11_regretAt_52 rfl ?_
    refine g_aaldk hc (la_28 hlb) (by decide) rfl rfl (by decide) (by omega) (by omega) (rl_wb hR hlb (by omega) (by omega)) dX11_regretAt_53 ?_
    refine g_iload_n hc dX11_regretAt_54 rfl ?_
    refine g_ialde hc (la_wb hlb (by omega) (by omega)) (by decide) (by omega) (by omega) (congrFun (hsI2 _ (by omega)) _) dX11_regretAt_55 ?_
    refine g_V2r hc (c_X11_behind w hR hlb hI hsI2 hxI2 hC hVI2 (by first | exact hI _ _ | exact hxI2 _ _ | exact hIa _ _ | exact hIb _ _ | exact g_b32 | exact g_and32 | assumption | exact ⟨by omega, by omega⟩) (by first | exact hI _ _ | exact hxI2 _ _ | exact hIa _ _ | exact hIb _ _ | exact g_b32 | exact g_and32 | assumption | exact ⟨by omega, by omega⟩) (by omega)) my_X11_behind mv_X11_behind ca_683 rfl rfl lm_X11_50 rfl (by decide) (Nat.le_of_ble_eq_true rfl) hm dX11_regretAt_56 ?_
    refine g_isub hc dX11_regretAt_59 ?_
    refine g_mmaxI hc (by exact ⟨by omega, by omega⟩) (by exact ⟨by omega, by omega⟩) rfl mm_mmaxI_X11_83 mm_sta_mmaxI mm_ini mm_cod_mmaxI (by decide) (Nat.le_of_ble_eq_true rfl) hm dX11_regretAt_60 ?_
    refine g_iret hc hm dX11_regretAt_63 ?_
    exact g_postE (by rw [g_rgt, if_neg (by assumption), hv1])
  · skip
    refine g_iconst hc dX11_regretAt_31 ?_
    refine g_iret hc hm dX11_regretAt_32 ?_
    exact g_postE (by rw [g_rgt, if_pos (by assumption)])
theorem g_rgt_in {I I2 : g_I} {b : Nat} {s i : Int} (hL : g_lok I b) (hv : g_vok I b I2 0) (h1 : 0 ≤ s ∧ s < I b 0) (h2 : 0 ≤ i ∧ i < I (b + 14) s) : 0 ≤ g_rgt I b s i ∧ g_rgt I b s i ≤ 200060000 := by
  obtain ⟨hst, hway⟩ := g_lok_s hL h1
  have hwy := hway i h2.1 h2.2
  have hbb := g_bhd_in (f := I (b + 16 + s.toNat) i) hL hv (by omega) (I (b + 29 + s.toNat) i)
  obtain ⟨hv1, hv2⟩ := hv.2 (I (b + 16 + s.toNat) i) (by omega) (by omega)
  rw [hv1] at hv2
  unfold g_rgt
  split <;> omega
set_option maxHeartbeats 4000000 in
set_option maxRecDepth 100000 in
/-- X11_regrets -/
theorem c_X11_regrets (w : g_W) {I : g_I} {J : g_J} {R : g_R} {lb tx : Nat} (hR : g_rf w R lb tx) (hlb : g_life lb) {I2 : g_I} (hI : ∀ k j, g32 (I k j)) (hsI2 : g_off I I2) (hxI2 : ∀ k j, g32 (I2 k j)) (hC : g_cin I lb) (hVI2 : g_vok I lb I2 0) {s : Int} (h1 : 0 ≤ s ∧ s < I lb 0) : g_Met w g_n I2 J R yX11_regrets cX11_regrets 4 (some .int) 4 0 0 [(gvr w 683), (gvI s)] (g_post (some (gvI (g_rgs I lb s))) g_n I2 J R) := by
  refine g_intro (own := RX11) [some (gvr w 683), some (gvI s), none, none] (by decide +kernel) rfl (by decide) (Nat.le_of_ble_eq_true rfl) rfl (fun i v hv => g_args 2 i v hv rfl) (fun x hc hm => ?_)
  have hL := hC.1
  obtain ⟨hn0, hn1, hLs, hLf⟩ := id hL
  obtain ⟨-, hC1, hC2, hC3, hC4, hC5, hC6, hC7⟩ := id hC
  have hlb5 := hlb
  unfold g_life at hlb5
  have hdI2 : ∀ k : Nat, ¬ g_sV k → I2 k = I2 k := fun _ _ => rfl
  obtain ⟨hst, hway⟩ := g_lok_s hL h1
  refine g_iconst hc dX11_regrets_0 ?_
  refine g_istore_2 hc dX11_regrets_1 rfl ?_
  refine g_iconst hc dX11_regrets_2 ?_
  refine g_istore_3 hc dX11_regrets_3 rfl ?_
  have lp_4 : ∀ (fu : Nat) (a i : Int), 0 ≤ i ∧ i ≤ I (lb + 14) s → a = g_sum (fun i => g_rgt I lb s i) i.toNat → I (lb + 14) s - i < (fu : Int) → G w x (g_post (some (gvI (g_rgs I lb s))) g_n I2 J R) 0 0 g_n I2 J R 4 [some (gvr w 683), some (gvI s), some (gvI a), some (gvI i)] [] := by
    intro fu
    induction fu with
    | zero => intro a i h3 h4 hfu; exfalso; omega
    | succ fu ih =>
      intro a i h3 h4 hfu
      have ih_4 := ih
      refine g_iload_n hc dX11_regrets_4 rfl ?_
      refine g_aldn hc dX11_regrets_5 rfl ?_
      refine g_getRk hc lk_X11_18 ca_683 (rc_683_0 hR) dX11_regrets_6 ?_
      refine g_getRvk hc lk_X11_22 ca_548 (rc_548_3 hR) dX11_regrets_9 ?_
      refine g_getRk hc lk_X11_88 (la_0 hlb) (rl_3 hR hlb) dX11_regrets_12 ?_
      refine g_iload_n hc dX11_regrets_15 rfl ?_
      refine g_ialde hc (la_14 hlb) (by decide) (by omega) (by omega) (congrFun (hsI2 _ (by omega)) _) dX11_regrets_16 ?_
      refine g_icmp_ge (tgt := 35) hc dX11_regrets_17 (by decide) (by first | exact hI _ _ | exact hxI2 _ _ | exact hIa _ _ | exact hIb _ _ | exact g_b32 | exact g_and32 | assumption | exact ⟨by omega, by omega⟩) (by first | exact hI _ _ | exact hxI2 _ _ | exact hIa _ _ | exact hIb _ _ | exact g_b32 | exact g_and32 | assumption | exact ⟨by omega, by omega⟩) (fun c1 => ?_) (fun c1 => ?_)
      · skip
        refine g_iload_n hc dX11_regrets_35 rfl ?_
        refine g_iret hc hm dX11_regrets_36 ?_
        exact g_postE (by rw [g_rgs, h4, show I (lb + 14) s = i by omega])
      · skip
        refine g_iload_n hc dX11_regrets_20 rfl ?_
        refine g_aldn hc dX11_regrets_21 rfl ?_
        refine g_iload_n hc dX11_regrets_22 rfl ?_
        refine g_iload_n hc dX11_regrets_23 rfl ?_
        refine g_V2r hc (c_X11_regretAt w hR hlb hI hsI2 hxI2 hC hVI2 (by omega) (by omega)) my_X11_regretAt mv_X11_regretAt ca_683 rfl rfl lm_X11_91 rfl (by decide) (Nat.le_of_ble_eq_true rfl) hm dX11_regrets_24 ?_
        refine g_iadd hc dX11_regrets_27 ?_
        refine g_istore_2 hc dX11_regrets_28 rfl ?_
        refine g_iinc_3 hc dX11_regrets_29 rfl ?_
        refine g_goto (tgt := 4) hc dX11_regrets_32 (by decide) ?_
        refine ih_4 _ _ ?_ ?_ ?_
        · omega
        · rw [g_sum_i h3.1, h4]
        · omega
  refine lp_4 (I (lb + 14) s + 1).toNat _ _ ?_ ?_ (?_)
  · omega
  · rfl
  · omega
set_option maxHeartbeats 4000000 in
set_option maxRecDepth 100000 in
/-- X11_sorest -/
theorem c_X11_sorest (w : g_W) {I : g_I} {J : g_J} {R : g_R} {lb tx : Nat} (hR : g_rf w R lb tx) (hlb : g_life lb) {I2 : g_I} (hI : ∀ k j, g32 (I k j)) (hsI2 : g_off I I2) (hxI2 : ∀ k j, g32 (I2 k j)) (hC : g_cin I lb) (hVI2 : g_vok I lb I2 0) {s : Int} (h1 : 0 ≤ s ∧ s < I lb 0) : g_Met w g_n I2 J R yX11_sorest cX11_sorest 4 (some .int) 4 0 0 [(gvr w 683), (gvI s)] (g_post (some (gvI (g_sor I lb s))) g_n I2 J R) := by
  refine g_intro (own := RX11) [some (gvr w 683), some (gvI s), none, none] (by decide +kernel) rfl (by decide) (Nat.le_of_ble_eq_true rfl) rfl (fun i v hv => g_args 2 i v hv rfl) (fun x hc hm => ?_)
  have hL := hC.1
  obtain ⟨hn0, hn1, hLs, hLf⟩ := id hL
  obtain ⟨-, hC1, hC2, hC3, hC4, hC5, hC6, hC7⟩ := id hC
  have hlb5 := hlb
  unfold g_life at hlb5
  have hdI2 : ∀ k : Nat, ¬ g_sV k → I2 k = I2 k := fun _ _ => rfl
  obtain ⟨hst, hway⟩ := g_lok_s hL h1
  refine g_iconst hc dX11_sorest_0 ?_
  refine g_istore_2 hc dX11_sorest_1 rfl ?_
  refine g_iconst hc dX11_sorest_2 ?_
  refine g_istore_3 hc dX11_sorest_3 rfl ?_
  have lp_4 : ∀ (fu : Nat) (a i : Int), 0 ≤ i ∧ i ≤ I (lb + 14) s → a = g_srn I lb s i.toNat → -1 ≤ a ∧ a < i ∨ a = -1 → I (lb + 14) s - i < (fu : Int) → G w x (g_post (some (gvI (g_sor I lb s))) g_n I2 J R) 0 0 g_n I2 J R 4 [some (gvr w 683), some (gvI s), some (gvI a), some (gvI i)] [] := by
    intro fu
    induction fu with
    | zero => intro a i h3 h4 h5 hfu; exfalso; omega
    | succ fu ih =>
      intro a i h3 h4 h5 hfu
      have ih_4 := ih
      refine g_iload_n hc dX11_sorest_4 rfl ?_
      refine g_aldn hc dX11_sorest_5 rfl ?_
      refine g_getRk hc lk_X11_18 ca_683 (rc_683_0 hR) dX11_sorest_6 ?_
      refine g_getRvk hc lk_X11_22 ca_548 (rc_548_3 hR) dX11_sorest_9 ?_
      refine g_getRk hc lk_X11_88 (la_0 hlb) (rl_3 hR hlb) dX11_sorest_12 ?_
      refine g_iload_n hc dX11_sorest_15 rfl ?_
      refine g_ialde hc (la_14 hlb) (by decide) (by omega) (by omega) (congrFun (hsI2 _ (by omega)) _) dX11_sorest_16 ?_
      refine g_icmp_ge (tgt := 48) hc dX11_sorest_17 (by decide) (by first | exact hI _ _ | exact hxI2 _ _ | exact hIa _ _ | exact hIb _ _ | exact g_b32 | exact g_and32 | assumption | exact ⟨by omega, by omega⟩) (by first | exact hI _ _ | exact hxI2 _ _ | exact hIa _ _ | exact hIb _ _ | exact g_b32 | exact g_and32 | assumption | exact ⟨by omega, by omega⟩) (fun c1 => ?_) (fun c1 => ?_)
      · skip
        refine g_iload_n hc dX11_sorest_48 rfl ?_
        refine g_iconst hc dX11_sorest_49 ?_
        refine g_icmp_ne (tgt := 57) hc dX11_sorest_50 (by decide) (by first | exact hI _ _ | exact hxI2 _ _ | exact hIa _ _ | exact hIb _ _ | exact g_b32 | exact g_and32 | assumption | exact ⟨by omega, by omega⟩) (by first | exact hI _ _ | exact hxI2 _ _ | exact hIa _ _ | exact hIb _ _ | exact g_b32 | exact g_and32 | assumption | exact ⟨by omega, by omega⟩) (fun c2 => ?_) (fun c2 => ?_)
        · skip
          refine g_aldn hc dX11_sorest_57 rfl ?_
          refine g_getRk hc lk_X11_18 ca_683 (rc_683_0 hR) dX11_sorest_58 ?_
          refine g_getRvk hc lk_X11_22 ca_548 (rc_548_3 hR) dX11_sorest_61 ?_
          refine g_getRk hc lk_X11_76 (la_0 hlb) (rl_4 hR hlb) dX11_sorest_64 ?_
          refine g_iload_n hc dX11_sorest_67 rfl ?_
          refine g_aaldk hc (la_15 hlb) (by decide) rfl rfl (by decide) (by omega) (by omega) (rl_wf hR hlb (by omega) (by omega)) dX11_sorest_68 ?_
          refine g_iload_n hc dX11_sorest_69 rfl ?_
          refine g_ialde hc (la_wf hlb (by omega) (by omega)) (by decide) (by omega) (by omega) (congrFun (hsI2 _ (by omega)) _) dX11_sorest_70 ?_
          refine g_iret hc hm dX11_sorest_71 ?_
          have hE : g_srn I lb s (I (lb + 14) s).toNat = a := by rw [h4, show I (lb + 14) s = i by omega]
          first | exact g_postE (by rw [g_sor, hE, if_pos (by assumption)]) | exact g_postE (by rw [g_sor, hE, if_neg (by assumption)])
        · skip
          refine g_iconst hc dX11_sorest_53 ?_
          refine g_goto (tgt := 71) hc dX11_sorest_54 (by decide) ?_
          refine g_iret hc hm dX11_sorest_71 ?_
          have hE : g_srn I lb s (I (lb + 14) s).toNat = a := by rw [h4, show I (lb + 14) s = i by omega]
          first | exact g_postE (by rw [g_sor, hE, if_pos (by assumption)]) | exact g_postE (by rw [g_sor, hE, if_neg (by assumption)])
      · skip
        refine g_iload_n hc dX11_sorest_20 rfl ?_
        refine g_iconst hc dX11_sorest_21 ?_
        refine g_icmp_eq (tgt := 40) hc dX11_sorest_22 (by decide) (by first | exact hI _ _ | exact hxI2 _ _ | exact hIa _ _ | exact hIb _ _ | exact g_b32 | exact g_and32 | assumption | exact ⟨by omega, by omega⟩) (by first | exact hI _ _ | exact hxI2 _ _ | exact hIa _ _ | exact hIb _ _ | exact g_b32 | exact g_and32 | assumption | exact ⟨by omega, by omega⟩) (fun c3 => ?_) (fun c3 => ?_)
        · skip
          refine g_iload_n hc dX11_sorest_40 rfl ?_
          refine g_istore_2 hc dX11_sorest_41 rfl ?_
          refine g_iinc_3 hc dX11_sorest_42 rfl ?_
          refine g_goto (tgt := 4) hc dX11_sorest_45 (by decide) ?_
          refine ih_4 _ _ ?_ ?_ ?_ ?_
          · omega
          · rw [g_srn_i h3.1, ← h4]; first | rw [if_pos (Or.inl (by assumption))] | rw [if_pos (Or.inr (by omega))] | rw [if_neg (fun z => by omega)]
          · omega
          · omega
        · skip
          have hga := g_rgt_in hL hVI2 h1 (i := a) (by omega)
          have hgi := g_rgt_in hL hVI2 h1 (i := i) (by omega)
          refine g_aldn hc dX11_sorest_25 rfl ?_
          refine g_iload_n hc dX11_sorest_26 rfl ?_
          refine g_iload_n hc dX11_sorest_27 rfl ?_
          refine g_V2r hc (c_X11_regretAt w hR hlb hI hsI2 hxI2 hC hVI2 (by omega) (by omega)) my_X11_regretAt mv_X11_regretAt ca_683 rfl rfl lm_X11_91 rfl (by decide) (Nat.le_of_ble_eq_true rfl) hm dX11_sorest_28 ?_
          refine g_aldn hc dX11_sorest_31 rfl ?_
          refine g_iload_n hc dX11_sorest_32 rfl ?_
          refine g_iload_n hc dX11_sorest_33 rfl ?_
          refine g_V2r hc (c_X11_regretAt w hR hlb hI hsI2 hxI2 hC hVI2 (by omega) (by omega)) my_X11_regretAt mv_X11_regretAt ca_683 rfl rfl lm_X11_91 rfl (by decide) (Nat.le_of_ble_eq_true rfl) hm dX11_sorest_34 ?_
          refine g_icmp_le (tgt := 42) hc dX11_sorest_37 (by decide) (by exact ⟨by omega, by omega⟩) (by exact ⟨by omega, by omega⟩) (fun c4 => ?_) (fun c4 => ?_)
          · skip
            refine g_iinc_3 hc dX11_sorest_42 rfl ?_
            refine g_goto (tgt := 4) hc dX11_sorest_45 (by decide) ?_
            refine ih_4 _ _ ?_ ?_ ?_ ?_
            · omega
            · rw [g_srn_i h3.1, ← h4]; first | rw [if_pos (Or.inl (by assumption))] | rw [if_pos (Or.inr (by omega))] | rw [if_neg (fun z => by omega)]
            · omega
            · omega
          · skip
            refine g_iload_n hc dX11_sorest_40 rfl ?_
            refine g_istore_2 hc dX11_sorest_41 rfl ?_
            refine g_iinc_3 hc dX11_sorest_42 rfl ?_
            refine g_goto (tgt := 4) hc dX11_sorest_45 (by decide) ?_
            refine ih_4 _ _ ?_ ?_ ?_ ?_
            · omega
            · rw [g_srn_i h3.1, ← h4]; first | rw [if_pos (Or.inl (by assumption))] | rw [if_pos (Or.inr (by omega))] | rw [if_neg (fun z => by omega)]
            · omega
            · omega
  refine lp_4 (I (lb + 14) s + 1).toNat _ _ ?_ ?_ ?_ (?_)
  · omega
  · rfl
  · omega
  · omega
set_option maxHeartbeats 4000000 in
set_option maxRecDepth 100000 in
/-- X11_lead -/
theorem c_X11_lead (w : g_W) {I : g_I} {J : g_J} {R : g_R} {lb tx : Nat} (hR : g_rf w R lb tx) (hlb : g_life lb) {I2 : g_I} (hI : ∀ k j, g32 (I k j)) (hsI2 : g_off I I2) (hxI2 : ∀ k j, g32 (I2 k j)) (hC : g_cin I lb) (hVI2 : g_vok I lb I2 0) {s t : Int} (h1 : 0 ≤ s ∧ s < I lb 0) (h2 : 0 ≤ t ∧ t < I lb 0) (h7 : 0 < I lb 1) : g_Met w g_n I2 J R yX11_lead cX11_lead 6 (some .int) 3 0 0 [(gvr w 683), (gvI s), (gvI t)] (g_post (some (gvI (g_apo I lb s t))) g_n I2 J R) := by
  refine g_intro (own := RX11) [some (gvr w 683), some (gvI s), some (gvI t), none, none, none] (by decide +kernel) rfl (by decide) (Nat.le_of_ble_eq_true rfl) rfl (fun i v hv => g_args 3 i v hv rfl) (fun x hc hm => ?_)
  have hL := hC.1
  obtain ⟨hn0, hn1, hLs, hLf⟩ := id hL
  obtain ⟨-, hC1, hC2, hC3, hC4, hC5, hC6, hC7⟩ := id hC
  have hlb5 := hlb
  unfold g_life at hlb5
  have hdI2 : ∀ k : Nat, ¬ g_sV k → I2 k = I2 k := fun _ _ => rfl
  obtain ⟨hst, hway⟩ := g_lok_s hL h1
  obtain ⟨hst2, hway2⟩ := g_lok_s hL h2
  have hpt := g_prn_in (I := I) (b := lb) (s := s) (t := t) (m := I lb 1) h7 (min (I (lb + 14) s) (I (lb + 14) t)).toNat (fun i h0 h1 => (hway i h0 (by omega)).1)
  change 0 ≤ g_prt I lb s t ∧ g_prt I lb s t < I lb 1 at hpt
  have hsp := g_first_in (p := fun i => I (lb + 16 + s.toNat) i == (g_prt I lb s t)) (I (lb + 14) s).toNat 0 (by omega)
  change (g_stp I lb s (g_prt I lb s t)) = -1 ∨ (0 ≤ (g_stp I lb s (g_prt I lb s t)) ∧ (g_stp I lb s (g_prt I lb s t)) < 0 + _ ∧ _) at hsp
  refine g_aldn hc dX11_lead_0 rfl ?_
  refine g_getRk hc lk_X11_18 ca_683 (rc_683_0 hR) dX11_lead_1 ?_
  refine g_getRvk hc lk_X11_22 ca_548 (rc_548_3 hR) dX11_lead_4 ?_
  refine g_astore_3 hc dX11_lead_7 rfl ?_
  refine g_aldn hc dX11_lead_8 rfl ?_
  refine g_iload_n hc dX11_lead_9 rfl ?_
  refine g_iload_n hc dX11_lead_10 rfl ?_
  refine g_V2r hc (c_X4_parting w hR hxI2 hlb (by omega) (by omega) (by first | omega | (rw [hsI2 _ (g_nl hlb (by omega) (by omega))]; omega)) (by first | omega | (rw [hsI2 _ (g_nl hlb (by omega) (by omega))]; omega))) my_X4_parting mv_X4_parting (la_0 hlb) rfl rfl lm_X11_94 rfl (by decide) (Nat.le_of_ble_eq_true rfl) hm dX11_lead_11 ?_
  rw [show g_prt I2 lb s t = g_prt I lb s t from g_prt_cg hsI2 hlb (by omega) (by omega)]
  refine g_istore_4 hc dX11_lead_14 rfl ?_
  refine g_aldn hc dX11_lead_16 rfl ?_
  refine g_iload_n hc dX11_lead_17 rfl ?_
  refine g_iload hc dX11_lead_18 rfl ?_
  refine g_V2r hc (c_X4_stepAt w hR hxI2 hlb (by omega) (by first | omega | (rw [hsI2 _ (g_nl hlb (by omega) (by omega))]; omega)) (by first | exact hI _ _ | exact hxI2 _ _ | exact hIa _ _ | exact hIb _ _ | exact g_b32 | exact g_and32 | assumption | exact ⟨by omega, by omega⟩)) my_X4_stepAt mv_X4_stepAt (la_0 hlb) rfl rfl lm_X11_97 rfl (by decide) (Nat.le_of_ble_eq_true rfl) hm dX11_lead_20 ?_
  rw [show g_stp I2 lb s (g_prt I lb s t) = g_stp I lb s (g_prt I lb s t) from g_stp_cg hsI2 hlb (by omega)]
  refine g_istore_5 hc dX11_lead_23 rfl ?_
  refine g_iload hc dX11_lead_25 rfl ?_
  refine g_iconst hc dX11_lead_27 ?_
  refine g_icmp_ne (tgt := 33) hc dX11_lead_28 (by decide) (by first | exact hI _ _ | exact hxI2 _ _ | exact hIa _ _ | exact hIb _ _ | exact g_b32 | exact g_and32 | assumption | exact ⟨by omega, by omega⟩) (by first | exact hI _ _ | exact hxI2 _ _ | exact hIa _ _ | exact hIb _ _ | exact g_b32 | exact g_and32 | assumption | exact ⟨by omega, by omega⟩) (fun c1 => ?_) (fun c1 => ?_)
  · skip
    refine g_aldn hc dX11_lead_33 rfl ?_
    refine g_iload hc dX11_lead_34 rfl ?_
    refine g_aldn hc dX11_lead_36 rfl ?_
    refine g_getRk hc lk_X11_80 (la_0 hlb) (rl_5 hR hlb) dX11_lead_37 ?_
    refine g_iload_n hc dX11_lead_40 rfl ?_
    refine g_aaldk hc (la_28 hlb) (by decide) rfl rfl (by decide) (by omega) (by omega) (rl_wb hR hlb (by omega) (by omega)) dX11_lead_41 ?_
    refine g_iload hc dX11_lead_42 rfl ?_
    refine g_ialde hc (la_wb hlb (by omega) (by omega)) (by decide) (by omega) (by omega) (congrFun (hsI2 _ (by omega)) _) dX11_lead_44 ?_
    refine g_V2r hc (c_X11_behind w hR hlb hI hsI2 hxI2 hC hVI2 (by first | exact hI _ _ | exact hxI2 _ _ | exact hIa _ _ | exact hIb _ _ | exact g_b32 | exact g_and32 | assumption | exact ⟨by omega, by omega⟩) (by first | exact hI _ _ | exact hxI2 _ _ | exact hIa _ _ | exact hIb _ _ | exact g_b32 | exact g_and32 | assumption | exact ⟨by omega, by omega⟩) (by omega)) my_X11_behind mv_X11_behind ca_683 rfl rfl lm_X11_50 rfl (by decide) (Nat.le_of_ble_eq_true rfl) hm dX11_lead_45 ?_
    refine g_aldn hc dX11_lead_48 rfl ?_
    refine g_iload hc dX11_lead_49 rfl ?_
    refine g_aldn hc dX11_lead_51 rfl ?_
    refine g_getRk hc lk_X11_80 (la_0 hlb) (rl_5 hR hlb) dX11_lead_52 ?_
    refine g_iload_n hc dX11_lead_55 rfl ?_
    refine g_aaldk hc (la_28 hlb) (by decide) rfl rfl (by decide) (by omega) (by omega) (rl_wb hR hlb (by omega) (by omega)) dX11_lead_56 ?_
    refine g_iload hc dX11_lead_57 rfl ?_
    refine g_ialde hc (la_wb hlb (by omega) (by omega)) (by decide) (by omega) (by omega) (congrFun (hsI2 _ (by omega)) _) dX11_lead_59 ?_
    refine g_V2r hc (c_X11_behind w hR hlb hI hsI2 hxI2 hC hVI2 (by first | exact hI _ _ | exact hxI2 _ _ | exact hIa _ _ | exact hIb _ _ | exact g_b32 | exact g_and32 | assumption | exact ⟨by omega, by omega⟩) (by first | exact hI _ _ | exact hxI2 _ _ | exact hIa _ _ | exact hIb _ _ | exact g_b32 | exact g_and32 | assumption | exact ⟨by omega, by omega⟩) (by omega)) my_X11_behind mv_X11_behind ca_683 rfl rfl lm_X11_50 rfl (by decide) (Nat.le_of_ble_eq_true rfl) hm dX11_lead_60 ?_
    refine g_isub hc dX11_lead_63 ?_
    refine g_iret hc hm dX11_lead_64 ?_
    exact g_postE (by rw [g_apo, if_neg (by assumption)])
  · skip
    refine g_iconst hc dX11_lead_31 ?_
    refine g_iret hc hm dX11_lead_32 ?_
    exact g_postE (by rw [g_apo, if_pos (by assumption)])
