set_option maxHeartbeats 4000000 in
set_option maxRecDepth 100000 in
/-- X7_parts -/
theorem c_X7_parts (w : g_W) {I : g_I} {J : g_J} {R : g_R} {lb tx : Nat} (hR : g_rf w R lb tx) (hlb : g_life lb) {I2 : g_I} (hI : ∀ k j, g32 (I k j)) (hsI2 : g_off I I2) (hxI2 : ∀ k j, g32 (I2 k j)) (hC : g_cin I lb) {s z : Int} (h1 : 0 ≤ s ∧ s < I lb 0) (h2 : z = 0 ∨ z = 1) : g_Met w g_n I2 J R yX7_parts cX7_parts 7 (some .int) 6 0 0 [(gvr w 548), (gvI s), (gvI z)] (fun rr nn II JJ RR => g_rel w (some (gvI (g_pts I lb s z))) g_sT I2 J R rr nn II JJ RR) := by
  refine g_intro (own := RX7) [some (gvr w 548), some (gvI s), some (gvI z), none, none, none, none] (by decide +kernel) rfl (by decide) (Nat.le_of_ble_eq_true rfl) rfl (fun i v hv => g_args 4 i v hv rfl) (fun x hc hm => ?_)
  have hL := hC.1
  obtain ⟨hn0, hn1, hLs, hLf⟩ := id hL
  obtain ⟨-, hC1, hC2, hC3, hC4, hC5, hC6, hC7⟩ := id hC
  have hlb5 := hlb
  unfold g_life at hlb5
  have hdI2 : ∀ k : Nat, ¬ g_sT k → I2 k = I2 k := fun _ _ => rfl
  obtain ⟨hst, hway⟩ := g_lok_s hL h1
  refine g_ldc (k := 1000000000) hc dX7_parts_0 _ lc_X7_102 (by decide +kernel) ?_
  refine g_istore_3 hc dX7_parts_2 rfl ?_
  refine g_iconst hc dX7_parts_3 ?_
  refine g_istore_4 hc dX7_parts_4 rfl ?_
  have lp_6 : ∀ (fu : Nat) (p i : Int) (Im : g_I), 0 ≤ i ∧ i ≤ I (lb + 14) s → p = g_ptn I lb s (fun f => if z = 0 then I 550 (4 + f) else g_shl 1 (I (lb + 43) f) - 1) i.toNat → 0 ≤ p ∧ p ≤ 1000000000 → g_off I Im → (∀ k j, g32 (Im k j)) → (∀ k : Nat, ¬ g_sT k → Im k = I2 k) → I (lb + 14) s - i < (fu : Int) → G w x (fun rr nn II JJ RR => g_rel w (some (gvI (g_pts I lb s z))) g_sT I2 J R rr nn II JJ RR) 0 0 g_n Im J R 6 [some (gvr w 548), some (gvI s), some (gvI z), some (gvI p), some (gvI i), none, none] [] := by
    intro fu
    induction fu with
    | zero => intro p i Im h3 h4 h5 hsIm hxIm hdIm hfu; exfalso; omega
    | succ fu ih =>
      intro p i Im h3 h4 h5 hsIm hxIm hdIm hfu
      have ih_6 := ih
      refine g_iload hc dX7_parts_6 rfl ?_
      refine g_aldn hc dX7_parts_8 rfl ?_
      refine g_getRvk hc lk_X7_25 ca_548 (rc_548_3 hR) dX7_parts_9 ?_
      refine g_getRk hc lk_X7_40 (la_0 hlb) (rl_3 hR hlb) dX7_parts_12 ?_
      refine g_iload_n hc dX7_parts_15 rfl ?_
      refine g_ialde hc (la_14 hlb) (by decide) (by omega) (by omega) (congrFun (hsIm _ (by omega)) _) dX7_parts_16 ?_
      refine g_icmp_ge (tgt := 86) hc dX7_parts_17 (by decide) (by first | exact hI _ _ | exact hxI2 _ _ | exact hIa _ _ | exact hIb _ _ | exact g_b32 | exact g_and32 | assumption | exact ⟨by omega, by omega⟩) (by first | exact hI _ _ | exact hxI2 _ _ | exact hIa _ _ | exact hIb _ _ | exact g_b32 | exact g_and32 | assumption | exact ⟨by omega, by omega⟩) (fun c1 => ?_) (fun c1 => ?_)
      · skip
        refine g_iload_n hc dX7_parts_86 rfl ?_
        refine g_iret hc hm dX7_parts_87 ?_
        exact g_relE (by rw [g_pts, h4, show i = I (lb + 14) s by omega]) hdIm hxIm
      · skip
        have hwy := hway i h3.1 (by omega)
        obtain ⟨hk2, hk1, hy, hit⟩ := hLf (I (lb + 16 + s.toNat) i) hwy.1.1 hwy.1.2
        have hsh := g_shl_s hk2
        refine g_aldn hc dX7_parts_20 rfl ?_
        refine g_getRvk hc lk_X7_25 ca_548 (rc_548_3 hR) dX7_parts_21 ?_
        refine g_getRk hc lk_X7_43 (la_0 hlb) (rl_4 hR hlb) dX7_parts_24 ?_
        refine g_iload_n hc dX7_parts_27 rfl ?_
        refine g_aaldk hc (la_15 hlb) (by decide) rfl rfl (by decide) (by omega) (by omega) (rl_wf hR hlb (by omega) (by omega)) dX7_parts_28 ?_
        refine g_iload hc dX7_parts_29 rfl ?_
        refine g_ialde hc (la_wf hlb (by omega) (by omega)) (by decide) (by omega) (by omega) (congrFun (hsIm _ (by omega)) _) dX7_parts_31 ?_
        refine g_istore_5 hc dX7_parts_32 rfl ?_
        refine g_iload_n hc dX7_parts_34 rfl ?_
        refine g_if_eq (tgt := 50) hc dX7_parts_35 (by decide) (by first | exact hI _ _ | exact hxI2 _ _ | exact hIa _ _ | exact hIb _ _ | exact g_b32 | exact g_and32 | assumption | exact ⟨by omega, by omega⟩) (fun c2 => ?_) (fun c2 => ?_)
        · skip
          refine g_aldn hc dX7_parts_50 rfl ?_
          refine g_iload hc dX7_parts_51 rfl ?_
          refine g_V1r hc (c_X7_openMask w hR hxIm (by omega)) my_X7_openMask mv_X7_openMask ca_548 rfl rfl lm_X7_36 rfl (by decide) (Nat.le_of_ble_eq_true rfl) hm dX7_parts_53 ?_
          rw [show Im 550 (4 + (I (lb + 16 + (s).toNat) i)) = I 550 (4 + (I (lb + 16 + (s).toNat) i)) from by rw [hsIm 550 (by decide)]]
          refine g_istore_6 hc dX7_parts_56 rfl ?_
          refine g_aldn hc dX7_parts_58 rfl ?_
          refine g_iload_n hc dX7_parts_59 rfl ?_
          refine g_iload hc dX7_parts_60 rfl ?_
          refine g_aldn hc dX7_parts_62 rfl ?_
          refine g_getRvk hc lk_X7_25 ca_548 (rc_548_3 hR) dX7_parts_63 ?_
          refine g_getRk hc lk_X7_47 (la_0 hlb) (rl_5 hR hlb) dX7_parts_66 ?_
          refine g_iload_n hc dX7_parts_69 rfl ?_
          refine g_aaldk hc (la_28 hlb) (by decide) rfl rfl (by decide) (by omega) (by omega) (rl_wb hR hlb (by omega) (by omega)) dX7_parts_70 ?_
          refine g_iload hc dX7_parts_71 rfl ?_
          refine g_ialde hc (la_wb hlb (by omega) (by omega)) (by decide) (by omega) (by omega) (congrFun (hsIm _ (by omega)) _) dX7_parts_73 ?_
          refine g_iload hc dX7_parts_74 rfl ?_
          refine g_V4 hc (c_X7_partsBehind w hR hlb hI hsIm hxIm hC (by omega) (by omega) (by omega) (by first | exact hI _ _ | exact hxI2 _ _ | exact hIa _ _ | exact hIb _ _ | exact g_b32 | exact g_and32 | assumption | exact ⟨by omega, by omega⟩)) my_X7_partsBehind mv_X7_partsBehind ca_548 rfl rfl lm_X7_106 rfl (by decide) (Nat.le_of_ble_eq_true rfl) hm dX7_parts_76 (fun r3 n3 I3 J3 R3 hp3 => ?_)
          obtain ⟨rfl, rfl, hfI3, hxI3, rfl, rfl⟩ := hp3
          have hsI3 : g_off I I3 := fun k hk => (hfI3 k (fun q => hk (by omega))).trans (hsIm k hk)
          have hdI3 : ∀ k : Nat, ¬ g_sT k → I3 k = I2 k := fun k hk => (hfI3 k (fun q => hk (by omega))).trans (hdIm k hk)
          refine g_istore_3 hc dX7_parts_79 rfl ?_
          refine g_iinc_4 hc dX7_parts_80 rfl ?_
          refine g_goto (tgt := 6) hc dX7_parts_83 (by decide) ?_
          refine G_sub (L' := [some (gvr w 548), some (gvI s), some (gvI z), some (gvI (g_pbh I lb p (I (lb + 16 + (s).toNat) i) (I (lb + 29 + (s).toNat) i) (I 550 (4 + (I (lb + 16 + (s).toNat) i))))), some (gvI (i + 1)), none, none]) (show g_le _ _ from ⟨rfl, ⟨rfl, ⟨rfl, ⟨rfl, ⟨rfl, trivial⟩⟩⟩⟩⟩) ?_
          refine ih_6 _ _ _ ?_ ?_ ?_ ?_ ?_ ?_ ?_
          · omega
          · rw [g_ptn_i h3.1, h4]; first | rw [if_pos (by assumption)] | rw [if_neg (by assumption)]
          · have hpb := g_pbh_in (I := I) (b := lb) (p := p) (f := (I (lb + 16 + s.toNat) i)) (r := (I (lb + 29 + s.toNat) i)) (m := I 550 (4 + (I (lb + 16 + s.toNat) i))) hL hwy.1 hwy.2 h5.1
            have hpb2 := g_pbh_in (I := I) (b := lb) (p := p) (f := (I (lb + 16 + s.toNat) i)) (r := (I (lb + 29 + s.toNat) i)) (m := g_shl 1 (I (lb + 43) (I (lb + 16 + s.toNat) i)) - 1) hL hwy.1 hwy.2 h5.1
            omega
          · exact hsI3
          · exact hxI3
          · exact hdI3
          · omega
        · skip
          refine g_aldn hc dX7_parts_38 rfl ?_
          refine g_getRvk hc lk_X7_25 ca_548 (rc_548_3 hR) dX7_parts_39 ?_
          refine g_iload hc dX7_parts_42 rfl ?_
          refine g_V1r hc (c_X4_allMask w hR hxIm hlb (by omega)) my_X4_allMask mv_X4_allMask (la_0 hlb) rfl rfl lm_X7_103 rfl (by decide) (Nat.le_of_ble_eq_true rfl) hm dX7_parts_44 ?_
          rw [show Im (lb + 43) (I (lb + 16 + (s).toNat) i) = I (lb + 43) (I (lb + 16 + (s).toNat) i) from by rw [hsIm _ (g_nl hlb (by omega) (by omega))]]
          refine g_goto (tgt := 56) hc dX7_parts_47 (by decide) ?_
          refine g_istore_6 hc dX7_parts_56 rfl ?_
          refine g_aldn hc dX7_parts_58 rfl ?_
          refine g_iload_n hc dX7_parts_59 rfl ?_
          refine g_iload hc dX7_parts_60 rfl ?_
          refine g_aldn hc dX7_parts_62 rfl ?_
          refine g_getRvk hc lk_X7_25 ca_548 (rc_548_3 hR) dX7_parts_63 ?_
          refine g_getRk hc lk_X7_47 (la_0 hlb) (rl_5 hR hlb) dX7_parts_66 ?_
          refine g_iload_n hc dX7_parts_69 rfl ?_
          refine g_aaldk hc (la_28 hlb) (by decide) rfl rfl (by decide) (by omega) (by omega) (rl_wb hR hlb (by omega) (by omega)) dX7_parts_70 ?_
          refine g_iload hc dX7_parts_71 rfl ?_
          refine g_ialde hc (la_wb hlb (by omega) (by omega)) (by decide) (by omega) (by omega) (congrFun (hsIm _ (by omega)) _) dX7_parts_73 ?_
          refine g_iload hc dX7_parts_74 rfl ?_
          refine g_V4 hc (c_X7_partsBehind w hR hlb hI hsIm hxIm hC (by omega) (by omega) (by omega) (by first | exact hI _ _ | exact hxI2 _ _ | exact hIa _ _ | exact hIb _ _ | exact g_b32 | exact g_and32 | assumption | exact ⟨by omega, by omega⟩)) my_X7_partsBehind mv_X7_partsBehind ca_548 rfl rfl lm_X7_106 rfl (by decide) (Nat.le_of_ble_eq_true rfl) hm dX7_parts_76 (fun r4 n4 I4 J4 R4 hp4 => ?_)
          obtain ⟨rfl, rfl, hfI4, hxI4, rfl, rfl⟩ := hp4
          have hsI4 : g_off I I4 := fun k hk => (hfI4 k (fun q => hk (by omega))).trans (hsIm k hk)
          have hdI4 : ∀ k : Nat, ¬ g_sT k → I4 k = I2 k := fun k hk => (hfI4 k (fun q => hk (by omega))).trans (hdIm k hk)
          refine g_istore_3 hc dX7_parts_79 rfl ?_
          refine g_iinc_4 hc dX7_parts_80 rfl ?_
          refine g_goto (tgt := 6) hc dX7_parts_83 (by decide) ?_
          refine G_sub (L' := [some (gvr w 548), some (gvI s), some (gvI z), some (gvI (g_pbh I lb p (I (lb + 16 + (s).toNat) i) (I (lb + 29 + (s).toNat) i) (g_shl 1 (I (lb + 43) (I (lb + 16 + (s).toNat) i)) - 1))), some (gvI (i + 1)), none, none]) (show g_le _ _ from ⟨rfl, ⟨rfl, ⟨rfl, ⟨rfl, ⟨rfl, trivial⟩⟩⟩⟩⟩) ?_
          refine ih_6 _ _ _ ?_ ?_ ?_ ?_ ?_ ?_ ?_
          · omega
          · rw [g_ptn_i h3.1, h4]; first | rw [if_pos (by assumption)] | rw [if_neg (by assumption)]
          · have hpb := g_pbh_in (I := I) (b := lb) (p := p) (f := (I (lb + 16 + s.toNat) i)) (r := (I (lb + 29 + s.toNat) i)) (m := I 550 (4 + (I (lb + 16 + s.toNat) i))) hL hwy.1 hwy.2 h5.1
            have hpb2 := g_pbh_in (I := I) (b := lb) (p := p) (f := (I (lb + 16 + s.toNat) i)) (r := (I (lb + 29 + s.toNat) i)) (m := g_shl 1 (I (lb + 43) (I (lb + 16 + s.toNat) i)) - 1) hL hwy.1 hwy.2 h5.1
            omega
          · exact hsI4
          · exact hxI4
          · exact hdI4
          · omega
  refine lp_6 (I (lb + 14) s + 1).toNat _ _ _ ?_ ?_ ?_ ?_ ?_ ?_ (?_)
  · omega
  · rfl
  · omega
  · exact hsI2
  · exact hxI2
  · exact hdI2
  · omega
theorem g_ptn_in {I : g_I} {b : Nat} {s : Int} {mask : Int → Int} (hL : g_lok I b) (hs : 0 ≤ s ∧ s < I b 0) : ∀ n : Nat, (n : Int) ≤ I (b + 14) s → 0 ≤ g_ptn I b s mask n ∧ g_ptn I b s mask n ≤ 1000000000
  | 0, _ => by simp [g_ptn]
  | n + 1, h => by
    have ih := g_ptn_in (mask := mask) hL hs n (by omega)
    obtain ⟨hst, hway⟩ := g_lok_s hL hs
    have hw := hway n (by omega) (by omega)
    have h2 := g_pbh_in (p := g_ptn I b s mask n) (m := mask (I (b + 16 + s.toNat) n)) hL hw.1 hw.2 ih.1
    unfold g_ptn
    omega
theorem g_pts_in {I : g_I} {b : Nat} {s z : Int} (hL : g_lok I b) (hs : 0 ≤ s ∧ s < I b 0) : 0 ≤ g_pts I b s z ∧ g_pts I b s z ≤ 1000000000 := by
  obtain ⟨hst, -⟩ := g_lok_s hL hs
  exact g_ptn_in hL hs _ (by omega)
set_option maxHeartbeats 4000000 in
set_option maxRecDepth 100000 in
/-- X7_average -/
theorem c_X7_average (w : g_W) {I : g_I} {J : g_J} {R : g_R} {lb tx : Nat} (hR : g_rf w R lb tx) (hlb : g_life lb) {I2 : g_I} (hI : ∀ k j, g32 (I k j)) (hsI2 : g_off I I2) (hxI2 : ∀ k j, g32 (I2 k j)) (hC : g_cin I lb) {k : Int} (h1 : 0 ≤ k ∧ k ≤ 3) : g_Met w g_n I2 J R yX7_average cX7_average 7 (some .int) 7 0 0 [(gvr w 548), (gvI k)] (fun rr nn II JJ RR => g_rel w (some (gvI (g_avg I lb k))) g_sT I2 J R rr nn II JJ RR) := by
  refine g_intro (own := RX7) [some (gvr w 548), some (gvI k), none, none, none, none, none] (by decide +kernel) rfl (by decide) (Nat.le_of_ble_eq_true rfl) rfl (fun i v hv => g_args 5 i v hv rfl) (fun x hc hm => ?_)
  have hL := hC.1
  obtain ⟨hn0, hn1, hLs, hLf⟩ := id hL
  obtain ⟨-, hC1, hC2, hC3, hC4, hC5, hC6, hC7⟩ := id hC
  have hlb5 := hlb
  unfold g_life at hlb5
  have hdI2 : ∀ k : Nat, ¬ g_sT k → I2 k = I2 k := fun _ _ => rfl
  refine g_lconst hc dX7_average_0 0 (by decide +kernel) ?_
  refine g_lstore_2 hc dX7_average_1 rfl ?_
  refine g_iconst hc dX7_average_2 ?_
  refine g_istore_4 hc dX7_average_3 rfl ?_
  have lp_5 : ∀ (fu : Nat) (a i : Int) (Im : g_I), 0 ≤ i ∧ i ≤ I lb 0 → a = g_sum (fun s => (if k = 3 then g_lkd I lb s else I (lb + 2 + s.toNat) k) * g_pts I lb s 0) i.toNat → -(1000300000000000 * i) ≤ a ∧ a ≤ 1000300000000000 * i → g_off I Im → (∀ k j, g32 (Im k j)) → (∀ k : Nat, ¬ g_sT k → Im k = I2 k) → I lb 0 - i < (fu : Int) → G w x (fun rr nn II JJ RR => g_rel w (some (gvI (g_avg I lb k))) g_sT I2 J R rr nn II JJ RR) 0 0 g_n Im J R 5 [some (gvr w 548), some (gvI k), some (gvL a), none, some (gvI i), none, none] [] := by
    intro fu
    induction fu with
    | zero => intro a i Im h3 h4 h5 hsIm hxIm hdIm hfu; exfalso; omega
    | succ fu ih =>
      intro a i Im h3 h4 h5 hsIm hxIm hdIm hfu
      have ih_5 := ih
      refine g_iload hc dX7_average_5 rfl ?_
      refine g_aldn hc dX7_average_7 rfl ?_
      refine g_getRvk hc lk_X7_25 ca_548 (rc_548_3 hR) dX7_average_8 ?_
      refine g_getIe hc lk_X7_54 (la_0 hlb) 0 rfl (congrFun (hsIm _ (by omega)) _) dX7_average_11 ?_
      refine g_icmp_ge (tgt := 67) hc dX7_average_14 (by decide) (by first | exact hI _ _ | exact hxI2 _ _ | exact hIa _ _ | exact hIb _ _ | exact g_b32 | exact g_and32 | assumption | exact ⟨by omega, by omega⟩) (by first | exact hI _ _ | exact hxI2 _ _ | exact hIa _ _ | exact hIb _ _ | exact g_b32 | exact g_and32 | assumption | exact ⟨by omega, by omega⟩) (fun c1 => ?_) (fun c1 => ?_)
      · skip
        refine g_lload_n hc dX7_average_67 rfl ?_
        refine g_ldc2 (k := 1000000000) hc dX7_average_68 _ lc_X7_126 (by decide +kernel) ?_
        refine g_ldiv hc dX7_average_71 (by exact ⟨by omega, by omega⟩) (by exact ⟨by omega, by omega⟩) (by omega) ?_
        refine g_l2i hc dX7_average_72 ?_
        refine g_iret hc hm dX7_average_73 ?_
        exact g_relE (by rw [g_avg, h4, show i = I lb 0 by omega]) hdIm hxIm
      · skip
        have hpi := g_pts_in (z := 0) hL (s := i) (by omega)
        obtain ⟨-, -, hr0, hr1, hr2, hr3, hr4, hr5, -⟩ := hLs i h3.1 (by omega)
        refine g_iload_n hc dX7_average_17 rfl ?_
        refine g_iconst hc dX7_average_18 ?_
        refine g_icmp_ne (tgt := 32) hc dX7_average_19 (by decide) (by first | exact hI _ _ | exact hxI2 _ _ | exact hIa _ _ | exact hIb _ _ | exact g_b32 | exact g_and32 | assumption | exact ⟨by omega, by omega⟩) (by first | exact hI _ _ | exact hxI2 _ _ | exact hIa _ _ | exact hIb _ _ | exact g_b32 | exact g_and32 | assumption | exact ⟨by omega, by omega⟩) (fun c2 => ?_) (fun c2 => ?_)
        · skip
          have hnum : -1000300 ≤ I (lb + 2 + i.toNat) k ∧ I (lb + 2 + i.toNat) k ≤ 1000300 := by
            rcases (show k = 0 ∨ k = 1 ∨ k = 2 by omega) with rfl | rfl | rfl <;> omega
          have hmb := g_mulb (a := I (lb + 2 + i.toNat) k) (b := g_pts I lb i 0) (m := 1000300) (n := 1000000000) (by omega) (by omega)
          refine g_aldn hc dX7_average_32 rfl ?_
          refine g_getRvk hc lk_X7_25 ca_548 (rc_548_3 hR) dX7_average_33 ?_
          refine g_getRk hc lk_X7_62 (la_0 hlb) (rl_2 hR hlb) dX7_average_36 ?_
          refine g_iload hc dX7_average_39 rfl ?_
          refine g_aaldk hc (la_1 hlb) (by decide) rfl rfl (by decide) (by omega) (by omega) (rl_has hR hlb (by omega) (by omega)) dX7_average_41 ?_
          refine g_iload_n hc dX7_average_42 rfl ?_
          refine g_ialde hc (la_has hlb (by omega) (by omega)) (by decide) (by omega) (by omega) (congrFun (hsIm _ (by omega)) _) dX7_average_43 ?_
          refine g_i2l hc dX7_average_44 (by first | exact hI _ _ | exact hxI2 _ _ | exact hIa _ _ | exact hIb _ _ | exact g_b32 | exact g_and32 | assumption | exact ⟨by omega, by omega⟩) ?_
          refine g_lstore_5 hc dX7_average_45 rfl ?_
          refine g_lload_n hc dX7_average_47 rfl ?_
          refine g_lload hc dX7_average_48 rfl ?_
          refine g_aldn hc dX7_average_50 rfl ?_
          refine g_iload hc dX7_average_51 rfl ?_
          refine g_iconst hc dX7_average_53 ?_
          refine g_V2 hc (c_X7_parts w hR hlb hI hsIm hxIm hC (by omega) (by omega)) my_X7_parts mv_X7_parts ca_548 rfl rfl lm_X7_122 rfl (by decide) (Nat.le_of_ble_eq_true rfl) hm dX7_average_54 (fun r3 n3 I3 J3 R3 hp3 => ?_)
          obtain ⟨rfl, rfl, hfI3, hxI3, rfl, rfl⟩ := hp3
          have hsI3 : g_off I I3 := fun k hk => (hfI3 k (fun q => hk (by omega))).trans (hsIm k hk)
          have hdI3 : ∀ k : Nat, ¬ g_sT k → I3 k = I2 k := fun k hk => (hfI3 k (fun q => hk (by omega))).trans (hdIm k hk)
          refine g_i2l hc dX7_average_57 (by exact ⟨by omega, by omega⟩) ?_
          refine g_lmul hc dX7_average_58 ?_
          refine g_ladd hc dX7_average_59 ?_
          refine g_lstore_2 hc dX7_average_60 rfl ?_
          refine g_iinc_4 hc dX7_average_61 rfl ?_
          refine g_goto (tgt := 5) hc dX7_average_64 (by decide) ?_
          refine G_sub (L' := [some (gvr w 548), some (gvI k), some (gvL (a + ((I (lb + 2 + (i).toNat) k) * (g_pts I lb i 0)))), none, some (gvI (i + 1)), none, none]) (show g_le _ _ from ⟨rfl, ⟨rfl, ⟨rfl, ⟨rfl, trivial⟩⟩⟩⟩) ?_
          refine ih_5 _ _ _ ?_ ?_ ?_ ?_ ?_ ?_ ?_
          · omega
          · rw [g_sum_i h3.1, h4]; first | rw [if_pos (by assumption)] | rw [if_neg (by assumption)]
          · omega
          · exact hsI3
          · exact hxI3
          · exact hdI3
          · omega
        · skip
          refine g_aldn hc dX7_average_22 rfl ?_
          refine g_iload hc dX7_average_23 rfl ?_
          refine g_V1 hc (c_X7_liked w hR hlb hI hsIm hxIm hC (by omega)) my_X7_liked mv_X7_liked ca_548 rfl rfl lm_X7_119 rfl (by decide) (Nat.le_of_ble_eq_true rfl) hm dX7_average_25 (fun r4 n4 I4 J4 R4 hp4 => ?_)
          obtain ⟨⟨rfl, rfl, hfI4, hxI4, rfl, rfl⟩, hb4⟩ := hp4
          have hsI4 : g_off I I4 := fun k hk => (hfI4 k (fun q => hk (by omega))).trans (hsIm k hk)
          have hdI4 : ∀ k : Nat, ¬ g_sT k → I4 k = I2 k := fun k hk => (hfI4 k (fun q => hk (by omega))).trans (hdIm k hk)
          have hmb := g_mulb (a := g_lkd I lb i) (b := g_pts I lb i 0) (m := 1000300) (n := 1000000000) (by omega) (by omega)
          refine g_i2l hc dX7_average_28 (by exact ⟨by omega, by omega⟩) ?_
          refine g_goto (tgt := 45) hc dX7_average_29 (by decide) ?_
          refine g_lstore_5 hc dX7_average_45 rfl ?_
          refine g_lload_n hc dX7_average_47 rfl ?_
          refine g_lload hc dX7_average_48 rfl ?_
          refine g_aldn hc dX7_average_50 rfl ?_
          refine g_iload hc dX7_average_51 rfl ?_
          refine g_iconst hc dX7_average_53 ?_
          refine g_V2 hc (c_X7_parts w hR hlb hI hsI4 hxI4 hC (by omega) (by omega)) my_X7_parts mv_X7_parts ca_548 rfl rfl lm_X7_122 rfl (by decide) (Nat.le_of_ble_eq_true rfl) hm dX7_average_54 (fun r5 n5 I5 J5 R5 hp5 => ?_)
          obtain ⟨rfl, rfl, hfI5, hxI5, rfl, rfl⟩ := hp5
          have hsI5 : g_off I I5 := fun k hk => (hfI5 k (fun q => hk (by omega))).trans (hsI4 k hk)
          have hdI5 : ∀ k : Nat, ¬ g_sT k → I5 k = I2 k := fun k hk => (hfI5 k (fun q => hk (by omega))).trans (hdI4 k hk)
          refine g_i2l hc dX7_average_57 (by exact ⟨by omega, by omega⟩) ?_
          refine g_lmul hc dX7_average_58 ?_
          refine g_ladd hc dX7_average_59 ?_
          refine g_lstore_2 hc dX7_average_60 rfl ?_
          refine g_iinc_4 hc dX7_average_61 rfl ?_
          refine g_goto (tgt := 5) hc dX7_average_64 (by decide) ?_
          refine G_sub (L' := [some (gvr w 548), some (gvI k), some (gvL (a + ((g_lkd I lb i) * (g_pts I lb i 0)))), none, some (gvI (i + 1)), none, none]) (show g_le _ _ from ⟨rfl, ⟨rfl, ⟨rfl, ⟨rfl, trivial⟩⟩⟩⟩) ?_
          refine ih_5 _ _ _ ?_ ?_ ?_ ?_ ?_ ?_ ?_
          · omega
          · rw [g_sum_i h3.1, h4]; first | rw [if_pos (by assumption)] | rw [if_neg (by assumption)]
          · omega
          · exact hsI5
          · exact hxI5
          · exact hdI5
          · omega
  refine lp_5 (I lb 0 + 1).toNat _ _ _ ?_ ?_ ?_ ?_ ?_ ?_ (?_)
  · omega
  · rfl
  · omega
  · exact hsI2
  · exact hxI2
  · exact hdI2
  · omega
