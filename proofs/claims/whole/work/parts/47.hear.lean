set_option maxHeartbeats 4000000 in
set_option maxRecDepth 100000 in
/-- X1_hear -/
theorem c_X1_hear (w : g_W) {I : g_I} {J : g_J} {R : g_R} {lb tx : Nat} (hR : g_rf w R lb tx) (hlb : g_life lb) {I2 : g_I} (hI : ∀ k j, g32 (I k j)) (hsI2 : g_off I I2) (hxI2 : ∀ k j, g32 (I2 k j)) (hC : g_cin I lb) {m : Int} (hm1 : 0 ≤ m ∧ m ≤ I 0 11) : g_Met w g_n I2 J R yX1_hear cX1_hear 4 none 4 0 0 [(gvr w 686), (gvI m)] (fun rr nn II JJ RR => g_rel w none g_sH I2 J R rr nn II JJ RR ∧ g_hrd I lb m II) := by
  refine g_intro (own := RX1) [some (gvr w 686), some (gvI m), none, none] (by decide +kernel) rfl (by decide) (Nat.le_of_ble_eq_true rfl) rfl (fun i v hv => g_args 2 i v hv rfl) (fun x hc hm => ?_)
  have hL := hC.1
  obtain ⟨hn0, hn1, hLs, hLf⟩ := id hL
  obtain ⟨-, hC1, hC2, hC3, hC4, hC5, hC6, hC7⟩ := id hC
  have hlb5 := hlb
  unfold g_life at hlb5
  have hdI2 : ∀ k : Nat, ¬ g_sH k → I2 k = I2 k := fun _ _ => rfl
  refine g_aldn hc dX1_hear_0 rfl ?_
  refine g_iconst hc dX1_hear_1 ?_
  obtain ⟨I3, hI3⟩ : ∃ I3, I3 = g_up I2 686 6 0 := ⟨_, rfl⟩
  have hsI3 : g_off I I3 := fun k hk => by
    rw [hI3]; funext j; rw [g_up_k (by omega)]; exact congrFun (hsI2 k hk) j
  have hfI3 : ∀ k : Nat, k ≠ 686 → I3 k = I2 k := fun k hk => by rw [hI3]; funext j; exact g_up_k hk
  have hdI3 : ∀ k : Nat, ¬ g_sH k → I3 k = I2 k := fun k hk => (hfI3 k (by omega)).trans (hdI2 k hk)
  have hxI3 : ∀ k j, g32 (I3 k j) := by rw [hI3]; exact g_up32 hxI2 (by exact ⟨by decide, by decide⟩)
  refine g_putIe (I2 := I3) hc lk_X1_90 ca_686 6 rfl hI3.symm dX1_hear_2 ?_
  refine g_iconst hc dX1_hear_5 ?_
  refine g_istore_2 hc dX1_hear_6 rfl ?_
  have lp_7 : ∀ (fu : Nat) (i : Int) (Im : g_I), 0 ≤ i ∧ i ≤ I lb 0 → Im 686 6 = g_ors (fun s => if g_vtr I lb s then g_shl 1 s else 0) i.toNat → (∀ τ s : Int, 0 ≤ τ → τ < m → 0 ≤ s → s < i → g_vtr I lb s → Im (691 + τ.toNat) s = g_wby I lb τ s) → g_off I Im → (∀ k j, g32 (Im k j)) → (∀ k : Nat, ¬ g_sH k → Im k = I2 k) → I lb 0 - i < (fu : Int) → G w x (fun rr nn II JJ RR => g_rel w none g_sH I2 J R rr nn II JJ RR ∧ g_hrd I lb m II) 0 0 g_n Im J R 7 [some (gvr w 686), some (gvI m), some (gvI i), none] [] := by
    intro fu
    induction fu with
    | zero => intro i Im h3 h4 hrow hsIm hxIm hdIm hfu; exfalso; omega
    | succ fu ih =>
      intro i Im h3 h4 hrow hsIm hxIm hdIm hfu
      have ih_7 := ih
      refine g_iload_n hc dX1_hear_7 rfl ?_
      refine g_aldn hc dX1_hear_8 rfl ?_
      refine g_getRk hc lk_X1_26 ca_686 (rc_686_0 hR) dX1_hear_9 ?_
      refine g_getRvk hc lk_X1_51 ca_548 (rc_548_3 hR) dX1_hear_12 ?_
      refine g_getIe hc lk_X1_55 (la_0 hlb) 0 rfl (congrFun (hsIm _ (by omega)) _) dX1_hear_15 ?_
      refine g_icmp_ge (tgt := 108) hc dX1_hear_18 (by decide) (by first | exact hI _ _ | exact hxI2 _ _ | exact hIa _ _ | exact hIb _ _ | exact g_b32 | exact g_and32 | assumption | exact ⟨by omega, by omega⟩) (by first | exact hI _ _ | exact hxI2 _ _ | exact hIa _ _ | exact hIb _ _ | exact g_b32 | exact g_and32 | assumption | exact ⟨by omega, by omega⟩) (fun c1 => ?_) (fun c1 => ?_)
      · skip
        refine g_vret hc hm dX1_hear_108 ?_
        exact ⟨⟨rfl, rfl, hdIm, hxIm, rfl, rfl⟩, by rw [g_vtb, h4, show I lb 0 = i by omega], fun τ s h0 h1 h2 h3 hv => hrow τ s h0 h1 h2 (by omega) hv⟩
      · skip
        refine g_aldn hc dX1_hear_21 rfl ?_
        refine g_getRk hc lk_X1_26 ca_686 (rc_686_0 hR) dX1_hear_22 ?_
        refine g_iload_n hc dX1_hear_25 rfl ?_
        refine g_V1r hc (c_X7_isThere w hR hxIm hlb (g_lok_cg hsIm hlb hL) (by first | omega | (rw [hsIm _ (g_nl hlb (by omega) (by omega))]; omega))) my_X7_isThere mv_X7_isThere ca_548 rfl rfl lm_X1_34 rfl (by decide) (Nat.le_of_ble_eq_true rfl) hm dX1_hear_26 ?_
        rw [show g_thr Im lb i = g_thr I lb i from g_thr_cg hsIm hlb (by omega)]
        refine g_ifb_eq (tgt := 102) hc dX1_hear_29 (by decide)  (fun c2 => ?_) (fun c2 => ?_)
        · skip
          refine g_iinc_2 hc dX1_hear_102 rfl ?_
          refine g_goto (tgt := 7) hc dX1_hear_105 (by decide) ?_
          refine ih_7 _ _ ?_ ?_ ?_ ?_ ?_ ?_ ?_
          · omega
          · rw [g_ors_i h3.1]; first | exact h6 | (rw [if_neg (fun z => by first | exact absurd z.1 (by assumption) | (rcases z.2 with z | z; (exact absurd (by assumption) z); (exact absurd z (by assumption)))), g_or_0 g_ors32]; exact h4)
          · first | exact hrow9 | exact (fun τ s h0 h1 h2 h3 hv => by
              by_cases e : s = i
              · subst e; exact absurd hv (fun z => by first | exact absurd z.1 (by assumption) | (rcases z.2 with z | z; (exact absurd (by assumption) z); (exact absurd z (by assumption))))
              · exact hrow τ s h0 h1 h2 (by omega) hv)
          · exact hsIm
          · exact hxIm
          · exact hdIm
          · omega
        · skip
          refine g_aldn hc dX1_hear_32 rfl ?_
          refine g_getRk hc lk_X1_26 ca_686 (rc_686_0 hR) dX1_hear_33 ?_
          refine g_iload_n hc dX1_hear_36 rfl ?_
          refine g_V1r hc (c_X7_isDead w hR hxIm hlb (g_lok_cg hsIm hlb hL) (by first | omega | (rw [hsIm _ (g_nl hlb (by omega) (by omega))]; omega))) my_X7_isDead mv_X7_isDead ca_548 rfl rfl lm_X1_40 rfl (by decide) (Nat.le_of_ble_eq_true rfl) hm dX1_hear_37 ?_
          rw [show Im (lb + 2 + (i).toNat) 4 = I (lb + 2 + (i).toNat) 4 from by rw [hsIm _ (g_nl hlb (by omega) (by omega))]]
          refine g_ifb_eq (tgt := 54) hc dX1_hear_40 (by decide)  (fun c3 => ?_) (fun c3 => ?_)
          · skip
            refine g_aldn hc dX1_hear_54 rfl ?_
            refine g_dup hc dX1_hear_55 rfl ?_
            refine g_getI' hc lk_X1_90 ca_686 6 rfl dX1_hear_56 ?_
            refine g_iconst hc dX1_hear_59 ?_
            refine g_iload_n hc dX1_hear_60 rfl ?_
            refine g_ishl hc dX1_hear_61 ?_
            refine g_ior hc dX1_hear_62 ?_
            obtain ⟨I4, hI4⟩ : ∃ I4, I4 = g_up Im 686 6 (g_or (Im 686 6) (g_shl 1 i)) := ⟨_, rfl⟩
            have hsI4 : g_off I I4 := fun k hk => by
              rw [hI4]; funext j; rw [g_up_k (by omega)]; exact congrFun (hsIm k hk) j
            have hfI4 : ∀ k : Nat, k ≠ 686 → I4 k = Im k := fun k hk => by rw [hI4]; funext j; exact g_up_k hk
            have hdI4 : ∀ k : Nat, ¬ g_sH k → I4 k = I2 k := fun k hk => (hfI4 k (by omega)).trans (hdIm k hk)
            have hxI4 : ∀ k j, g32 (I4 k j) := by rw [hI4]; exact g_up32 hxIm g_or32
            refine g_putIe (I2 := I4) hc lk_X1_90 ca_686 6 rfl hI4.symm dX1_hear_63 ?_
            have hy1 : I4 686 6 = g_or (g_ors (fun s => if g_vtr I lb s then g_shl 1 s else 0) i.toNat) ((fun s => if g_vtr I lb s then g_shl 1 s else 0) i) := by
              rw [hI4, g_up_s, h4]; congr 1; exact (if_pos ⟨by assumption, by first | exact Or.inl (by assumption) | exact Or.inr (by assumption)⟩).symm
            have hy2 : (∀ τ s : Int, 0 ≤ τ → τ < m → 0 ≤ s → s < i → g_vtr I lb s → I4 (691 + τ.toNat) s = g_wby I lb τ s) := fun τ s h0 h1 h2 h3 hv => by
              rw [hfI4 _ (by omega)]; exact hrow τ s h0 h1 h2 h3 hv
            refine g_iconst hc dX1_hear_66 ?_
            refine g_istore_3 hc dX1_hear_67 rfl ?_
            have lp_68 : ∀ (fu : Nat) (q : Int) (In : g_I), 0 ≤ q ∧ q ≤ m → In 686 6 = g_or (g_ors (fun s => if g_vtr I lb s then g_shl 1 s else 0) i.toNat) ((fun s => if g_vtr I lb s then g_shl 1 s else 0) i) → (∀ τ s : Int, 0 ≤ τ → τ < m → 0 ≤ s → s < i → g_vtr I lb s → In (691 + τ.toNat) s = g_wby I lb τ s) → (∀ τ : Int, 0 ≤ τ → τ < q → In (691 + τ.toNat) i = g_wby I lb τ i) → g_off I In → (∀ k j, g32 (In k j)) → (∀ k : Nat, ¬ g_sH k → In k = I2 k) → m - q < (fu : Int) → G w x (fun rr nn II JJ RR => g_rel w none g_sH I2 J R rr nn II JJ RR ∧ g_hrd I lb m II) 0 0 g_n In J R 68 [some (gvr w 686), some (gvI m), some (gvI i), some (gvI q)] [] := by
              intro fu
              induction fu with
              | zero => intro q In h5 h6 hrown hrowk hsIn hxIn hdIn hfu; exfalso; omega
              | succ fu ih =>
                intro q In h5 h6 hrown hrowk hsIn hxIn hdIn hfu
                have ih_68 := ih
                refine g_iload_n hc dX1_hear_68 rfl ?_
                refine g_iload_n hc dX1_hear_69 rfl ?_
                refine g_icmp_ge (tgt := 102) hc dX1_hear_70 (by decide) (by first | exact hI _ _ | exact hxI2 _ _ | exact hIa _ _ | exact hIb _ _ | exact g_b32 | exact g_and32 | assumption | exact ⟨by omega, by omega⟩) (by first | exact hI _ _ | exact hxI2 _ _ | exact hIa _ _ | exact hIb _ _ | exact g_b32 | exact g_and32 | assumption | exact ⟨by omega, by omega⟩) (fun c4 => ?_) (fun c4 => ?_)
                · skip
                  have hrow9 : (∀ τ s : Int, 0 ≤ τ → τ < m → 0 ≤ s → s < i + 1 → g_vtr I lb s → In (691 + τ.toNat) s = g_wby I lb τ s) := fun τ s h0 h1 h2 h3 hv => by
                    by_cases e : s = i
                    · subst e; exact hrowk τ h0 (by omega)
                    · exact hrown τ s h0 h1 h2 (by omega) hv
                  refine g_iinc_2 hc dX1_hear_102 rfl ?_
                  refine g_goto (tgt := 7) hc dX1_hear_105 (by decide) ?_
                  refine G_sub (L' := [some (gvr w 686), some (gvI m), some (gvI (i + 1)), none]) (show g_le _ _ from ⟨rfl, ⟨rfl, ⟨rfl, trivial⟩⟩⟩) ?_
                  refine ih_7 _ _ ?_ ?_ ?_ ?_ ?_ ?_ ?_
                  · omega
                  · rw [g_ors_i h3.1]; first | exact h6 | (rw [if_neg (fun z => by first | exact absurd z.1 (by assumption) | (rcases z.2 with z | z; (exact absurd (by assumption) z); (exact absurd z (by assumption)))), g_or_0 g_ors32]; exact h4)
                  · first | exact hrow9 | exact (fun τ s h0 h1 h2 h3 hv => by
                      by_cases e : s = i
                      · subst e; exact absurd hv (fun z => by first | exact absurd z.1 (by assumption) | (rcases z.2 with z | z; (exact absurd (by assumption) z); (exact absurd z (by assumption))))
                      · exact hrow τ s h0 h1 h2 (by omega) hv)
                  · exact hsIn
                  · exact hxIn
                  · exact hdIn
                  · omega
                · skip
                  refine g_iload_n hc dX1_hear_73 rfl ?_
                  refine g_bipush hc dX1_hear_74 (by decide +kernel) ?_
                  refine g_icmp_ge (tgt := 102) hc dX1_hear_76 (by decide) (by first | exact hI _ _ | exact hxI2 _ _ | exact hIa _ _ | exact hIb _ _ | exact g_b32 | exact g_and32 | assumption | exact ⟨by omega, by omega⟩) (by first | exact hI _ _ | exact hxI2 _ _ | exact hIa _ _ | exact hIb _ _ | exact g_b32 | exact g_and32 | assumption | exact ⟨by omega, by omega⟩) (fun c5 => ?_) (fun c5 => ?_)
                  · exfalso; omega
                  · skip
                    refine g_aldn hc dX1_hear_79 rfl ?_
                    refine g_getRk hc lk_X1_23 ca_686 (rc_686_5 hR) dX1_hear_80 ?_
                    refine g_iload_n hc dX1_hear_83 rfl ?_
                    refine g_aaldk hc ca_690 (by decide) rfl rfl (by decide) (by omega) (by omega) (ra_690 hR (by omega) (by omega)) dX1_hear_84 ?_
                    refine g_iload_n hc dX1_hear_85 rfl ?_
                    refine g_aldn hc dX1_hear_86 rfl ?_
                    refine g_getRk hc lk_X1_26 ca_686 (rc_686_0 hR) dX1_hear_87 ?_
                    refine g_iload_n hc dX1_hear_90 rfl ?_
                    refine g_iload_n hc dX1_hear_91 rfl ?_
                    refine g_V2 hc (c_X7_worthBy w hR hlb hI hsIn hxIn hC (by omega) (by omega)) my_X7_worthBy mv_X7_worthBy ca_548 rfl rfl lm_X1_93 rfl (by decide) (Nat.le_of_ble_eq_true rfl) hm dX1_hear_92 (fun r5 n5 I5 J5 R5 hp5 => ?_)
                    obtain ⟨⟨rfl, rfl, hfI5, hxI5, rfl, rfl⟩, hb5⟩ := hp5
                    have hsI5 : g_off I I5 := fun k hk => (hfI5 k (fun q => hk (by omega))).trans (hsIn k hk)
                    have hdI5 : ∀ k : Nat, ¬ g_sH k → I5 k = I2 k := fun k hk => (hfI5 k (fun q => hk (by omega))).trans (hdIn k hk)
                    obtain ⟨I6, hI6⟩ : ∃ I6, I6 = g_up I5 (691 + (q).toNat) i (g_wby I lb q i) := ⟨_, rfl⟩
                    have hsI6 : g_off I I6 := fun k hk => by
                      rw [hI6]; funext j; rw [g_up_k (by omega)]; exact congrFun (hsI5 k hk) j
                    have hfI6 : ∀ k : Nat, k ≠ 691 + (q).toNat → I6 k = I5 k := fun k hk => by rw [hI6]; funext j; exact g_up_k hk
                    have hdI6 : ∀ k : Nat, ¬ g_sH k → I6 k = I2 k := fun k hk => (hfI6 k (by omega)).trans (hdI5 k hk)
                    have hxI6 : ∀ k j, g32 (I6 k j) := by rw [hI6]; exact g_up32 hxI5 (by exact ⟨by omega, by omega⟩)
                    refine g_iaste (I2 := I6) hc (wo_at (i := q) (by omega) (by omega)) (by decide) (by omega) (by omega) hI6.symm dX1_hear_95 ?_
                    have hz1 : I6 686 6 = g_or (g_ors (fun s => if g_vtr I lb s then g_shl 1 s else 0) i.toNat) ((fun s => if g_vtr I lb s then g_shl 1 s else 0) i) := by
                      rw [hfI6 _ (by omega), hfI5 _ (by decide)]; exact h6
                    have hz2 : (∀ τ s : Int, 0 ≤ τ → τ < m → 0 ≤ s → s < i → g_vtr I lb s → I6 (691 + τ.toNat) s = g_wby I lb τ s) := fun τ s h0 h1 h2 h3 hv => by
                      rw [hI6, g_up_i (by omega), hfI5 _ (by omega)]; exact hrown τ s h0 h1 h2 h3 hv
                    have hz3 : (∀ τ : Int, 0 ≤ τ → τ < q + 1 → I6 (691 + τ.toNat) i = g_wby I lb τ i) := fun τ h0 h1 => by
                      by_cases e : τ = q
                      · rw [e, hI6, g_up_s]
                      · rw [hI6, g_up_k (by omega), hfI5 _ (by omega)]; exact hrowk τ h0 (by omega)
                    refine g_iinc_3 hc dX1_hear_96 rfl ?_
                    refine g_goto (tgt := 68) hc dX1_hear_99 (by decide) ?_
                    refine ih_68 _ _ ?_ ?_ ?_ ?_ ?_ ?_ ?_ ?_
                    · omega
                    · exact hz1
                    · exact hz2
                    · exact hz3
                    · exact hsI6
                    · exact hxI6
                    · exact hdI6
                    · omega
            refine lp_68 (m + 1).toNat _ _ ?_ ?_ ?_ ?_ ?_ ?_ ?_ (?_)
            · omega
            · exact hy1
            · exact hy2
            · intro τ h0 h1; omega
            · exact hsI4
            · exact hxI4
            · exact hdI4
            · omega
          · skip
            refine g_aldn hc dX1_hear_43 rfl ?_
            refine g_getRk hc lk_X1_26 ca_686 (rc_686_0 hR) dX1_hear_44 ?_
            refine g_iconst hc dX1_hear_47 ?_
            refine g_V1r hc (c_X7_hasLaw w hR hxIm) my_X7_hasLaw mv_X7_hasLaw ca_548 rfl rfl lm_X1_43 rfl (by decide) (Nat.le_of_ble_eq_true rfl) hm dX1_hear_48 ?_
            rw [show Im 550 3 = I 550 3 from by rw [hsIm 550 (by decide)]]
            refine g_ifb_eq (tgt := 102) hc dX1_hear_51 (by decide)  (fun c6 => ?_) (fun c6 => ?_)
            · skip
              refine g_iinc_2 hc dX1_hear_102 rfl ?_
              refine g_goto (tgt := 7) hc dX1_hear_105 (by decide) ?_
              refine ih_7 _ _ ?_ ?_ ?_ ?_ ?_ ?_ ?_
              · omega
              · rw [g_ors_i h3.1]; first | exact h6 | (rw [if_neg (fun z => by first | exact absurd z.1 (by assumption) | (rcases z.2 with z | z; (exact absurd (by assumption) z); (exact absurd z (by assumption)))), g_or_0 g_ors32]; exact h4)
              · first | exact hrow9 | exact (fun τ s h0 h1 h2 h3 hv => by
                  by_cases e : s = i
                  · subst e; exact absurd hv (fun z => by first | exact absurd z.1 (by assumption) | (rcases z.2 with z | z; (exact absurd (by assumption) z); (exact absurd z (by assumption))))
                  · exact hrow τ s h0 h1 h2 (by omega) hv)
              · exact hsIm
              · exact hxIm
              · exact hdIm
              · omega
            · skip
              refine g_aldn hc dX1_hear_54 rfl ?_
              refine g_dup hc dX1_hear_55 rfl ?_
              refine g_getI' hc lk_X1_90 ca_686 6 rfl dX1_hear_56 ?_
              refine g_iconst hc dX1_hear_59 ?_
              refine g_iload_n hc dX1_hear_60 rfl ?_
              refine g_ishl hc dX1_hear_61 ?_
              refine g_ior hc dX1_hear_62 ?_
              obtain ⟨I7, hI7⟩ : ∃ I7, I7 = g_up Im 686 6 (g_or (Im 686 6) (g_shl 1 i)) := ⟨_, rfl⟩
              have hsI7 : g_off I I7 := fun k hk => by
                rw [hI7]; funext j; rw [g_up_k (by omega)]; exact congrFun (hsIm k hk) j
              have hfI7 : ∀ k : Nat, k ≠ 686 → I7 k = Im k := fun k hk => by rw [hI7]; funext j; exact g_up_k hk
              have hdI7 : ∀ k : Nat, ¬ g_sH k → I7 k = I2 k := fun k hk => (hfI7 k (by omega)).trans (hdIm k hk)
              have hxI7 : ∀ k j, g32 (I7 k j) := by rw [hI7]; exact g_up32 hxIm g_or32
              refine g_putIe (I2 := I7) hc lk_X1_90 ca_686 6 rfl hI7.symm dX1_hear_63 ?_
              have hy1 : I7 686 6 = g_or (g_ors (fun s => if g_vtr I lb s then g_shl 1 s else 0) i.toNat) ((fun s => if g_vtr I lb s then g_shl 1 s else 0) i) := by
                rw [hI7, g_up_s, h4]; congr 1; exact (if_pos ⟨by assumption, by first | exact Or.inl (by assumption) | exact Or.inr (by assumption)⟩).symm
              have hy2 : (∀ τ s : Int, 0 ≤ τ → τ < m → 0 ≤ s → s < i → g_vtr I lb s → I7 (691 + τ.toNat) s = g_wby I lb τ s) := fun τ s h0 h1 h2 h3 hv => by
                rw [hfI7 _ (by omega)]; exact hrow τ s h0 h1 h2 h3 hv
              refine g_iconst hc dX1_hear_66 ?_
              refine g_istore_3 hc dX1_hear_67 rfl ?_
              have lp_68 : ∀ (fu : Nat) (q : Int) (In : g_I), 0 ≤ q ∧ q ≤ m → In 686 6 = g_or (g_ors (fun s => if g_vtr I lb s then g_shl 1 s else 0) i.toNat) ((fun s => if g_vtr I lb s then g_shl 1 s else 0) i) → (∀ τ s : Int, 0 ≤ τ → τ < m → 0 ≤ s → s < i → g_vtr I lb s → In (691 + τ.toNat) s = g_wby I lb τ s) → (∀ τ : Int, 0 ≤ τ → τ < q → In (691 + τ.toNat) i = g_wby I lb τ i) → g_off I In → (∀ k j, g32 (In k j)) → (∀ k : Nat, ¬ g_sH k → In k = I2 k) → m - q < (fu : Int) → G w x (fun rr nn II JJ RR => g_rel w none g_sH I2 J R rr nn II JJ RR ∧ g_hrd I lb m II) 0 0 g_n In J R 68 [some (gvr w 686), some (gvI m), some (gvI i), some (gvI q)] [] := by
                intro fu
                induction fu with
                | zero => intro q In h5 h6 hrown hrowk hsIn hxIn hdIn hfu; exfalso; omega
                | succ fu ih =>
                  intro q In h5 h6 hrown hrowk hsIn hxIn hdIn hfu
                  have ih_68 := ih
                  refine g_iload_n hc dX1_hear_68 rfl ?_
                  refine g_iload_n hc dX1_hear_69 rfl ?_
                  refine g_icmp_ge (tgt := 102) hc dX1_hear_70 (by decide) (by first | exact hI _ _ | exact hxI2 _ _ | exact hIa _ _ | exact hIb _ _ | exact g_b32 | exact g_and32 | assumption | exact ⟨by omega, by omega⟩) (by first | exact hI _ _ | exact hxI2 _ _ | exact hIa _ _ | exact hIb _ _ | exact g_b32 | exact g_and32 | assumption | exact ⟨by omega, by omega⟩) (fun c7 => ?_) (fun c7 => ?_)
                  · skip
                    have hrow9 : (∀ τ s : Int, 0 ≤ τ → τ < m → 0 ≤ s → s < i + 1 → g_vtr I lb s → In (691 + τ.toNat) s = g_wby I lb τ s) := fun τ s h0 h1 h2 h3 hv => by
                      by_cases e : s = i
                      · subst e; exact hrowk τ h0 (by omega)
                      · exact hrown τ s h0 h1 h2 (by omega) hv
                    refine g_iinc_2 hc dX1_hear_102 rfl ?_
                    refine g_goto (tgt := 7) hc dX1_hear_105 (by decide) ?_
                    refine G_sub (L' := [some (gvr w 686), some (gvI m), some (gvI (i + 1)), none]) (show g_le _ _ from ⟨rfl, ⟨rfl, ⟨rfl, trivial⟩⟩⟩) ?_
                    refine ih_7 _ _ ?_ ?_ ?_ ?_ ?_ ?_ ?_
                    · omega
                    · rw [g_ors_i h3.1]; first | exact h6 | (rw [if_neg (fun z => by first | exact absurd z.1 (by assumption) | (rcases z.2 with z | z; (exact absurd (by assumption) z); (exact absurd z (by assumption)))), g_or_0 g_ors32]; exact h4)
                    · first | exact hrow9 | exact (fun τ s h0 h1 h2 h3 hv => by
                        by_cases e : s = i
                        · subst e; exact absurd hv (fun z => by first | exact absurd z.1 (by assumption) | (rcases z.2 with z | z; (exact absurd (by assumption) z); (exact absurd z (by assumption))))
                        · exact hrow τ s h0 h1 h2 (by omega) hv)
                    · exact hsIn
                    · exact hxIn
                    · exact hdIn
                    · omega
                  · skip
                    refine g_iload_n hc dX1_hear_73 rfl ?_
                    refine g_bipush hc dX1_hear_74 (by decide +kernel) ?_
                    refine g_icmp_ge (tgt := 102) hc dX1_hear_76 (by decide) (by first | exact hI _ _ | exact hxI2 _ _ | exact hIa _ _ | exact hIb _ _ | exact g_b32 | exact g_and32 | assumption | exact ⟨by omega, by omega⟩) (by first | exact hI _ _ | exact hxI2 _ _ | exact hIa _ _ | exact hIb _ _ | exact g_b32 | exact g_and32 | assumption | exact ⟨by omega, by omega⟩) (fun c8 => ?_) (fun c8 => ?_)
                    · exfalso; omega
                    · skip
                      refine g_aldn hc dX1_hear_79 rfl ?_
                      refine g_getRk hc lk_X1_23 ca_686 (rc_686_5 hR) dX1_hear_80 ?_
                      refine g_iload_n hc dX1_hear_83 rfl ?_
                      refine g_aaldk hc ca_690 (by decide) rfl rfl (by decide) (by omega) (by omega) (ra_690 hR (by omega) (by omega)) dX1_hear_84 ?_
                      refine g_iload_n hc dX1_hear_85 rfl ?_
                      refine g_aldn hc dX1_hear_86 rfl ?_
                      refine g_getRk hc lk_X1_26 ca_686 (rc_686_0 hR) dX1_hear_87 ?_
                      refine g_iload_n hc dX1_hear_90 rfl ?_
                      refine g_iload_n hc dX1_hear_91 rfl ?_
                      refine g_V2 hc (c_X7_worthBy w hR hlb hI hsIn hxIn hC (by omega) (by omega)) my_X7_worthBy mv_X7_worthBy ca_548 rfl rfl lm_X1_93 rfl (by decide) (Nat.le_of_ble_eq_true rfl) hm dX1_hear_92 (fun r8 n8 I8 J8 R8 hp8 => ?_)
                      obtain ⟨⟨rfl, rfl, hfI8, hxI8, rfl, rfl⟩, hb8⟩ := hp8
                      have hsI8 : g_off I I8 := fun k hk => (hfI8 k (fun q => hk (by omega))).trans (hsIn k hk)
                      have hdI8 : ∀ k : Nat, ¬ g_sH k → I8 k = I2 k := fun k hk => (hfI8 k (fun q => hk (by omega))).trans (hdIn k hk)
                      obtain ⟨I9, hI9⟩ : ∃ I9, I9 = g_up I8 (691 + (q).toNat) i (g_wby I lb q i) := ⟨_, rfl⟩
                      have hsI9 : g_off I I9 := fun k hk => by
                        rw [hI9]; funext j; rw [g_up_k (by omega)]; exact congrFun (hsI8 k hk) j
                      have hfI9 : ∀ k : Nat, k ≠ 691 + (q).toNat → I9 k = I8 k := fun k hk => by rw [hI9]; funext j; exact g_up_k hk
                      have hdI9 : ∀ k : Nat, ¬ g_sH k → I9 k = I2 k := fun k hk => (hfI9 k (by omega)).trans (hdI8 k hk)
                      have hxI9 : ∀ k j, g32 (I9 k j) := by rw [hI9]; exact g_up32 hxI8 (by exact ⟨by omega, by omega⟩)
                      refine g_iaste (I2 := I9) hc (wo_at (i := q) (by omega) (by omega)) (by decide) (by omega) (by omega) hI9.symm dX1_hear_95 ?_
                      have hz1 : I9 686 6 = g_or (g_ors (fun s => if g_vtr I lb s then g_shl 1 s else 0) i.toNat) ((fun s => if g_vtr I lb s then g_shl 1 s else 0) i) := by
                        rw [hfI9 _ (by omega), hfI8 _ (by decide)]; exact h6
                      have hz2 : (∀ τ s : Int, 0 ≤ τ → τ < m → 0 ≤ s → s < i → g_vtr I lb s → I9 (691 + τ.toNat) s = g_wby I lb τ s) := fun τ s h0 h1 h2 h3 hv => by
                        rw [hI9, g_up_i (by omega), hfI8 _ (by omega)]; exact hrown τ s h0 h1 h2 h3 hv
                      have hz3 : (∀ τ : Int, 0 ≤ τ → τ < q + 1 → I9 (691 + τ.toNat) i = g_wby I lb τ i) := fun τ h0 h1 => by
                        by_cases e : τ = q
                        · rw [e, hI9, g_up_s]
                        · rw [hI9, g_up_k (by omega), hfI8 _ (by omega)]; exact hrowk τ h0 (by omega)
                      refine g_iinc_3 hc dX1_hear_96 rfl ?_
                      refine g_goto (tgt := 68) hc dX1_hear_99 (by decide) ?_
                      refine ih_68 _ _ ?_ ?_ ?_ ?_ ?_ ?_ ?_ ?_
                      · omega
                      · exact hz1
                      · exact hz2
                      · exact hz3
                      · exact hsI9
                      · exact hxI9
                      · exact hdI9
                      · omega
              refine lp_68 (m + 1).toNat _ _ ?_ ?_ ?_ ?_ ?_ ?_ ?_ (?_)
              · omega
              · exact hy1
              · exact hy2
              · intro τ h0 h1; omega
              · exact hsI7
              · exact hxI7
              · exact hdI7
              · omega
  refine lp_7 (I lb 0 + 1).toNat _ _ ?_ ?_ ?_ ?_ ?_ ?_ (?_)
  · omega
  · rw [hI3, g_up_s]; rfl
  · intro τ s _ _ _ _; omega
  · exact hsI3
  · exact hxI3
  · exact hdI3
  · omega
