theorem x_sumlt {W : Int → Int} {s : Int} (hs : 0 ≤ s) : ∀ n : Nat, g_sum (fun t => if t < s ∧ 0 < W t then 1 else 0) n = g_sum (fun t => if 0 < W t then 1 else 0) (min n s.toNat)
  | 0 => by rw [Nat.zero_min]; rfl
  | n + 1 => by
    rw [g_sum, x_sumlt hs n]
    by_cases h : (n : Int) < s
    · rw [show min (n + 1) s.toNat = min n s.toNat + 1 by omega, g_sum, show ((min n s.toNat : Nat) : Int) = n by omega]
      by_cases h2 : 0 < W n
      · rw [if_pos ⟨h, h2⟩, if_pos h2]
      · rw [if_neg (fun z => h2 z.2), if_neg h2]
    · rw [show min (n + 1) s.toNat = min n s.toNat by omega, if_neg (fun z => h z.1), Int.add_zero]
theorem x_wgt {I : g_I} {b : Nat} (hC : g_cin I b) {s : Int} (h1 : 0 ≤ s ∧ s < I b 0) : 0 ≤ g_wgt I b s ∧ g_wgt I b s ≤ 12003601 := by
  have h := q_rgs_in hC h1
  have h3 : (g_rgs I b s).tdiv 100 = g_rgs I b s / 100 := Int.tdiv_eq_ediv_of_nonneg h.1
  unfold g_wgt
  split <;> omega
theorem x_hmn {I : g_I} {b : Nat} {s x i : Int} (h : 0 ≤ i) : g_hmn I b s x (i + 1).toNat = ((g_hmn I b s x i.toNat).1 + (if (g_dsf I b (g_hmn I b s x i.toNat).2).1 = s then 1 else 0), (g_dsf I b (g_hmn I b s x i.toNat).2).2) := by
  rw [show (i + 1).toNat = i.toNat + 1 by omega, g_hmn]
set_option maxHeartbeats 4000000 in
set_option maxRecDepth 100000 in
/-- X13_share -/
theorem c_X13_share (w : g_W) {I : g_I} {J : g_J} {R : g_R} {lb tx : Nat} (hR : g_rf w R lb tx) {M : g_I} (hmM : q_rel I lb M) {s p : Int} (g1 : g32 s) (g2 : g32 p) : g_Met w g_n M J R yX13_share cX13_share 9 (some .int) 59 0 0 [(gvr w 703), (gvI s), (gvI p)] (x_rel w (some (gvI (if (0 ≤ s ∧ s < I lb 0) ∧ g_thr I lb s = true ∧ 0 ≤ p ∧ p ≤ 9999 then g_sho I lb s p else -1))) x_a M J lb) := by
  refine g_intro (own := RX13) [some (gvr w 703), some (gvI s), some (gvI p), none, none, none, none, none, none] (by decide +kernel) rfl (by decide) (Nat.le_of_ble_eq_true rfl) rfl (fun i v hv => g_args 6 i v hv rfl) (fun x hc hm => ?_)
  have hfM : ∀ (k : Nat) (j : Int), ¬ x_a k j → M k j = M k j := fun _ _ _ => rfl
  have hI := hmM.gi
  have hTb := q_b1 hmM
  have hLv := hmM.lv
  have hC := hmM.cin
  have hL := hC.1
  obtain ⟨hn0, hn1, hLs, hLf⟩ := id hL
  obtain ⟨-, hC1, hC2, hC3, hC4, hC5, hC6, hC7⟩ := id hC
  have hN0 := q_n0 hmM
  refine g_aldn hc dX13_share_0 rfl ?_
  refine g_iconst hc dX13_share_1 ?_
  refine g_putI' hc lk_X13_102 ca_703 0 rfl dX13_share_2 (fun I3 hI3 => ?_)
  have hmI3 : q_rel I lb I3 := by rw [hI3]; exact q_up hmM (by unfold x_a; omega) (by first | exact hI _ _ | exact hmM.g _ _ | exact g_b32 | exact g_and32 | exact g_or32 | exact g_shl32 | assumption | exact ⟨by omega, by omega⟩)
  have hfI3 : ∀ (k : Nat) (j : Int), ¬ x_a k j → I3 k j = M k j := fun k j hk => by rw [hI3]; exact (g_up_n (by unfold x_a at hk; omega)).trans (hfM k j hk)
  refine g_aldn hc dX13_share_5 rfl ?_
  refine g_iload_n hc dX13_share_6 rfl ?_
  refine g_V1r hc (c_X13_isSelf w hR hmI3 (by first | exact hI _ _ | exact hmM.g _ _ | exact g_b32 | exact g_and32 | exact g_or32 | exact g_shl32 | assumption | exact ⟨by omega, by omega⟩)) my_X13_isSelf mv_X13_isSelf ca_703 rfl rfl lm_X13_313 rfl (by decide) (Nat.le_of_ble_eq_true rfl) hm dX13_share_7 ?_
  refine g_ifb_eq (tgt := 33) hc dX13_share_10 (by decide)  (fun c1 => ?_) (fun c1 => ?_)
  · skip
    have hng : ¬ ((0 ≤ s ∧ s < I lb 0) ∧ g_thr I lb s = true ∧ 0 ≤ p ∧ p ≤ 9999) := fun z => by omega
    refine g_iconst hc dX13_share_33 ?_
    refine g_iret hc hm dX13_share_34 ?_
    exact x_end (by rw [if_neg hng]) hfI3 hmI3.g hR
  · skip
    have h1 : 0 ≤ s ∧ s < I lb 0 := c1
    have hTs := q_ts hmM (by omega)
    refine g_iload_n hc dX13_share_13 rfl ?_
    refine g_i2l hc dX13_share_14 (by first | exact hI _ _ | exact hxI2 _ _ | exact hIa _ _ | exact hIb _ _ | exact g_b32 | exact g_and32 | assumption | exact ⟨by omega, by omega⟩) ?_
    refine g_lconst hc dX13_share_15 0 (by decide +kernel) ?_
    refine g_ldc2 (k := 9999) hc dX13_share_16 _ lc_X13_399 (by decide +kernel) ?_
    refine g_S3r hc (c_X13_isIn w (by first | exact hI _ _ | exact hmM.g _ _ | exact g_b32 | exact g_and32 | exact g_or32 | exact g_shl32 | assumption | exact ⟨by omega, by omega⟩) (by first | exact hI _ _ | exact hmM.g _ _ | exact g_b32 | exact g_and32 | exact g_or32 | exact g_shl32 | assumption | exact ⟨by omega, by omega⟩) (by first | exact hI _ _ | exact hmM.g _ _ | exact g_b32 | exact g_and32 | exact g_or32 | exact g_shl32 | assumption | exact ⟨by omega, by omega⟩)) my_X13_isIn ms_X13_isIn lm_X13_231 rfl (by decide) (Nat.le_of_ble_eq_true rfl) hm dX13_share_19 ?_
    refine g_ifb_eq (tgt := 33) hc dX13_share_22 (by decide)  (fun c2 => ?_) (fun c2 => ?_)
    · skip
      have hng : ¬ ((0 ≤ s ∧ s < I lb 0) ∧ g_thr I lb s = true ∧ 0 ≤ p ∧ p ≤ 9999) := fun z => by omega
      refine g_iconst hc dX13_share_33 ?_
      refine g_iret hc hm dX13_share_34 ?_
      exact x_end (by rw [if_neg hng]) hfI3 hmI3.g hR
    · skip
      have hp9 : 0 ≤ p ∧ p ≤ 9999 := by omega
      refine g_aldn hc dX13_share_25 rfl ?_
      refine g_iload_n hc dX13_share_26 rfl ?_
      refine g_V1 hc (c_X13_isThere w hR hmI3 (by omega)) my_X13_isThere mv_X13_isThere ca_703 rfl rfl lm_X13_324 rfl (by decide) (Nat.le_of_ble_eq_true rfl) hm dX13_share_27 (fun r4 n4 I4 J4 R4 hp4 => ?_)
      obtain ⟨rfl, rfl, hK4, hX4, rfl, t4, hR⟩ := hp4
      have hmI4 : q_rel I lb I4 := q_cg (fun k j hk => hK4 k j (fun z => hk (x_wa z))) hX4 hmI3
      have hfI4 : ∀ (k : Nat) (j : Int), ¬ x_a k j → I4 k j = M k j := fun k j hk => (hK4 k j (fun z => hk (x_wa z))).trans (hfI3 k j hk)
      refine g_ifb_ne (tgt := 35) hc dX13_share_30 (by decide)  (fun c3 => ?_) (fun c3 => ?_)
      · skip
        have hpg : (0 ≤ s ∧ s < I lb 0) ∧ g_thr I lb s = true ∧ 0 ≤ p ∧ p ≤ 9999 := ⟨h1, c3, hp9⟩
        have hws := x_wgt hC h1
        refine g_lconst hc dX13_share_35 0 (by decide +kernel) ?_
        refine g_lstore_3 hc dX13_share_36 rfl ?_
        refine g_iconst hc dX13_share_37 ?_
        refine g_istore_5 hc dX13_share_38 rfl ?_
        have lp_40 : ∀ (fu : Nat) (S i : Int) (Mm : g_I) (Rm : g_R), 0 ≤ i ∧ i ≤ I lb 0 → S = g_sum (g_wgt I lb) i.toNat → (0 ≤ S ∧ S ≤ 12003601 * i) → (∃ tm, g_rf w Rm lb tm) → q_rel I lb Mm → (∀ (k : Nat) (j : Int), ¬ x_a k j → Mm k j = M k j) → I lb 0 - i < (fu : Int) → G w x (x_rel w (some (gvI (if (0 ≤ s ∧ s < I lb 0) ∧ g_thr I lb s = true ∧ 0 ≤ p ∧ p ≤ 9999 then g_sho I lb s p else -1))) x_a M J lb) 0 0 g_n Mm J Rm 40 [some (gvr w 703), some (gvI s), some (gvI p), some (gvL S), none, some (gvI i), none, none, none] [] := by
          intro fu
          induction fu with
          | zero => intro S i Mm Rm h3 h4 h5 hR hmMm hfMm hfu; exfalso; omega
          | succ fu ih =>
            intro S i Mm Rm h3 h4 h5 hR hmMm hfMm hfu
            obtain ⟨tm, hR⟩ := hR
            have ih_40 := ih
            refine g_iload hc dX13_share_40 rfl ?_
            refine g_aldn hc dX13_share_42 rfl ?_
            refine g_getRk hc lk_X13_46 ca_703 (rc_703_21 hR) dX13_share_43 ?_
            refine g_aldn hc dX13_share_46 rfl ?_
            refine g_getIe hc lk_X13_52 ca_703 24 rfl (show Mm 703 24 = I 0 12 from hmMm.tab) dX13_share_47 ?_
            refine g_ialde hc ca_711 (by decide) (by omega) (by omega) (show Mm 711 (I 0 12) = I lb 0 from q_lm hmMm (by omega)) dX13_share_50 ?_
            refine g_icmp_ge (tgt := 69) hc dX13_share_51 (by decide) (by first | exact hI _ _ | exact hxI2 _ _ | exact hIa _ _ | exact hIb _ _ | exact g_b32 | exact g_and32 | assumption | exact ⟨by omega, by omega⟩) (by first | exact hI _ _ | exact hxI2 _ _ | exact hIa _ _ | exact hIb _ _ | exact g_b32 | exact g_and32 | assumption | exact ⟨by omega, by omega⟩) (fun c4 => ?_) (fun c4 => ?_)
            · skip
              have hS9 : S = g_wsm I lb := by rw [h4, g_wsm, show I lb 0 = i by omega]
              refine g_lload_n hc dX13_share_69 rfl ?_
              refine g_lconst hc dX13_share_70 0 (by decide +kernel) ?_
              refine g_lcmp hc dX13_share_71 (by exact ⟨by omega, by omega⟩) (by exact ⟨by omega, by omega⟩) ?_
              refine g_if_ne (tgt := 77) hc dX13_share_72 (by decide) (by split <;> first | exact ⟨by decide, by decide⟩ | (split <;> exact ⟨by decide, by decide⟩)) (fun c5 => ?_) (fun c5 => ?_)
              · skip
                have hsn : ¬ S = 0 := (by split at c5 <;> first | omega | (split at c5 <;> omega))
                refine g_iload_n hc dX13_share_77 rfl ?_
                refine g_i2l hc dX13_share_78 (by first | exact hI _ _ | exact hxI2 _ _ | exact hIa _ _ | exact hIb _ _ | exact g_b32 | exact g_and32 | assumption | exact ⟨by omega, by omega⟩) ?_
                refine g_lstore_5 hc dX13_share_79 rfl ?_
                refine g_iconst hc dX13_share_81 ?_
                refine g_istore_7 hc dX13_share_82 rfl ?_
                have lp_84 : ∀ (fu : Nat) (rest u : Int) (Mm : g_I) (Rm : g_R), 0 ≤ u ∧ u ≤ I lb 0 → rest = p - g_sum (fun t => (p * g_wgt I lb t).tdiv S) u.toNat → (-(120024006399 * u) ≤ rest ∧ rest ≤ 9999) → (∃ tm, g_rf w Rm lb tm) → q_rel I lb Mm → (∀ (k : Nat) (j : Int), ¬ x_a k j → Mm k j = M k j) → I lb 0 - u < (fu : Int) → G w x (x_rel w (some (gvI (if (0 ≤ s ∧ s < I lb 0) ∧ g_thr I lb s = true ∧ 0 ≤ p ∧ p ≤ 9999 then g_sho I lb s p else -1))) x_a M J lb) 0 0 g_n Mm J Rm 84 [some (gvr w 703), some (gvI s), some (gvI p), some (gvL S), none, some (gvL rest), none, some (gvI u), none] [] := by
                  intro fu
                  induction fu with
                  | zero => intro rest u Mm Rm k3 k4 k5 hR hmMm hfMm hfu; exfalso; omega
                  | succ fu ih =>
                    intro rest u Mm Rm k3 k4 k5 hR hmMm hfMm hfu
                    obtain ⟨tm, hR⟩ := hR
                    have ih_84 := ih
                    refine g_iload hc dX13_share_84 rfl ?_
                    refine g_aldn hc dX13_share_86 rfl ?_
                    refine g_getRk hc lk_X13_46 ca_703 (rc_703_21 hR) dX13_share_87 ?_
                    refine g_aldn hc dX13_share_90 rfl ?_
                    refine g_getIe hc lk_X13_52 ca_703 24 rfl (show Mm 703 24 = I 0 12 from hmMm.tab) dX13_share_91 ?_
                    refine g_ialde hc ca_711 (by decide) (by omega) (by omega) (show Mm 711 (I 0 12) = I lb 0 from q_lm hmMm (by omega)) dX13_share_94 ?_
                    refine g_icmp_ge (tgt := 120) hc dX13_share_95 (by decide) (by first | exact hI _ _ | exact hxI2 _ _ | exact hIa _ _ | exact hIb _ _ | exact g_b32 | exact g_and32 | assumption | exact ⟨by omega, by omega⟩) (by first | exact hI _ _ | exact hxI2 _ _ | exact hIa _ _ | exact hIb _ _ | exact g_b32 | exact g_and32 | assumption | exact ⟨by omega, by omega⟩) (fun c6 => ?_) (fun c6 => ?_)
                    · skip
                      refine g_iconst hc dX13_share_120 ?_
                      refine g_istore_7 hc dX13_share_121 rfl ?_
                      refine g_iconst hc dX13_share_123 ?_
                      refine g_istore_8 hc dX13_share_124 rfl ?_
                      have lp_126 : ∀ (fu : Nat) (n v : Int) (Mm : g_I) (Rm : g_R), 0 ≤ v ∧ v ≤ s → n = g_sum (fun t => if 0 < g_wgt I lb t then 1 else 0) v.toNat → (0 ≤ n ∧ n ≤ v) → (∃ tm, g_rf w Rm lb tm) → q_rel I lb Mm → (∀ (k : Nat) (j : Int), ¬ x_a k j → Mm k j = M k j) → s - v < (fu : Int) → G w x (x_rel w (some (gvI (if (0 ≤ s ∧ s < I lb 0) ∧ g_thr I lb s = true ∧ 0 ≤ p ∧ p ≤ 9999 then g_sho I lb s p else -1))) x_a M J lb) 0 0 g_n Mm J Rm 126 [some (gvr w 703), some (gvI s), some (gvI p), some (gvL S), none, some (gvL rest), none, some (gvI n), some (gvI v)] [] := by
                        intro fu
                        induction fu with
                        | zero => intro n v Mm Rm m3 m4 m5 hR hmMm hfMm hfu; exfalso; omega
                        | succ fu ih =>
                          intro n v Mm Rm m3 m4 m5 hR hmMm hfMm hfu
                          obtain ⟨tm, hR⟩ := hR
                          have ih_126 := ih
                          refine g_iload hc dX13_share_126 rfl ?_
                          refine g_iload_n hc dX13_share_128 rfl ?_
                          refine g_icmp_ge (tgt := 159) hc dX13_share_129 (by decide) (by first | exact hI _ _ | exact hxI2 _ _ | exact hIa _ _ | exact hIb _ _ | exact g_b32 | exact g_and32 | assumption | exact ⟨by omega, by omega⟩) (by first | exact hI _ _ | exact hxI2 _ _ | exact hIa _ _ | exact hIb _ _ | exact g_b32 | exact g_and32 | assumption | exact ⟨by omega, by omega⟩) (fun c7 => ?_) (fun c7 => ?_)
                          · skip
                            have hcn : g_sum (fun t => if t < s ∧ 0 < g_wgt I lb t then 1 else 0) (I lb 0).toNat = n := by rw [x_sumlt (by omega), show min (I lb 0).toNat s.toNat = v.toNat by omega]; exact m4.symm
                            have hrs : rest = p - g_sum (fun t => (p * g_wgt I lb t).tdiv S) (I lb 0).toNat := by rw [k4, show I lb 0 = u by omega]
                            have hmb := g_mulb (a := p) (b := g_wgt I lb s) (m := 9999) (n := 12003601) (by omega) (by omega)
                            have hmn : 0 ≤ p * g_wgt I lb s := Int.mul_nonneg (by omega) (by omega)
                            have htd := g_tdiv1 (p := p * g_wgt I lb s) (c := S) hmn (by omega)
                            refine g_iload_n hc dX13_share_159 rfl ?_
                            refine g_i2l hc dX13_share_160 (by first | exact hI _ _ | exact hxI2 _ _ | exact hIa _ _ | exact hIb _ _ | exact g_b32 | exact g_and32 | assumption | exact ⟨by omega, by omega⟩) ?_
                            refine g_aldn hc dX13_share_161 rfl ?_
                            refine g_iload_n hc dX13_share_162 rfl ?_
                            refine g_V1 hc (c_X13_weightOf w hR hmMm (by omega)) my_X13_weightOf mv_X13_weightOf ca_703 rfl rfl lm_X13_401 rfl (by decide) (Nat.le_of_ble_eq_true rfl) hm dX13_share_163 (fun r5 n5 I5 J5 R5 hp5 => ?_)
                            obtain ⟨rfl, rfl, hK5, hX5, rfl, t5, hR⟩ := hp5
                            have hmI5 : q_rel I lb I5 := q_cg hK5 hX5 hmMm
                            have hfI5 : ∀ (k : Nat) (j : Int), ¬ x_a k j → I5 k j = M k j := fun k j hk => (hK5 k j hk).trans (hfMm k j hk)
                            refine g_lmul hc dX13_share_166 ?_
                            refine g_lload_n hc dX13_share_167 rfl ?_
                            refine g_ldiv hc dX13_share_168 (by exact ⟨by omega, by omega⟩) (by exact ⟨by omega, by omega⟩) (by omega) ?_
                            refine g_l2i hc dX13_share_169 ?_
                            refine g_aldn hc dX13_share_170 rfl ?_
                            refine g_iload_n hc dX13_share_171 rfl ?_
                            refine g_V1 hc (c_X13_weightOf w hR hmI5 (by omega)) my_X13_weightOf mv_X13_weightOf ca_703 rfl rfl lm_X13_401 rfl (by decide) (Nat.le_of_ble_eq_true rfl) hm dX13_share_172 (fun r6 n6 I6 J6 R6 hp6 => ?_)
                            obtain ⟨rfl, rfl, hK6, hX6, rfl, t6, hR⟩ := hp6
                            have hmI6 : q_rel I lb I6 := q_cg hK6 hX6 hmI5
                            have hfI6 : ∀ (k : Nat) (j : Int), ¬ x_a k j → I6 k j = M k j := fun k j hk => (hK6 k j hk).trans (hfI5 k j hk)
                            refine g_lconst hc dX13_share_175 0 (by decide +kernel) ?_
                            refine g_lcmp hc dX13_share_176 (by exact ⟨by omega, by omega⟩) (by exact ⟨by omega, by omega⟩) ?_
                            refine g_if_le (tgt := 193) hc dX13_share_177 (by decide) (by split <;> first | exact ⟨by decide, by decide⟩ | (split <;> exact ⟨by decide, by decide⟩)) (fun c8 => ?_) (fun c8 => ?_)
                            · skip
                              have hfin : ¬ (0 < g_wgt I lb s ∧ g_sum (fun t => if t < s ∧ 0 < g_wgt I lb t then 1 else 0) (I lb 0).toNat < p - g_sum (fun t => (p * g_wgt I lb t).tdiv S) (I lb 0).toNat) := fun z => absurd z.1 (by split at c8 <;> first | omega | (split at c8 <;> omega))
                              refine g_iconst hc dX13_share_193 ?_
                              refine g_iadd hc dX13_share_194 ?_
                              refine g_iret hc hm dX13_share_195 ?_
                              exact x_end (by rw [if_pos hpg, g_sho, ← hS9, if_neg hsn, if_neg hfin]) hfI6 hmI6.g hR
                            · skip
                              have hw0 : 0 < g_wgt I lb s := (by split at c8 <;> first | omega | (split at c8 <;> omega))
                              refine g_iload hc dX13_share_180 rfl ?_
                              refine g_i2l hc dX13_share_182 (by first | exact hI _ _ | exact hxI2 _ _ | exact hIa _ _ | exact hIb _ _ | exact g_b32 | exact g_and32 | assumption | exact ⟨by omega, by omega⟩) ?_
                              refine g_lload hc dX13_share_183 rfl ?_
                              refine g_lcmp hc dX13_share_185 (by exact ⟨by omega, by omega⟩) (by exact ⟨by omega, by omega⟩) ?_
                              refine g_if_ge (tgt := 193) hc dX13_share_186 (by decide) (by split <;> first | exact ⟨by decide, by decide⟩ | (split <;> exact ⟨by decide, by decide⟩)) (fun c9 => ?_) (fun c9 => ?_)
                              · skip
                                have hle : ¬ n < rest := (by split at c9 <;> first | omega | (split at c9 <;> omega))
                                have hfin : ¬ (0 < g_wgt I lb s ∧ g_sum (fun t => if t < s ∧ 0 < g_wgt I lb t then 1 else 0) (I lb 0).toNat < p - g_sum (fun t => (p * g_wgt I lb t).tdiv S) (I lb 0).toNat) := fun z => by have z2 := z.2; rw [hcn, ← hrs] at z2; exact hle z2
                                refine g_iconst hc dX13_share_193 ?_
                                refine g_iadd hc dX13_share_194 ?_
                                refine g_iret hc hm dX13_share_195 ?_
                                exact x_end (by rw [if_pos hpg, g_sho, ← hS9, if_neg hsn, if_neg hfin]) hfI6 hmI6.g hR
                              · skip
                                have hlt : n < rest := (by split at c9 <;> first | omega | (split at c9 <;> omega))
                                have hfin : (0 < g_wgt I lb s ∧ g_sum (fun t => if t < s ∧ 0 < g_wgt I lb t then 1 else 0) (I lb 0).toNat < p - g_sum (fun t => (p * g_wgt I lb t).tdiv S) (I lb 0).toNat) := ⟨hw0, by rw [hcn, ← hrs]; exact hlt⟩
                                refine g_iconst hc dX13_share_189 ?_
                                refine g_goto (tgt := 194) hc dX13_share_190 (by decide) ?_
                                refine g_iadd hc dX13_share_194 ?_
                                refine g_iret hc hm dX13_share_195 ?_
                                exact x_end (by rw [if_pos hpg, g_sho, ← hS9, if_neg hsn, if_pos hfin]) hfI6 hmI6.g hR
                          · skip
                            have hwi := x_wgt hC (s := v) (by omega)
                            refine g_iload hc dX13_share_132 rfl ?_
                            refine g_aldn hc dX13_share_134 rfl ?_
                            refine g_iload hc dX13_share_135 rfl ?_
                            refine g_V1 hc (c_X13_weightOf w hR hmMm (by omega)) my_X13_weightOf mv_X13_weightOf ca_703 rfl rfl lm_X13_401 rfl (by decide) (Nat.le_of_ble_eq_true rfl) hm dX13_share_137 (fun r7 n7 I7 J7 R7 hp7 => ?_)
                            obtain ⟨rfl, rfl, hK7, hX7, rfl, t7, hR⟩ := hp7
                            have hmI7 : q_rel I lb I7 := q_cg hK7 hX7 hmMm
                            have hfI7 : ∀ (k : Nat) (j : Int), ¬ x_a k j → I7 k j = M k j := fun k j hk => (hK7 k j hk).trans (hfMm k j hk)
                            refine g_lconst hc dX13_share_140 0 (by decide +kernel) ?_
                            refine g_lcmp hc dX13_share_141 (by exact ⟨by omega, by omega⟩) (by exact ⟨by omega, by omega⟩) ?_
                            refine g_if_le (tgt := 149) hc dX13_share_142 (by decide) (by split <;> first | exact ⟨by decide, by decide⟩ | (split <;> exact ⟨by decide, by decide⟩)) (fun c10 => ?_) (fun c10 => ?_)
                            · skip
                              have hw0 : ¬ 0 < g_wgt I lb v := (by split at c10 <;> first | omega | (split at c10 <;> omega))
                              refine g_iconst hc dX13_share_149 ?_
                              refine g_iadd hc dX13_share_150 ?_
                              refine g_istore_7 hc dX13_share_151 rfl ?_
                              refine g_iinc_8 hc dX13_share_153 rfl ?_
                              refine g_goto (tgt := 126) hc dX13_share_156 (by decide) ?_
                              refine ih_126 _ _ _ _ ?_ ?_ ?_ ?_ ?_ ?_ ?_
                              · omega
                              · rw [g_sum_i m3.1, m4]; rw [if_neg hw0]
                              · omega
                              · exact ⟨_, hR⟩
                              · exact hmI7
                              · exact hfI7
                              · omega
                            · skip
                              have hw0 : 0 < g_wgt I lb v := (by split at c10 <;> first | omega | (split at c10 <;> omega))
                              refine g_iconst hc dX13_share_145 ?_
                              refine g_goto (tgt := 150) hc dX13_share_146 (by decide) ?_
                              refine g_iadd hc dX13_share_150 ?_
                              refine g_istore_7 hc dX13_share_151 rfl ?_
                              refine g_iinc_8 hc dX13_share_153 rfl ?_
                              refine g_goto (tgt := 126) hc dX13_share_156 (by decide) ?_
                              refine ih_126 _ _ _ _ ?_ ?_ ?_ ?_ ?_ ?_ ?_
                              · omega
                              · rw [g_sum_i m3.1, m4]; rw [if_pos hw0]
                              · omega
                              · exact ⟨_, hR⟩
                              · exact hmI7
                              · exact hfI7
                              · omega
                      refine lp_126 13 _ _ _ _ ?_ ?_ ?_ ?_ ?_ ?_ (?_)
                      · omega
                      · rfl
                      · omega
                      · exact ⟨_, hR⟩
                      · exact hmMm
                      · exact hfMm
                      · omega
                    · skip
                      have hwi := x_wgt hC (s := u) (by omega)
                      have hmb := g_mulb (a := p) (b := g_wgt I lb u) (m := 9999) (n := 12003601) (by omega) (by omega)
                      have hmn : 0 ≤ p * g_wgt I lb u := Int.mul_nonneg (by omega) (by omega)
                      have htd := g_tdiv1 (p := p * g_wgt I lb u) (c := S) hmn (by omega)
                      refine g_lload hc dX13_share_98 rfl ?_
                      refine g_iload_n hc dX13_share_100 rfl ?_
                      refine g_i2l hc dX13_share_101 (by first | exact hI _ _ | exact hxI2 _ _ | exact hIa _ _ | exact hIb _ _ | exact g_b32 | exact g_and32 | assumption | exact ⟨by omega, by omega⟩) ?_
                      refine g_aldn hc dX13_share_102 rfl ?_
                      refine g_iload hc dX13_share_103 rfl ?_
                      refine g_V1 hc (c_X13_weightOf w hR hmMm (by omega)) my_X13_weightOf mv_X13_weightOf ca_703 rfl rfl lm_X13_401 rfl (by decide) (Nat.le_of_ble_eq_true rfl) hm dX13_share_105 (fun r8 n8 I8 J8 R8 hp8 => ?_)
                      obtain ⟨rfl, rfl, hK8, hX8, rfl, t8, hR⟩ := hp8
                      have hmI8 : q_rel I lb I8 := q_cg hK8 hX8 hmMm
                      have hfI8 : ∀ (k : Nat) (j : Int), ¬ x_a k j → I8 k j = M k j := fun k j hk => (hK8 k j hk).trans (hfMm k j hk)
                      refine g_lmul hc dX13_share_108 ?_
                      refine g_lload_n hc dX13_share_109 rfl ?_
                      refine g_ldiv hc dX13_share_110 (by exact ⟨by omega, by omega⟩) (by exact ⟨by omega, by omega⟩) (by omega) ?_
                      refine g_lsub hc dX13_share_111 ?_
                      refine g_lstore_5 hc dX13_share_112 rfl ?_
                      refine g_iinc_7 hc dX13_share_114 rfl ?_
                      refine g_goto (tgt := 84) hc dX13_share_117 (by decide) ?_
                      refine ih_84 _ _ _ _ ?_ ?_ ?_ ?_ ?_ ?_ ?_
                      · omega
                      · rw [g_sum_i k3.1, k4]; omega
                      · omega
                      · exact ⟨_, hR⟩
                      · exact hmI8
                      · exact hfI8
                      · omega
                refine lp_84 13 _ _ _ _ ?_ ?_ ?_ ?_ ?_ ?_ (?_)
                · omega
                · show p = p - 0; omega
                · omega
                · exact ⟨_, hR⟩
                · exact hmMm
                · exact hfMm
                · omega
              · skip
                have hs0 : S = 0 := (by split at c5 <;> first | omega | (split at c5 <;> omega))
                refine g_iconst hc dX13_share_75 ?_
                refine g_iret hc hm dX13_share_76 ?_
                exact x_end (by rw [if_pos hpg, g_sho, if_pos (hS9.symm.trans hs0)]) hfMm hmMm.g hR
            · skip
              have hwi := x_wgt hC (s := i) (by omega)
              refine g_lload_n hc dX13_share_54 rfl ?_
              refine g_aldn hc dX13_share_55 rfl ?_
              refine g_iload hc dX13_share_56 rfl ?_
              refine g_V1 hc (c_X13_weightOf w hR hmMm (by omega)) my_X13_weightOf mv_X13_weightOf ca_703 rfl rfl lm_X13_401 rfl (by decide) (Nat.le_of_ble_eq_true rfl) hm dX13_share_58 (fun r9 n9 I9 J9 R9 hp9 => ?_)
              obtain ⟨rfl, rfl, hK9, hX9, rfl, t9, hR⟩ := hp9
              have hmI9 : q_rel I lb I9 := q_cg hK9 hX9 hmMm
              have hfI9 : ∀ (k : Nat) (j : Int), ¬ x_a k j → I9 k j = M k j := fun k j hk => (hK9 k j hk).trans (hfMm k j hk)
              refine g_ladd hc dX13_share_61 ?_
              refine g_lstore_3 hc dX13_share_62 rfl ?_
              refine g_iinc_5 hc dX13_share_63 rfl ?_
              refine g_goto (tgt := 40) hc dX13_share_66 (by decide) ?_
              refine ih_40 _ _ _ _ ?_ ?_ ?_ ?_ ?_ ?_ ?_
              · omega
              · rw [g_sum_i h3.1, h4]
              · omega
              · exact ⟨_, hR⟩
              · exact hmI9
              · exact hfI9
              · omega
        refine lp_40 13 _ _ _ _ ?_ ?_ ?_ ?_ ?_ ?_ (?_)
        · omega
        · rfl
        · omega
        · exact ⟨_, hR⟩
        · exact hmI4
        · exact hfI4
        · omega
      · skip
        have hng : ¬ ((0 ≤ s ∧ s < I lb 0) ∧ g_thr I lb s = true ∧ 0 ≤ p ∧ p ≤ 9999) := fun z => c3 z.2.1
        refine g_iconst hc dX13_share_33 ?_
        refine g_iret hc hm dX13_share_34 ?_
        exact x_end (by rw [if_neg hng]) hfI4 hmI4.g hR
