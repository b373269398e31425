set_option maxHeartbeats 4000000 in
set_option maxRecDepth 100000 in
/-- J6_signum_0f7a4 -/
theorem c_J6_signum_0f7a4 (w : g_W) {I : g_I} {J : g_J} {R : g_R} {a : Int} (h1 : -2147483648 < a ∧ a < 2147483648) : g_Met w g_n I J R yJ6_signum_0f7a4 cJ6_signum_0f7a4 1 (some .int) 0 0 0 [(gvI a)] (g_post (some (gvI (if a < 0 then -1 else if a = 0 then 0 else 1))) g_n I J R) := by
  refine g_intro (own := RJ6) [some (gvI a)] (by decide +kernel) rfl (by decide) (Nat.le_of_ble_eq_true rfl) rfl (fun i v hv => g_args 0 i v hv rfl) (fun x hc hm => ?_)
  refine g_iload_n hc dJ6_signum_0f7a4_0 rfl ?_
  refine g_bipush hc dJ6_signum_0f7a4_1 (by decide +kernel) ?_
  refine g_ishr hc dJ6_signum_0f7a4_3 ?_
  refine g_iload_n hc dJ6_signum_0f7a4_4 rfl ?_
  refine g_ineg hc dJ6_signum_0f7a4_5 ?_
  refine g_bipush hc dJ6_signum_0f7a4_6 (by decide +kernel) ?_
  refine g_iushr hc dJ6_signum_0f7a4_8 ?_
  refine g_ior hc dJ6_signum_0f7a4_9 ?_
  refine g_iret hc hm dJ6_signum_0f7a4_10 ?_
  exact g_postE (by rw [q_sig h1])
set_option maxHeartbeats 4000000 in
set_option maxRecDepth 100000 in
/-- X13_behind -/
theorem c_X13_behind (w : g_W) {I : g_I} {J : g_J} {R : g_R} {lb tx : Nat} (hR : g_rf w R lb tx) {M : g_I} (hmM : q_rel I lb M) {f : Int} (h1 : 0 ≤ f ∧ f < I lb 1) : g_Met w g_n M J R yX13_behind cX13_behind 5 (some .int) 2 0 0 [(gvr w 703), (gvI f)] (x_rel w (some (gvI (I (lb + 45) f))) x_w M J lb) := by
  refine g_intro (own := RX13) [some (gvr w 703), some (gvI f), none, none, none] (by decide +kernel) rfl (by decide) (Nat.le_of_ble_eq_true rfl) rfl (fun i v hv => g_args 3 i v hv rfl) (fun x hc hm => ?_)
  have hfM : ∀ (k : Nat) (j : Int), ¬ x_w k j → M k j = M k j := fun _ _ _ => rfl
  have hI := hmM.gi
  have hTb := q_b1 hmM
  have hLv := hmM.lv
  have hC := hmM.cin
  have hL := hC.1
  obtain ⟨hn0, hn1, hLs, hLf⟩ := id hL
  obtain ⟨-, hC1, hC2, hC3, hC4, hC5, hC6, hC7⟩ := id hC
  have hTs := q_ts hmM (by omega)
  obtain ⟨hqS1, hqS2, hqS3, hqS4⟩ := (q_lfF hmM h1).2.1
  have hbh := hqS4 f h1.1 h1.2
  refine g_iconst hc dX13_behind_0 ?_
  refine g_istore_2 hc dX13_behind_1 rfl ?_
  refine g_iconst hc dX13_behind_2 ?_
  refine g_istore_3 hc dX13_behind_3 rfl ?_
  have lp_4 : ∀ (fu : Nat) (a i : Int) (Mm : g_I) (Rm : g_R), 0 ≤ i ∧ i ≤ I lb 0 → a = g_ors (fun s => if q_on I lb s f = true then g_shl 1 s else 0) i.toNat → (∃ tm, g_rf w Rm lb tm) → q_rel I lb Mm → (∀ (k : Nat) (j : Int), ¬ x_w k j → Mm k j = M k j) → I lb 0 - i < (fu : Int) → G w x (x_rel w (some (gvI (I (lb + 45) f))) x_w M J lb) 0 0 g_n Mm J Rm 4 [some (gvr w 703), some (gvI f), some (gvI a), some (gvI i), none] [] := by
    intro fu
    induction fu with
    | zero => intro a i Mm Rm h3 h4 hR hmMm hfMm hfu; exfalso; omega
    | succ fu ih =>
      intro a i Mm Rm h3 h4 hR hmMm hfMm hfu
      obtain ⟨tm, hR⟩ := hR
      have ha32 : g32 a := by rw [h4]; exact g_ors32
      have ih_4 := ih
      refine g_iload_n hc dX13_behind_4 rfl ?_
      refine g_aldn hc dX13_behind_5 rfl ?_
      refine g_getRk hc lk_X13_46 ca_703 (rc_703_21 hR) dX13_behind_6 ?_
      refine g_aldn hc dX13_behind_9 rfl ?_
      refine g_getIe hc lk_X13_52 ca_703 24 rfl (show Mm 703 24 = I 0 12 from hmMm.tab) dX13_behind_10 ?_
      refine g_ialde hc ca_711 (by decide) (by omega) (by omega) (show Mm 711 (I 0 12) = I lb 0 from q_lm hmMm (by omega)) dX13_behind_13 ?_
      refine g_icmp_ge (tgt := 71) hc dX13_behind_14 (by decide) (by first | exact hI _ _ | exact hxI2 _ _ | exact hIa _ _ | exact hIb _ _ | exact g_b32 | exact g_and32 | assumption | exact ⟨by omega, by omega⟩) (by first | exact hI _ _ | exact hxI2 _ _ | exact hIa _ _ | exact hIb _ _ | exact g_b32 | exact g_and32 | assumption | exact ⟨by omega, by omega⟩) (fun c1 => ?_) (fun c1 => ?_)
      · skip
        refine g_iload_n hc dX13_behind_71 rfl ?_
        refine g_iret hc hm dX13_behind_72 ?_
        exact x_end (by rw [hbh, h4, show i = I lb 0 by omega]) hfMm hmMm.g hR
      · skip
        refine g_aldn hc dX13_behind_17 rfl ?_
        refine g_aldn hc dX13_behind_18 rfl ?_
        refine g_getIe hc lk_X13_52 ca_703 24 rfl (show Mm 703 24 = I 0 12 from hmMm.tab) dX13_behind_19 ?_
        refine g_iload_n hc dX13_behind_22 rfl ?_
        refine g_V2 hc (c_X13_layWay w hR hmMm (q_lfT hmMm (by omega)) (by omega) (by omega)) my_X13_layWay mv_X13_layWay ca_703 rfl rfl lm_X13_310 rfl (by decide) (Nat.le_of_ble_eq_true rfl) hm dX13_behind_23 (fun r3 n3 I3 J3 R3 hp3 => ?_)
        obtain ⟨⟨rfl, rfl, hK3, hX3, rfl, t3, hR⟩, hwI3⟩ := hp3
        have hmI3 : q_rel I lb I3 := q_cg (fun k j hk => hK3 k j (fun z => hk (x_wa z))) hX3 hmMm
        have hfI3 : ∀ (k : Nat) (j : Int), ¬ x_w k j → I3 k j = M k j := fun k j hk => (hK3 k j hk).trans (hfMm k j hk)
        obtain ⟨hst, hway, -⟩ := hLs i (by omega) (by omega)
        refine g_iconst hc dX13_behind_26 ?_
        refine g_istore_4 hc dX13_behind_27 rfl ?_
        have lp_29 : ∀ (fu : Nat) (z k : Int), 0 ≤ k ∧ k ≤ I (lb + 14) i → z = (if g_all (fun j => decide (¬ I (lb + 16 + i.toNat) j = f)) k.toNat 0 = true then a else g_or a (g_shl 1 i)) → I (lb + 14) i - k < (fu : Int) → G w x (x_rel w (some (gvI (I (lb + 45) f))) x_w M J lb) 0 0 g_n I3 J R3 29 [some (gvr w 703), some (gvI f), some (gvI z), some (gvI i), some (gvI k)] [] := by
          intro fu
          induction fu with
          | zero => intro z k h6 h5 hfu; exfalso; omega
          | succ fu ih =>
            intro z k h6 h5 hfu
            have ih_29 := ih
            refine g_iload hc dX13_behind_29 rfl ?_
            refine g_aldn hc dX13_behind_31 rfl ?_
            refine g_getIe hc lk_X13_307 ca_703 29 rfl (show I3 703 29 = I (lb + 14) i from hwI3.1) dX13_behind_32 ?_
            refine g_icmp_ge (tgt := 65) hc dX13_behind_35 (by decide) (by first | exact hI _ _ | exact hxI2 _ _ | exact hIa _ _ | exact hIb _ _ | exact g_b32 | exact g_and32 | assumption | exact ⟨by omega, by omega⟩) (by first | exact hI _ _ | exact hxI2 _ _ | exact hIa _ _ | exact hIb _ _ | exact g_b32 | exact g_and32 | assumption | exact ⟨by omega, by omega⟩) (fun c2 => ?_) (fun c2 => ?_)
            · skip
              refine g_iinc_3 hc dX13_behind_65 rfl ?_
              refine g_goto (tgt := 4) hc dX13_behind_68 (by decide) ?_
              refine G_sub (L' := [some (gvr w 703), some (gvI f), some (gvI z), some (gvI (i + 1)), none]) (show g_le _ _ from ⟨rfl, ⟨rfl, ⟨rfl, ⟨rfl, trivial⟩⟩⟩⟩) ?_
              refine ih_4 _ _ _ _ ?_ ?_ ?_ ?_ ?_ ?_
              · omega
              · rw [g_ors_i h3.1, h5, ← h4]; show _ = g_or a (if q_on I lb i f = true then _ else _); unfold q_on; rw [show k = I (lb + 14) i by omega]; cases (g_all (fun j => decide (¬ I (lb + 16 + i.toNat) j = f)) (I (lb + 14) i).toNat 0) <;> first | rfl | (show a = g_or a 0; rw [g_or_0 ha32])
              · exact ⟨_, hR⟩
              · exact hmI3
              · exact hfI3
              · omega
            · skip
              refine g_iload_n hc dX13_behind_38 rfl ?_
              refine g_aldn hc dX13_behind_39 rfl ?_
              refine g_getRk hc lk_X13_63 ca_703 (rc_703_27 hR) dX13_behind_40 ?_
              refine g_iload hc dX13_behind_43 rfl ?_
              refine g_ialde hc ca_715 (by decide) (by omega) (by omega) (show I3 715 k = I (lb + 16 + i.toNat) k from (hwI3.2 _ (by omega) (by omega)).1) dX13_behind_45 ?_
              refine g_iload_n hc dX13_behind_46 rfl ?_
              refine g_icmp_ne (tgt := 56) hc dX13_behind_47 (by decide) (by first | exact hI _ _ | exact hxI2 _ _ | exact hIa _ _ | exact hIb _ _ | exact g_b32 | exact g_and32 | assumption | exact ⟨by omega, by omega⟩) (by first | exact hI _ _ | exact hxI2 _ _ | exact hIa _ _ | exact hIb _ _ | exact g_b32 | exact g_and32 | assumption | exact ⟨by omega, by omega⟩) (fun c3 => ?_) (fun c3 => ?_)
              · skip
                refine g_iconst hc dX13_behind_56 ?_
                refine g_ior hc dX13_behind_57 ?_
                refine g_istore_2 hc dX13_behind_58 rfl ?_
                refine g_iinc_4 hc dX13_behind_59 rfl ?_
                refine g_goto (tgt := 29) hc dX13_behind_62 (by decide) ?_
                refine ih_29 _ _ ?_ ?_ ?_
                · omega
                · rw [h5, show (k + 1).toNat = k.toNat + 1 by omega, g_all_s, show (0 : Int) + (k.toNat : Int) = k by omega]
                  by_cases hz : (g_all (fun j => decide (¬ I (lb + 16 + i.toNat) j = f)) k.toNat 0) = true
                  · rw [if_pos hz, hz, Bool.true_and]; first | (rw [if_neg (by simp only [decide_eq_true_eq]; intro z; exact z (by assumption))]) | (rw [if_pos (by simp only [decide_eq_true_eq]; assumption), g_or_0 ha32])
                  · have hz2 : (g_all (fun j => decide (¬ I (lb + 16 + i.toNat) j = f)) k.toNat 0) = false := by simpa using hz
                    rw [if_neg hz, hz2, Bool.false_and, if_neg (by decide)]; first | (rw [g_or_or]) | (rw [g_or_0 g_or32])
                · omega
              · skip
                refine g_iconst hc dX13_behind_50 ?_
                refine g_iload_n hc dX13_behind_51 rfl ?_
                refine g_ishl hc dX13_behind_52 ?_
                refine g_goto (tgt := 57) hc dX13_behind_53 (by decide) ?_
                refine g_ior hc dX13_behind_57 ?_
                refine g_istore_2 hc dX13_behind_58 rfl ?_
                refine g_iinc_4 hc dX13_behind_59 rfl ?_
                refine g_goto (tgt := 29) hc dX13_behind_62 (by decide) ?_
                refine ih_29 _ _ ?_ ?_ ?_
                · omega
                · rw [h5, show (k + 1).toNat = k.toNat + 1 by omega, g_all_s, show (0 : Int) + (k.toNat : Int) = k by omega]
                  by_cases hz : (g_all (fun j => decide (¬ I (lb + 16 + i.toNat) j = f)) k.toNat 0) = true
                  · rw [if_pos hz, hz, Bool.true_and]; first | (rw [if_neg (by simp only [decide_eq_true_eq]; intro z; exact z (by assumption))]) | (rw [if_pos (by simp only [decide_eq_true_eq]; assumption), g_or_0 ha32])
                  · have hz2 : (g_all (fun j => decide (¬ I (lb + 16 + i.toNat) j = f)) k.toNat 0) = false := by simpa using hz
                    rw [if_neg hz, hz2, Bool.false_and, if_neg (by decide)]; first | (rw [g_or_or]) | (rw [g_or_0 g_or32])
                · omega
        refine lp_29 7 _ _ ?_ ?_ (?_)
        · omega
        · rfl
        · omega
  refine lp_4 13 _ _ _ _ ?_ ?_ ?_ ?_ ?_ (?_)
  · omega
  · rfl
  · exact ⟨_, hR⟩
  · exact hmM
  · exact hfM
  · omega
set_option maxHeartbeats 4000000 in
set_option maxRecDepth 100000 in
/-- X13_partOf -/
theorem c_X13_partOf (w : g_W) {I : g_I} {J : g_J} {R : g_R} {lb tx : Nat} (hR : g_rf w R lb tx) {M : g_I} (hmM : q_rel I lb M) {s t : Int} (h1 : 0 ≤ s ∧ s < I lb 0) (h2 : 0 ≤ t ∧ t < I lb 0) (h7 : ¬ s = t) : g_Met w g_n M J R yX13_partOf cX13_partOf 6 (some .int) 3 0 0 [(gvr w 703), (gvI s), (gvI t)] (x_rel w (some (gvI (g_prt I lb s t))) x_w M J lb) := by
  refine g_intro (own := RX13) [some (gvr w 703), some (gvI s), some (gvI t), none, none, none] (by decide +kernel) rfl (by decide) (Nat.le_of_ble_eq_true rfl) rfl (fun i v hv => g_args 3 i v hv rfl) (fun x hc hm => ?_)
  have hfM : ∀ (k : Nat) (j : Int), ¬ x_w k j → M k j = M k j := fun _ _ _ => rfl
  have hI := hmM.gi
  have hTb := q_b1 hmM
  have hLv := hmM.lv
  have hC := hmM.cin
  have hL := hC.1
  obtain ⟨hn0, hn1, hLs, hLf⟩ := id hL
  obtain ⟨-, hC1, hC2, hC3, hC4, hC5, hC6, hC7⟩ := id hC
  have hTs := q_ts hmM (by omega)
  have hqS := (q_lfS hmM h1).2.1
  obtain ⟨hp1, hp2⟩ := q_prt hqS h1 h2 h7 (by omega)
  have hbt : ∀ f u : Int, 0 ≤ f ∧ f < I lb 1 → 0 ≤ u ∧ u < I lb 0 → (g_bit (I (lb + 45) f) u ↔ q_on I lb u f = true) := fun f u hf hu => by
    rw [hqS.2.2.2 f hf.1 hf.2]
    have z := g_ors_bit (f := fun s => if q_on I lb s f = true then g_shl 1 s else 0) (p := fun k => q_on I lb k f) (n := (I lb 0).toNat) (by omega) (fun k hk => rfl) (k := u.toNat) (by omega)
    rwa [show ((u.toNat : Nat) : Int) = u by omega] at z
  have hon : ∀ f u : Int, 0 ≤ u ∧ u < I lb 0 → q_on I lb u f = true → 0 ≤ f ∧ f < I lb 1 := fun f u hu hf => by
    obtain ⟨i, i0, i1, i2⟩ := q_on_iff.mp hf
    have := ((hLs u hu.1 hu.2).2.1 i i0 i1).1
    omega
  have hgr := hon _ s h1 hp1.1
  refine g_iconst hc dX13_partOf_0 ?_
  refine g_istore_3 hc dX13_partOf_1 rfl ?_
  refine g_iconst hc dX13_partOf_2 ?_
  refine g_istore_4 hc dX13_partOf_3 rfl ?_
  have lp_5 : ∀ (fu : Nat) (a f : Int) (Mm : g_I) (Rm : g_R), 0 ≤ f ∧ f ≤ I lb 1 → (a = -1 ∧ f ≤ g_prt I lb s t ∨ a = g_prt I lb s t ∧ a < f ∨ (q_bth I lb s t a ∧ a < g_prt I lb s t ∧ f ≤ g_prt I lb s t)) → (∃ tm, g_rf w Rm lb tm) → q_rel I lb Mm → (∀ (k : Nat) (j : Int), ¬ x_w k j → Mm k j = M k j) → I lb 1 - f < (fu : Int) → G w x (x_rel w (some (gvI (g_prt I lb s t))) x_w M J lb) 0 0 g_n Mm J Rm 5 [some (gvr w 703), some (gvI s), some (gvI t), some (gvI a), some (gvI f), none] [] := by
    intro fu
    induction fu with
    | zero => intro a f Mm Rm h3 h4 hR hmMm hfMm hfu; exfalso; omega
    | succ fu ih =>
      intro a f Mm Rm h3 h4 hR hmMm hfMm hfu
      obtain ⟨tm, hR⟩ := hR
      have ih_5 := ih
      refine g_iload hc dX13_partOf_5 rfl ?_
      refine g_aldn hc dX13_partOf_7 rfl ?_
      refine g_getRk hc lk_X13_49 ca_703 (rc_703_22 hR) dX13_partOf_8 ?_
      refine g_aldn hc dX13_partOf_11 rfl ?_
      refine g_getIe hc lk_X13_52 ca_703 24 rfl (show Mm 703 24 = I 0 12 from hmMm.tab) dX13_partOf_12 ?_
      refine g_ialde hc ca_712 (by decide) (by omega) (by omega) (show Mm 712 (I 0 12) = I lb 1 from q_fm hmMm (by omega)) dX13_partOf_15 ?_
      refine g_icmp_ge (tgt := 54) hc dX13_partOf_16 (by decide) (by first | exact hI _ _ | exact hxI2 _ _ | exact hIa _ _ | exact hIb _ _ | exact g_b32 | exact g_and32 | assumption | exact ⟨by omega, by omega⟩) (by first | exact hI _ _ | exact hxI2 _ _ | exact hIa _ _ | exact hIb _ _ | exact g_b32 | exact g_and32 | assumption | exact ⟨by omega, by omega⟩) (fun c1 => ?_) (fun c1 => ?_)
      · skip
        refine g_iload_n hc dX13_partOf_54 rfl ?_
        refine g_iret hc hm dX13_partOf_55 ?_
        exact x_end (by omega) hfMm hmMm.g hR
      · skip
        refine g_aldn hc dX13_partOf_19 rfl ?_
        refine g_iload hc dX13_partOf_20 rfl ?_
        refine g_V1 hc (c_X13_behind w hR hmMm (by omega)) my_X13_behind mv_X13_behind ca_703 rfl rfl lm_X13_332 rfl (by decide) (Nat.le_of_ble_eq_true rfl) hm dX13_partOf_22 (fun r3 n3 I3 J3 R3 hp3 => ?_)
        obtain ⟨rfl, rfl, hK3, hX3, rfl, t3, hR⟩ := hp3
        have hmI3 : q_rel I lb I3 := q_cg (fun k j hk => hK3 k j (fun z => hk (x_wa z))) hX3 hmMm
        have hfI3 : ∀ (k : Nat) (j : Int), ¬ x_w k j → I3 k j = M k j := fun k j hk => (hK3 k j hk).trans (hfMm k j hk)
        refine g_istore_5 hc dX13_partOf_25 rfl ?_
        refine g_iload hc dX13_partOf_27 rfl ?_
        refine g_iload_n hc dX13_partOf_29 rfl ?_
        refine g_S2r hc (c_X13_has w) my_X13_has ms_X13_has lm_X13_224 rfl (by decide) (Nat.le_of_ble_eq_true rfl) hm dX13_partOf_30 ?_
        refine g_ifb_eq (tgt := 48) hc dX13_partOf_33 (by decide)  (fun c2 => ?_) (fun c2 => ?_)
        · skip
          have hnb : ¬ q_bth I lb s t f := fun z => c2 ((hbt f s (by omega) h1).mpr z.1)
          refine g_iinc_4 hc dX13_partOf_48 rfl ?_
          refine g_goto (tgt := 5) hc dX13_partOf_51 (by decide) ?_
          refine G_sub (L' := [some (gvr w 703), some (gvI s), some (gvI t), some (gvI a), some (gvI (f + 1)), none]) (show g_le _ _ from ⟨rfl, ⟨rfl, ⟨rfl, ⟨rfl, ⟨rfl, trivial⟩⟩⟩⟩⟩) ?_
          refine ih_5 _ _ _ _ ?_ ?_ ?_ ?_ ?_ ?_
          · omega
          · have e : ¬ f = g_prt I lb s t := fun e => hnb (by rw [e]; exact hp1)
            rcases h4 with ⟨z1, z2⟩ | ⟨z1, z2⟩ | ⟨z0, z1, z2⟩
            · exact Or.inl ⟨z1, by omega⟩
            · exact Or.inr (Or.inl ⟨z1, by omega⟩)
            · exact Or.inr (Or.inr ⟨z0, z1, by omega⟩)
          · exact ⟨_, hR⟩
          · exact hmI3
          · exact hfI3
          · omega
        · skip
          have hb1 := c2
          refine g_iload hc dX13_partOf_36 rfl ?_
          refine g_iload_n hc dX13_partOf_38 rfl ?_
          refine g_S2r hc (c_X13_has w) my_X13_has ms_X13_has lm_X13_224 rfl (by decide) (Nat.le_of_ble_eq_true rfl) hm dX13_partOf_39 ?_
          refine g_ifb_eq (tgt := 48) hc dX13_partOf_42 (by decide)  (fun c3 => ?_) (fun c3 => ?_)
          · skip
            have hnb : ¬ q_bth I lb s t f := fun z => c3 ((hbt f t (by omega) h2).mpr z.2)
            refine g_iinc_4 hc dX13_partOf_48 rfl ?_
            refine g_goto (tgt := 5) hc dX13_partOf_51 (by decide) ?_
            refine G_sub (L' := [some (gvr w 703), some (gvI s), some (gvI t), some (gvI a), some (gvI (f + 1)), none]) (show g_le _ _ from ⟨rfl, ⟨rfl, ⟨rfl, ⟨rfl, ⟨rfl, trivial⟩⟩⟩⟩⟩) ?_
            refine ih_5 _ _ _ _ ?_ ?_ ?_ ?_ ?_ ?_
            · omega
            · have e : ¬ f = g_prt I lb s t := fun e => hnb (by rw [e]; exact hp1)
              rcases h4 with ⟨z1, z2⟩ | ⟨z1, z2⟩ | ⟨z0, z1, z2⟩
              · exact Or.inl ⟨z1, by omega⟩
              · exact Or.inr (Or.inl ⟨z1, by omega⟩)
              · exact Or.inr (Or.inr ⟨z0, z1, by omega⟩)
            · exact ⟨_, hR⟩
            · exact hmI3
            · exact hfI3
            · omega
          · skip
            have hb2 := c3
            refine g_iload hc dX13_partOf_45 rfl ?_
            refine g_istore_3 hc dX13_partOf_47 rfl ?_
            refine g_iinc_4 hc dX13_partOf_48 rfl ?_
            refine g_goto (tgt := 5) hc dX13_partOf_51 (by decide) ?_
            refine G_sub (L' := [some (gvr w 703), some (gvI s), some (gvI t), some (gvI f), some (gvI (f + 1)), none]) (show g_le _ _ from ⟨rfl, ⟨rfl, ⟨rfl, ⟨rfl, ⟨rfl, trivial⟩⟩⟩⟩⟩) ?_
            refine ih_5 _ _ _ _ ?_ ?_ ?_ ?_ ?_ ?_
            · omega
            · have hbf : q_bth I lb s t f := ⟨(hbt f s (by omega) h1).mp hb1, (hbt f t (by omega) h2).mp hb2⟩
              have := hp2 f hbf
              by_cases e : f = g_prt I lb s t
              · exact Or.inr (Or.inl ⟨e, by omega⟩)
              · exact Or.inr (Or.inr ⟨hbf, by omega, by omega⟩)
            · exact ⟨_, hR⟩
            · exact hmI3
            · exact hfI3
            · omega
  refine lp_5 19 _ _ _ _ ?_ ?_ ?_ ?_ ?_ (?_)
  · omega
  · omega
  · exact ⟨_, hR⟩
  · exact hmM
  · exact hfM
  · omega
set_option maxHeartbeats 4000000 in
set_option maxRecDepth 100000 in
/-- X13_branchOn -/
theorem c_X13_branchOn (w : g_W) {I : g_I} {J : g_J} {R : g_R} {lb tx : Nat} (hR : g_rf w R lb tx) {M : g_I} (hmM : q_rel I lb M) {s f : Int} (h1 : 0 ≤ s ∧ s < I lb 0) (h2 : g32 f) : g_Met w g_n M J R yX13_branchOn cX13_branchOn 4 (some .int) 2 0 0 [(gvr w 703), (gvI s), (gvI f)] (x_rel w (some (gvI (q_bo I lb s f))) x_w M J lb) := by
  refine g_intro (own := RX13) [some (gvr w 703), some (gvI s), some (gvI f), none] (by decide +kernel) rfl (by decide) (Nat.le_of_ble_eq_true rfl) rfl (fun i v hv => g_args 1 i v hv rfl) (fun x hc hm => ?_)
  have hfM : ∀ (k : Nat) (j : Int), ¬ x_w k j → M k j = M k j := fun _ _ _ => rfl
  have hI := hmM.gi
  have hTb := q_b1 hmM
  have hLv := hmM.lv
  have hC := hmM.cin
  have hL := hC.1
  obtain ⟨hn0, hn1, hLs, hLf⟩ := id hL
  obtain ⟨-, hC1, hC2, hC3, hC4, hC5, hC6, hC7⟩ := id hC
  have hTs := q_ts hmM (by omega)
  obtain ⟨hst, hway, hg0, hg1, hg2, hg3, hg4, hg5, hg6⟩ := hLs s h1.1 h1.2
  refine g_aldn hc dX13_branchOn_0 rfl ?_
  refine g_aldn hc dX13_branchOn_1 rfl ?_
  refine g_getIe hc lk_X13_52 ca_703 24 rfl (show M 703 24 = I 0 12 from hmM.tab) dX13_branchOn_2 ?_
  refine g_iload_n hc dX13_branchOn_5 rfl ?_
  refine g_V2 hc (c_X13_layWay w hR hmM (q_lfS hmM (by omega)) (by omega) (by omega)) my_X13_layWay mv_X13_layWay ca_703 rfl rfl lm_X13_310 rfl (by decide) (Nat.le_of_ble_eq_true rfl) hm dX13_branchOn_6 (fun r3 n3 I3 J3 R3 hp3 => ?_)
  obtain ⟨⟨rfl, rfl, hK3, hX3, rfl, t3, hR⟩, hwI3⟩ := hp3
  have hmI3 : q_rel I lb I3 := q_cg (fun k j hk => hK3 k j (fun z => hk (x_wa z))) hX3 hmM
  have hfI3 : ∀ (k : Nat) (j : Int), ¬ x_w k j → I3 k j = M k j := fun k j hk => (hK3 k j hk).trans (hfM k j hk)
  refine g_iconst hc dX13_branchOn_9 ?_
  refine g_istore_3 hc dX13_branchOn_10 rfl ?_
  have lp_11 : ∀ (fu : Nat) (i : Int), 0 ≤ i ∧ i ≤ I (lb + 14) s → g_stp I lb s f = g_first (fun i => I (lb + 16 + s.toNat) i == f) (I (lb + 14) s - i).toNat i → I (lb + 14) s - i < (fu : Int) → G w x (x_rel w (some (gvI (q_bo I lb s f))) x_w M J lb) 0 0 g_n I3 J R3 11 [some (gvr w 703), some (gvI s), some (gvI f), some (gvI i)] [] := by
    intro fu
    induction fu with
    | zero => intro i h3 h4 hfu; exfalso; omega
    | succ fu ih =>
      intro i h3 h4 hfu
      have ih_11 := ih
      refine g_iload_n hc dX13_branchOn_11 rfl ?_
      refine g_aldn hc dX13_branchOn_12 rfl ?_
      refine g_getIe hc lk_X13_307 ca_703 29 rfl (show I3 703 29 = I (lb + 14) s from hwI3.1) dX13_branchOn_13 ?_
      refine g_icmp_ge (tgt := 42) hc dX13_branchOn_16 (by decide) (by first | exact hI _ _ | exact hxI2 _ _ | exact hIa _ _ | exact hIb _ _ | exact g_b32 | exact g_and32 | assumption | exact ⟨by omega, by omega⟩) (by first | exact hI _ _ | exact hxI2 _ _ | exact hIa _ _ | exact hIb _ _ | exact g_b32 | exact g_and32 | assumption | exact ⟨by omega, by omega⟩) (fun c1 => ?_) (fun c1 => ?_)
      · skip
        refine g_iconst hc dX13_branchOn_42 ?_
        refine g_iret hc hm dX13_branchOn_43 ?_
        exact x_end (by rw [q_bo, h4, g_first_e (n := I (lb + 14) s) (by omega), if_pos rfl]) hfI3 hmI3.g hR
      · skip
        refine g_aldn hc dX13_branchOn_19 rfl ?_
        refine g_getRk hc lk_X13_63 ca_703 (rc_703_27 hR) dX13_branchOn_20 ?_
        refine g_iload_n hc dX13_branchOn_23 rfl ?_
        refine g_ialde hc ca_715 (by decide) (by omega) (by omega) (show I3 715 i = I (lb + 16 + s.toNat) i from (hwI3.2 _ (by omega) (by omega)).1) dX13_branchOn_24 ?_
        refine g_iload_n hc dX13_branchOn_25 rfl ?_
        refine g_icmp_ne (tgt := 36) hc dX13_branchOn_26 (by decide) (by first | exact hI _ _ | exact hxI2 _ _ | exact hIa _ _ | exact hIb _ _ | exact g_b32 | exact g_and32 | assumption | exact ⟨by omega, by omega⟩) (by first | exact hI _ _ | exact hxI2 _ _ | exact hIa _ _ | exact hIb _ _ | exact g_b32 | exact g_and32 | assumption | exact ⟨by omega, by omega⟩) (fun c2 => ?_) (fun c2 => ?_)
        · skip
          refine g_iinc_3 hc dX13_branchOn_36 rfl ?_
          refine g_goto (tgt := 11) hc dX13_branchOn_39 (by decide) ?_
          refine ih_11 _ ?_ ?_ ?_
          · omega
          · rw [h4, g_first_f (n := I (lb + 14) s) (by omega) (by simpa using (by assumption))]
          · omega
        · skip
          refine g_aldn hc dX13_branchOn_29 rfl ?_
          refine g_getRk hc lk_X13_66 ca_703 (rc_703_28 hR) dX13_branchOn_30 ?_
          refine g_iload_n hc dX13_branchOn_33 rfl ?_
          refine g_ialde hc ca_716 (by decide) (by omega) (by omega) (show I3 716 i = I (lb + 29 + s.toNat) i from (hwI3.2 _ (by omega) (by omega)).2) dX13_branchOn_34 ?_
          refine g_iret hc hm dX13_branchOn_35 ?_
          exact x_end (by rw [q_bo, h4, g_first_t (n := I (lb + 14) s) (by omega) (by simpa using (by assumption)), if_neg (by omega)]) hfI3 hmI3.g hR
  refine lp_11 7 _ ?_ ?_ (?_)
  · omega
  · unfold g_stp; rw [Int.sub_zero]
  · omega
