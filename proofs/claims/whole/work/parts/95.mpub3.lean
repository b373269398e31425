theorem x_srn {I : g_I} {b : Nat} {s : Int} : ∀ n : Nat, g_srn I b s n = -1 ∨ (0 ≤ g_srn I b s n ∧ g_srn I b s n < n)
  | 0 => Or.inl rfl
  | n + 1 => by
    rw [g_srn]
    have := @x_srn I b s n
    split <;> omega
/-- SORE, the FORKS below f looked at -/
def x_so (I : g_I) (b : Nat) (s f e v : Int) : Prop := ∃ c, q_cut I b s f c ∧ e = (if g_srn I b s c.toNat = -1 then -1 else I (b + 16 + s.toNat) (g_srn I b s c.toNat)) ∧ (¬ e = -1 → ¬ g_srn I b s c.toNat = -1 ∧ v = g_rgt I b s (g_srn I b s c.toNat))
theorem x_so.no {I : g_I} {b : Nat} {s f e v : Int} (h : x_so I b s f e v) (hn : g_stp I b s f = -1) : x_so I b s (f + 1) e v := by
  obtain ⟨c, hc, h2⟩ := h
  exact ⟨c, q_cut_n hc hn, h2⟩
theorem x_so.up {I : g_I} {b : Nat} {s f e v : Int} (h : x_so I b s f e v) (hq : q_str I b) (hw : ∀ i, 0 ≤ i → i < I (b + 14) s → 0 ≤ I (b + 16 + s.toNat) i) (hs : 0 ≤ s ∧ s < I b 0) (hn : ¬ g_stp I b s f = -1) (hv : e = -1 ∨ v < q_rg I b f (q_bo I b s f)) : x_so I b s (f + 1) f (q_rg I b f (q_bo I b s f)) := by
  obtain ⟨c, hc, h2, h3⟩ := h
  obtain ⟨e1, e2, e3, e4⟩ := q_cut_y hq hs hc hn
  have hr : g_rgt I b s c = q_rg I b f (q_bo I b s f) := by rw [q_rg_s e3]; unfold q_bo; rw [if_neg hn, e1]
  have hx := @x_srn I b s c.toNat
  have hup : g_srn I b s (c + 1).toNat = c := by
    rw [g_srn_i hc.1, if_pos]
    by_cases z : g_srn I b s c.toNat = -1
    · exact Or.inl z
    · rw [if_neg z] at h2
      have := hw (g_srn I b s c.toNat) (by omega) (by omega)
      have := (h3 (by omega)).2
      exact Or.inr (by omega)
  refine ⟨c + 1, e4, ?_, fun _ => ?_⟩
  · rw [hup, if_neg (by have := hc.1; omega), e3]
  · rw [hup]; exact ⟨by have := hc.1; omega, hr.symm⟩
theorem x_so.keep {I : g_I} {b : Nat} {s f e v : Int} (h : x_so I b s f e v) (hq : q_str I b) (hs : 0 ≤ s ∧ s < I b 0) (hn : ¬ g_stp I b s f = -1) (h1 : ¬ e = -1) (hv : ¬ v < q_rg I b f (q_bo I b s f)) : x_so I b s (f + 1) e v := by
  obtain ⟨c, hc, h2, h3⟩ := h
  obtain ⟨e1, e2, e3, e4⟩ := q_cut_y hq hs hc hn
  have hr : g_rgt I b s c = q_rg I b f (q_bo I b s f) := by rw [q_rg_s e3]; unfold q_bo; rw [if_neg hn, e1]
  obtain ⟨k1, k2⟩ := h3 h1
  have hup : g_srn I b s (c + 1).toNat = g_srn I b s c.toNat := by
    rw [g_srn_i hc.1, if_neg]
    rintro (z | z)
    · exact k1 z
    · omega
  exact ⟨c + 1, e4, by rw [hup]; exact h2, by rw [hup]; exact h3⟩
theorem x_apo {I M : g_I} {b : Nat} (h : q_rel I b M) {s t : Int} (hs : 0 ≤ s ∧ s < I b 0) (ht : 0 ≤ t ∧ t < I b 0) (hst : ¬ s = t) : (0 ≤ g_prt I b s t ∧ g_prt I b s t < I b 1) ∧ (0 ≤ q_bo I b s (g_prt I b s t) ∧ q_bo I b s (g_prt I b s t) < I (b + 43) (g_prt I b s t)) ∧ (0 ≤ q_bo I b t (g_prt I b s t) ∧ q_bo I b t (g_prt I b s t) < I (b + 43) (g_prt I b s t)) ∧ g_bhd I b (g_w5 I b) (g_prt I b s t) (q_bo I b s (g_prt I b s t)) - g_bhd I b (g_w5 I b) (g_prt I b s t) (q_bo I b t (g_prt I b s t)) = g_apo I b s t := by
  have hTs := q_ts h (by omega)
  have hqS := (q_lfS h hs).2.1
  obtain ⟨hn0, hn1, hLs, -⟩ := q_lok h
  have hp := (q_prt hqS hs ht hst (by omega)).1
  obtain ⟨i, i0, i1, i2⟩ := q_on_iff.mp hp.1
  obtain ⟨j, j0, j1, j2⟩ := q_on_iff.mp hp.2
  obtain ⟨-, -, ⟨dep, hd0, hd6, hdw, hdc⟩, -⟩ := hqS
  rcases @q_stp I b s (g_prt I b s t) with ⟨-, z⟩ | ⟨z1, z2, z3⟩
  · exact absurd i2 (z i i0 i1)
  rcases @q_stp I b t (g_prt I b s t) with ⟨-, z⟩ | ⟨y1, y2, y3⟩
  · exact absurd j2 (z j j0 j1)
  have ds := hdw s hs.1 hs.2 _ z1 z2
  have dt := hdw t ht.1 ht.2 _ y1 y2
  rw [z3] at ds
  rw [y3] at dt
  have ws := (hLs s hs.1 hs.2).2.1 _ z1 z2
  have wt := (hLs t ht.1 ht.2).2.1 _ y1 y2
  rw [z3] at ws
  rw [y3] at wt
  have e1 : q_bo I b s (g_prt I b s t) = I (b + 29 + s.toNat) (g_stp I b s (g_prt I b s t)) := by unfold q_bo; rw [if_neg (by omega)]
  have e2 : q_bo I b t (g_prt I b s t) = I (b + 29 + t.toNat) (g_stp I b s (g_prt I b s t)) := by unfold q_bo; rw [if_neg (by omega), show g_stp I b t (g_prt I b s t) = g_stp I b s (g_prt I b s t) by omega]
  refine ⟨by omega, ?_, ?_, ?_⟩
  · unfold q_bo; rw [if_neg (by omega)]; omega
  · unfold q_bo; rw [if_neg (by omega)]; omega
  · rw [e1, e2]
    unfold g_apo
    rw [if_neg (by omega)]
set_option maxHeartbeats 4000000 in
set_option maxRecDepth 100000 in
/-- X13_advice -/
theorem c_X13_advice (w : g_W) {I : g_I} {J : g_J} {R : g_R} {lb tx : Nat} (hR : g_rf w R lb tx) {M : g_I} (hmM : q_rel I lb M) {f : Int} (g1 : g32 f) : g_Met w g_n M J R yX13_advice cX13_advice 8 (some .int) 56 0 0 [(gvr w 703), (gvI f)] (x_rel w (some (gvI (if (0 ≤ f ∧ f < I lb 1) then g_bst I lb (g_w5 I lb) f else -1))) x_a M J lb) := by
  refine g_intro (own := RX13) [some (gvr w 703), some (gvI f), none, none, none, none, none, none] (by decide +kernel) rfl (by decide) (Nat.le_of_ble_eq_true rfl) rfl (fun i v hv => g_args 6 i v hv rfl) (fun x hc hm => ?_)
  have hfM : ∀ (k : Nat) (j : Int), ¬ x_a k j → M k j = M k j := fun _ _ _ => rfl
  have hI := hmM.gi
  have hTb := q_b1 hmM
  have hLv := hmM.lv
  have hC := hmM.cin
  have hL := hC.1
  obtain ⟨hn0, hn1, hLs, hLf⟩ := id hL
  obtain ⟨-, hC1, hC2, hC3, hC4, hC5, hC6, hC7⟩ := id hC
  have hN0 := q_n0 hmM
  refine g_aldn hc dX13_advice_0 rfl ?_
  refine g_iconst hc dX13_advice_1 ?_
  refine g_putI' hc lk_X13_102 ca_703 0 rfl dX13_advice_2 (fun I3 hI3 => ?_)
  have hmI3 : q_rel I lb I3 := by rw [hI3]; exact q_up hmM (by unfold x_a; omega) (by first | exact hI _ _ | exact hmM.g _ _ | exact g_b32 | exact g_and32 | exact g_or32 | exact g_shl32 | assumption | exact ⟨by omega, by omega⟩)
  have hfI3 : ∀ (k : Nat) (j : Int), ¬ x_a k j → I3 k j = M k j := fun k j hk => by rw [hI3]; exact (g_up_n (by unfold x_a at hk; omega)).trans (hfM k j hk)
  refine g_aldn hc dX13_advice_5 rfl ?_
  refine g_iload_n hc dX13_advice_6 rfl ?_
  refine g_V1r hc (c_X13_isFork w hR hmI3 (by first | exact hI _ _ | exact hmM.g _ _ | exact g_b32 | exact g_and32 | exact g_or32 | exact g_shl32 | assumption | exact ⟨by omega, by omega⟩)) my_X13_isFork mv_X13_isFork ca_703 rfl rfl lm_X13_304 rfl (by decide) (Nat.le_of_ble_eq_true rfl) hm dX13_advice_7 ?_
  refine g_ifb_ne (tgt := 15) hc dX13_advice_10 (by decide)  (fun c1 => ?_) (fun c1 => ?_)
  · skip
    have hTs := q_ts hmM (by omega)
    obtain ⟨hk2, hk1, hy, hit⟩ := hLf f (by omega) (by omega)
    refine g_iconst hc dX13_advice_15 ?_
    refine g_istore_2 hc dX13_advice_16 rfl ?_
    refine g_lconst hc dX13_advice_17 0 (by decide +kernel) ?_
    refine g_lstore_3 hc dX13_advice_18 rfl ?_
    refine g_iconst hc dX13_advice_19 ?_
    refine g_istore_5 hc dX13_advice_20 rfl ?_
    have lp_22 : ∀ (fu : Nat) (best bv i : Int) (Mm : g_I) (Rm : g_R), 0 ≤ i ∧ i ≤ I (lb + 43) f → best = g_bsn I lb (g_w5 I lb) f i.toNat → (best = -1 ∨ bv = g_bhd I lb (g_w5 I lb) f best) → (-1 ≤ best ∧ best < 4) → (-100030000 ≤ bv ∧ bv ≤ 100030000) → (∃ tm, g_rf w Rm lb tm) → q_rel I lb Mm → (∀ (k : Nat) (j : Int), ¬ x_a k j → Mm k j = M k j) → I (lb + 43) f - i < (fu : Int) → G w x (x_rel w (some (gvI (if (0 ≤ f ∧ f < I lb 1) then g_bst I lb (g_w5 I lb) f else -1))) x_a M J lb) 0 0 g_n Mm J Rm 22 [some (gvr w 703), some (gvI f), some (gvI best), some (gvL bv), none, some (gvI i), none, none] [] := by
      intro fu
      induction fu with
      | zero => intro best bv i Mm Rm h3 h4 h5 h6 h7 hR hmMm hfMm hfu; exfalso; omega
      | succ fu ih =>
        intro best bv i Mm Rm h3 h4 h5 h6 h7 hR hmMm hfMm hfu
        obtain ⟨tm, hR⟩ := hR
        have ih_22 := ih
        refine g_iload hc dX13_advice_22 rfl ?_
        refine g_aldn hc dX13_advice_24 rfl ?_
        refine g_getRk hc lk_X13_40 ca_703 (rc_703_19 hR) dX13_advice_25 ?_
        refine g_aldn hc dX13_advice_28 rfl ?_
        refine g_aldn hc dX13_advice_29 rfl ?_
        refine g_getIe hc lk_X13_52 ca_703 24 rfl (show Mm 703 24 = I 0 12 from hmMm.tab) dX13_advice_30 ?_
        refine g_iload_n hc dX13_advice_33 rfl ?_
        refine g_V2r hc (c_X13_forkAt w) my_X13_forkAt mv_X13_forkAt ca_703 rfl rfl lm_X13_249 rfl (by decide) (Nat.le_of_ble_eq_true rfl) hm dX13_advice_34 ?_
        refine g_iconst hc dX13_advice_37 ?_
        refine g_iadd hc dX13_advice_38 ?_
        refine g_ialde hc ca_709 (by decide) (by omega) (by omega) (show Mm 709 ((((I 0 12) * 18 + f) * 5) + 2) = I (lb + 43) f from q_bm hmMm (by omega)) dX13_advice_39 ?_
        refine g_icmp_ge (tgt := 96) hc dX13_advice_40 (by decide) (by first | exact hI _ _ | exact hxI2 _ _ | exact hIa _ _ | exact hIb _ _ | exact g_b32 | exact g_and32 | assumption | exact ⟨by omega, by omega⟩) (by first | exact hI _ _ | exact hxI2 _ _ | exact hIa _ _ | exact hIb _ _ | exact g_b32 | exact g_and32 | assumption | exact ⟨by omega, by omega⟩) (fun c2 => ?_) (fun c2 => ?_)
        · skip
          refine g_iload_n hc dX13_advice_96 rfl ?_
          refine g_iret hc hm dX13_advice_97 ?_
          exact x_end (by rw [if_pos (by omega), h4, g_bst, show I (lb + 43) f = i by omega]) hfMm hmMm.g hR
        · skip
          refine g_aldn hc dX13_advice_43 rfl ?_
          refine g_getRk hc lk_X13_56 ca_703 (rc_703_25 hR) dX13_advice_44 ?_
          refine g_iconst hc dX13_advice_47 ?_
          refine g_iload_n hc dX13_advice_48 rfl ?_
          refine g_imul hc dX13_advice_49 ?_
          refine g_iload hc dX13_advice_50 rfl ?_
          refine g_iadd hc dX13_advice_52 ?_
          refine g_zalde hc ca_713 (by decide) (by omega) (by omega) (show Mm 713 ((4 * f) + i) = g_b (g_bit (I 550 (4 + f)) i) from hmMm.opn (by omega) (by omega)) dX13_advice_53 ?_
          refine g_ifb_ne (tgt := 60) hc dX13_advice_54 (by decide)  (fun c3 => ?_) (fun c3 => ?_)
          · skip
            have hop := c3
            obtain ⟨hb0, hb1, hb2, hb3, hb4, htg⟩ := hit i (by omega) (by omega)
            have hvf := q_val_in hC (nd := I (lb + 127) (f * 4 + i)) (by omega)
            rw [← q_bhd (I := I) (b := lb) (f := f) (r := i) (by omega) (by omega)] at hvf
            refine g_aldn hc dX13_advice_60 rfl ?_
            refine g_iload_n hc dX13_advice_61 rfl ?_
            refine g_iload hc dX13_advice_62 rfl ?_
            refine g_V2 hc (c_X13_behindOf w hR hmMm (by omega) (by omega)) my_X13_behindOf mv_X13_behindOf ca_703 rfl rfl lm_X13_383 rfl (by decide) (Nat.le_of_ble_eq_true rfl) hm dX13_advice_64 (fun r4 n4 I4 J4 R4 hp4 => ?_)
            obtain ⟨rfl, rfl, hK4, hX4, rfl, t4, hR⟩ := hp4
            have hmI4 : q_rel I lb I4 := q_cg hK4 hX4 hmMm
            have hfI4 : ∀ (k : Nat) (j : Int), ¬ x_a k j → I4 k j = M k j := fun k j hk => (hK4 k j hk).trans (hfMm k j hk)
            refine g_lstore_6 hc dX13_advice_67 rfl ?_
            refine g_iload_n hc dX13_advice_69 rfl ?_
            refine g_iconst hc dX13_advice_70 ?_
            refine g_icmp_eq (tgt := 84) hc dX13_advice_71 (by decide) (by first | exact hI _ _ | exact hxI2 _ _ | exact hIa _ _ | exact hIb _ _ | exact g_b32 | exact g_and32 | assumption | exact ⟨by omega, by omega⟩) (by first | exact hI _ _ | exact hxI2 _ _ | exact hIa _ _ | exact hIb _ _ | exact g_b32 | exact g_and32 | assumption | exact ⟨by omega, by omega⟩) (fun c4 => ?_) (fun c4 => ?_)
            · skip
              have hst9 : g_bsn I lb (g_w5 I lb) f (i + 1).toNat = i := by rw [g_bsn_i h3.1, if_pos ⟨hop, Or.inl (by rw [← h4]; omega)⟩]
              refine g_iload hc dX13_advice_84 rfl ?_
              refine g_istore_2 hc dX13_advice_86 rfl ?_
              refine g_lload hc dX13_advice_87 rfl ?_
              refine g_lstore_3 hc dX13_advice_89 rfl ?_
              refine g_iinc_5 hc dX13_advice_90 rfl ?_
              refine g_goto (tgt := 22) hc dX13_advice_93 (by decide) ?_
              refine G_sub (L' := [some (gvr w 703), some (gvI f), some (gvI i), some (gvL (g_bhd I lb (g_w5 I lb) (f) (i))), none, some (gvI (i + 1)), none, none]) (show g_le _ _ from ⟨rfl, ⟨rfl, ⟨rfl, ⟨rfl, ⟨rfl, trivial⟩⟩⟩⟩⟩) ?_
              refine ih_22 _ _ _ _ _ ?_ ?_ ?_ ?_ ?_ ?_ ?_ ?_ ?_
              · omega
              · exact hst9.symm
              · exact Or.inr rfl
              · omega
              · omega
              · exact ⟨_, hR⟩
              · exact hmI4
              · exact hfI4
              · omega
            · skip
              refine g_lload hc dX13_advice_74 rfl ?_
              refine g_lload_n hc dX13_advice_76 rfl ?_
              refine g_lcmp hc dX13_advice_77 (by exact ⟨by omega, by omega⟩) (by exact ⟨by omega, by omega⟩) ?_
              refine g_if_gt (tgt := 84) hc dX13_advice_78 (by decide) (by split <;> first | exact ⟨by decide, by decide⟩ | (split <;> exact ⟨by decide, by decide⟩)) (fun c5 => ?_) (fun c5 => ?_)
              · skip
                have hgt : bv < g_bhd I lb (g_w5 I lb) f i := (by split at c5 <;> first | omega | (split at c5 <;> omega))
                have hst9 : g_bsn I lb (g_w5 I lb) f (i + 1).toNat = i := by rw [g_bsn_i h3.1, ← h4, if_pos ⟨hop, Or.inr (by rcases h5 with z | z <;> omega)⟩]
                refine g_iload hc dX13_advice_84 rfl ?_
                refine g_istore_2 hc dX13_advice_86 rfl ?_
                refine g_lload hc dX13_advice_87 rfl ?_
                refine g_lstore_3 hc dX13_advice_89 rfl ?_
                refine g_iinc_5 hc dX13_advice_90 rfl ?_
                refine g_goto (tgt := 22) hc dX13_advice_93 (by decide) ?_
                refine G_sub (L' := [some (gvr w 703), some (gvI f), some (gvI i), some (gvL (g_bhd I lb (g_w5 I lb) (f) (i))), none, some (gvI (i + 1)), none, none]) (show g_le _ _ from ⟨rfl, ⟨rfl, ⟨rfl, ⟨rfl, ⟨rfl, trivial⟩⟩⟩⟩⟩) ?_
                refine ih_22 _ _ _ _ _ ?_ ?_ ?_ ?_ ?_ ?_ ?_ ?_ ?_
                · omega
                · exact hst9.symm
                · exact Or.inr rfl
                · omega
                · omega
                · exact ⟨_, hR⟩
                · exact hmI4
                · exact hfI4
                · omega
              · skip
                have hle : ¬ bv < g_bhd I lb (g_w5 I lb) f i := (by split at c5 <;> first | omega | (split at c5 <;> omega))
                have hst9 : g_bsn I lb (g_w5 I lb) f (i + 1).toNat = best := by rw [g_bsn_i h3.1, ← h4, if_neg (by rcases h5 with z | z <;> rintro ⟨-, y | y⟩ <;> omega)]
                refine g_goto (tgt := 90) hc dX13_advice_81 (by decide) ?_
                refine g_iinc_5 hc dX13_advice_90 rfl ?_
                refine g_goto (tgt := 22) hc dX13_advice_93 (by decide) ?_
                refine G_sub (L' := [some (gvr w 703), some (gvI f), some (gvI best), some (gvL bv), none, some (gvI (i + 1)), none, none]) (show g_le _ _ from ⟨rfl, ⟨rfl, ⟨rfl, ⟨rfl, ⟨rfl, trivial⟩⟩⟩⟩⟩) ?_
                refine ih_22 _ _ _ _ _ ?_ ?_ ?_ ?_ ?_ ?_ ?_ ?_ ?_
                · omega
                · exact hst9.symm
                · exact h5
                · omega
                · omega
                · exact ⟨_, hR⟩
                · exact hmI4
                · exact hfI4
                · omega
          · skip
            have hst9 : g_bsn I lb (g_w5 I lb) f (i + 1).toNat = best := by rw [g_bsn_i h3.1, if_neg (fun z => c3 z.1), ← h4]
            refine g_goto (tgt := 90) hc dX13_advice_57 (by decide) ?_
            refine g_iinc_5 hc dX13_advice_90 rfl ?_
            refine g_goto (tgt := 22) hc dX13_advice_93 (by decide) ?_
            refine ih_22 _ _ _ _ _ ?_ ?_ ?_ ?_ ?_ ?_ ?_ ?_ ?_
            · omega
            · exact hst9.symm
            · exact h5
            · omega
            · omega
            · exact ⟨_, hR⟩
            · exact hmMm
            · exact hfMm
            · omega
    refine lp_22 5 _ _ _ _ _ ?_ ?_ ?_ ?_ ?_ ?_ ?_ ?_ (?_)
    · omega
    · rfl
    · exact Or.inl rfl
    · omega
    · omega
    · exact ⟨_, hR⟩
    · exact hmI3
    · exact hfI3
    · omega
  · skip
    refine g_iconst hc dX13_advice_13 ?_
    refine g_iret hc hm dX13_advice_14 ?_
    exact x_end (by rw [if_neg (by omega)]) hfI3 hmI3.g hR
set_option maxHeartbeats 4000000 in
set_option maxRecDepth 100000 in
/-- X13_sore -/
theorem c_X13_sore (w : g_W) {I : g_I} {J : g_J} {R : g_R} {lb tx : Nat} (hR : g_rf w R lb tx) {M : g_I} (hmM : q_rel I lb M) {s k : Int} (g1 : g32 s) (g2 : g32 k) : g_Met w g_n M J R yX13_sore cX13_sore 10 (some .int) 58 0 0 [(gvr w 703), (gvI s), (gvI k)] (x_rel w (some (gvI (if (0 ≤ s ∧ s < I lb 0) ∧ 0 ≤ k ∧ k ≤ 1 then (if k = 0 then g_sor I lb s else g_rgs I lb s) else -2000000000))) x_a M J lb) := by
  refine g_intro (own := RX13) [some (gvr w 703), some (gvI s), some (gvI k), none, none, none, none, none, none, none] (by decide +kernel) rfl (by decide) (Nat.le_of_ble_eq_true rfl) rfl (fun i v hv => g_args 7 i v hv rfl) (fun x hc hm => ?_)
  have hfM : ∀ (k : Nat) (j : Int), ¬ x_a k j → M k j = M k j := fun _ _ _ => rfl
  have hI := hmM.gi
  have hTb := q_b1 hmM
  have hLv := hmM.lv
  have hC := hmM.cin
  have hL := hC.1
  obtain ⟨hn0, hn1, hLs, hLf⟩ := id hL
  obtain ⟨-, hC1, hC2, hC3, hC4, hC5, hC6, hC7⟩ := id hC
  have hN0 := q_n0 hmM
  refine g_aldn hc dX13_sore_0 rfl ?_
  refine g_iconst hc dX13_sore_1 ?_
  refine g_putI' hc lk_X13_102 ca_703 0 rfl dX13_sore_2 (fun I3 hI3 => ?_)
  have hmI3 : q_rel I lb I3 := by rw [hI3]; exact q_up hmM (by unfold x_a; omega) (by first | exact hI _ _ | exact hmM.g _ _ | exact g_b32 | exact g_and32 | exact g_or32 | exact g_shl32 | assumption | exact ⟨by omega, by omega⟩)
  have hfI3 : ∀ (k : Nat) (j : Int), ¬ x_a k j → I3 k j = M k j := fun k j hk => by rw [hI3]; exact (g_up_n (by unfold x_a at hk; omega)).trans (hfM k j hk)
  refine g_aldn hc dX13_sore_5 rfl ?_
  refine g_iload_n hc dX13_sore_6 rfl ?_
  refine g_V1r hc (c_X13_isSelf w hR hmI3 (by first | exact hI _ _ | exact hmM.g _ _ | exact g_b32 | exact g_and32 | exact g_or32 | exact g_shl32 | assumption | exact ⟨by omega, by omega⟩)) my_X13_isSelf mv_X13_isSelf ca_703 rfl rfl lm_X13_313 rfl (by decide) (Nat.le_of_ble_eq_true rfl) hm dX13_sore_7 ?_
  refine g_ifb_eq (tgt := 23) hc dX13_sore_10 (by decide)  (fun c1 => ?_) (fun c1 => ?_)
  · skip
    refine g_ldcw (k := (-2000000000)) hc dX13_sore_23 _ lc_X13_376 (by decide +kernel) ?_
    refine g_iret hc hm dX13_sore_26 ?_
    exact x_end (by rw [if_neg (by omega)]) hfI3 hmI3.g hR
  · skip
    refine g_iload_n hc dX13_sore_13 rfl ?_
    refine g_i2l hc dX13_sore_14 (by first | exact hI _ _ | exact hxI2 _ _ | exact hIa _ _ | exact hIb _ _ | exact g_b32 | exact g_and32 | assumption | exact ⟨by omega, by omega⟩) ?_
    refine g_lconst hc dX13_sore_15 0 (by decide +kernel) ?_
    refine g_lconst hc dX13_sore_16 1 (by decide +kernel) ?_
    refine g_S3r hc (c_X13_isIn w (by first | exact hI _ _ | exact hmM.g _ _ | exact g_b32 | exact g_and32 | exact g_or32 | exact g_shl32 | assumption | exact ⟨by omega, by omega⟩) (by first | exact hI _ _ | exact hmM.g _ _ | exact g_b32 | exact g_and32 | exact g_or32 | exact g_shl32 | assumption | exact ⟨by omega, by omega⟩) (by first | exact hI _ _ | exact hmM.g _ _ | exact g_b32 | exact g_and32 | exact g_or32 | exact g_shl32 | assumption | exact ⟨by omega, by omega⟩)) my_X13_isIn ms_X13_isIn lm_X13_231 rfl (by decide) (Nat.le_of_ble_eq_true rfl) hm dX13_sore_17 ?_
    refine g_ifb_ne (tgt := 27) hc dX13_sore_20 (by decide)  (fun c2 => ?_) (fun c2 => ?_)
    · skip
      have h1 : 0 ≤ s ∧ s < I lb 0 := by omega
      have hTs := q_ts hmM (by omega)
      have hqS := (q_lfS hmM h1).2.1
      obtain ⟨hst, hway, -⟩ := hLs s h1.1 h1.2
      refine g_iload_n hc dX13_sore_27 rfl ?_
      refine g_iconst hc dX13_sore_28 ?_
      refine g_icmp_ne (tgt := 39) hc dX13_sore_29 (by decide) (by first | exact hI _ _ | exact hxI2 _ _ | exact hIa _ _ | exact hIb _ _ | exact g_b32 | exact g_and32 | assumption | exact ⟨by omega, by omega⟩) (by first | exact hI _ _ | exact hxI2 _ _ | exact hIa _ _ | exact hIb _ _ | exact g_b32 | exact g_and32 | assumption | exact ⟨by omega, by omega⟩) (fun c3 => ?_) (fun c3 => ?_)
      · skip
        refine g_iconst hc dX13_sore_39 ?_
        refine g_istore_3 hc dX13_sore_40 rfl ?_
        refine g_lconst hc dX13_sore_41 0 (by decide +kernel) ?_
        refine g_lstore_4 hc dX13_sore_42 rfl ?_
        refine g_iconst hc dX13_sore_44 ?_
        refine g_istore_6 hc dX13_sore_45 rfl ?_
        have lp_47 : ∀ (fu : Nat) (best bv f : Int) (Mm : g_I) (Rm : g_R), 0 ≤ f ∧ f ≤ I lb 1 → x_so I lb s f best bv → (-1 ≤ best ∧ best < 18) → (-200060000 ≤ bv ∧ bv ≤ 200060000) → (∃ tm, g_rf w Rm lb tm) → q_rel I lb Mm → (∀ (k : Nat) (j : Int), ¬ x_a k j → Mm k j = M k j) → I lb 1 - f < (fu : Int) → G w x (x_rel w (some (gvI (if (0 ≤ s ∧ s < I lb 0) ∧ 0 ≤ k ∧ k ≤ 1 then (if k = 0 then g_sor I lb s else g_rgs I lb s) else -2000000000))) x_a M J lb) 0 0 g_n Mm J Rm 47 [some (gvr w 703), some (gvI s), some (gvI k), some (gvI best), some (gvL bv), none, some (gvI f), none, none, none] [] := by
          intro fu
          induction fu with
          | zero => intro best bv f Mm Rm h3 h4 h6 h7 hR hmMm hfMm hfu; exfalso; omega
          | succ fu ih =>
            intro best bv f Mm Rm h3 h4 h6 h7 hR hmMm hfMm hfu
            obtain ⟨tm, hR⟩ := hR
            have ih_47 := ih
            refine g_iload hc dX13_sore_47 rfl ?_
            refine g_aldn hc dX13_sore_49 rfl ?_
            refine g_getRk hc lk_X13_49 ca_703 (rc_703_22 hR) dX13_sore_50 ?_
            refine g_aldn hc dX13_sore_53 rfl ?_
            refine g_getIe hc lk_X13_52 ca_703 24 rfl (show Mm 703 24 = I 0 12 from hmMm.tab) dX13_sore_54 ?_
            refine g_ialde hc ca_712 (by decide) (by omega) (by omega) (show Mm 712 (I 0 12) = I lb 1 from q_fm hmMm (by omega)) dX13_sore_57 ?_
            refine g_icmp_ge (tgt := 118) hc dX13_sore_58 (by decide) (by first | exact hI _ _ | exact hxI2 _ _ | exact hIa _ _ | exact hIb _ _ | exact g_b32 | exact g_and32 | assumption | exact ⟨by omega, by omega⟩) (by first | exact hI _ _ | exact hxI2 _ _ | exact hIa _ _ | exact hIb _ _ | exact g_b32 | exact g_and32 | assumption | exact ⟨by omega, by omega⟩) (fun c4 => ?_) (fun c4 => ?_)
            · skip
              refine g_iload_n hc dX13_sore_118 rfl ?_
              refine g_iret hc hm dX13_sore_119 ?_
              obtain ⟨c, hc, hS, -⟩ := h4
              have hcs : c = I (lb + 14) s := by
                by_cases z : c = I (lb + 14) s
                · exact z
                · have a := hc.2.2.2 c (Int.le_refl _) (by have := hc.2.1; omega)
                  have d := (hway c hc.1 (by have := hc.2.1; omega)).1.2
                  omega
              exact x_end (by rw [if_pos (by omega), if_pos (by omega), hS, hcs]; rfl) hfMm hmMm.g hR
            · skip
              refine g_aldn hc dX13_sore_61 rfl ?_
              refine g_iload_n hc dX13_sore_62 rfl ?_
              refine g_iload hc dX13_sore_63 rfl ?_
              refine g_V2 hc (c_X13_branchOn w hR hmMm (by omega) (by first | exact hI _ _ | exact hmM.g _ _ | exact g_b32 | exact g_and32 | exact g_or32 | exact g_shl32 | assumption | exact ⟨by omega, by omega⟩)) my_X13_branchOn mv_X13_branchOn ca_703 rfl rfl lm_X13_387 rfl (by decide) (Nat.le_of_ble_eq_true rfl) hm dX13_sore_65 (fun r4 n4 I4 J4 R4 hp4 => ?_)
              obtain ⟨rfl, rfl, hK4, hX4, rfl, t4, hR⟩ := hp4
              have hmI4 : q_rel I lb I4 := q_cg (fun k j hk => hK4 k j (fun z => hk (x_wa z))) hX4 hmMm
              have hfI4 : ∀ (k : Nat) (j : Int), ¬ x_a k j → I4 k j = M k j := fun k j hk => (hK4 k j (fun z => hk (x_wa z))).trans (hfMm k j hk)
              refine g_istore_7 hc dX13_sore_68 rfl ?_
              refine g_iload hc dX13_sore_70 rfl ?_
              refine g_iconst hc dX13_sore_72 ?_
              refine g_icmp_ne (tgt := 79) hc dX13_sore_73 (by decide) (by unfold q_bo; split <;> first | exact hI _ _ | exact ⟨by decide, by decide⟩) (by exact ⟨by decide, by decide⟩) (fun c5 => ?_) (fun c5 => ?_)
              · skip
                have hne : ¬ g_stp I lb s f = -1 := fun z => c5 (by unfold q_bo; rw [if_pos z])
                have hbo : q_bo I lb s f = I (lb + 29 + s.toNat) (g_stp I lb s f) := by unfold q_bo; rw [if_neg hne]
                have hws : (0 ≤ f ∧ f < I lb 1) ∧ 0 ≤ q_bo I lb s f ∧ q_bo I lb s f < I (lb + 43) f := by
                  rcases @q_stp I lb s f with ⟨z, -⟩ | ⟨z1, z2, z3⟩
                  · exact absurd z hne
                  · have := hway _ z1 z2
                    rw [z3] at this
                    rw [hbo]
                    omega
                have hrg : 0 ≤ q_rg I lb f (q_bo I lb s f) ∧ q_rg I lb f (q_bo I lb s f) ≤ 200060000 := by
                  have hqq := q_val_in hC (nd := 100 + f) (by omega)
                  rw [q_val, if_neg (by omega), show 100 + f - 100 = f by omega] at hqq
                  obtain ⟨-, -, -, hit⟩ := hLf f (by omega) (by omega)
                  obtain ⟨-, -, -, -, -, htg⟩ := hit (q_bo I lb s f) (by omega) (by omega)
                  have hqv := q_val_in hC (nd := I (lb + 127) (f * 4 + q_bo I lb s f)) (by omega)
                  rw [← q_bhd (I := I) (b := lb) (f := f) (r := q_bo I lb s f) (by omega) (by omega)] at hqv
                  unfold q_rg
                  split <;> omega
                refine g_aldn hc dX13_sore_79 rfl ?_
                refine g_iload hc dX13_sore_80 rfl ?_
                refine g_iload hc dX13_sore_82 rfl ?_
                refine g_V2 hc (c_X13_regretOf w hR hmI4 (by omega) (by omega)) my_X13_regretOf mv_X13_regretOf ca_703 rfl rfl lm_X13_390 rfl (by decide) (Nat.le_of_ble_eq_true rfl) hm dX13_sore_84 (fun r5 n5 I5 J5 R5 hp5 => ?_)
                obtain ⟨rfl, rfl, hK5, hX5, rfl, t5, hR⟩ := hp5
                have hmI5 : q_rel I lb I5 := q_cg hK5 hX5 hmI4
                have hfI5 : ∀ (k : Nat) (j : Int), ¬ x_a k j → I5 k j = M k j := fun k j hk => (hK5 k j hk).trans (hfI4 k j hk)
                refine g_lstore_8 hc dX13_sore_87 rfl ?_
                refine g_iload_n hc dX13_sore_89 rfl ?_
                refine g_iconst hc dX13_sore_90 ?_
                refine g_icmp_eq (tgt := 105) hc dX13_sore_91 (by decide) (by first | exact hI _ _ | exact hxI2 _ _ | exact hIa _ _ | exact hIb _ _ | exact g_b32 | exact g_and32 | assumption | exact ⟨by omega, by omega⟩) (by first | exact hI _ _ | exact hxI2 _ _ | exact hIa _ _ | exact hIb _ _ | exact g_b32 | exact g_and32 | assumption | exact ⟨by omega, by omega⟩) (fun c6 => ?_) (fun c6 => ?_)
                · skip
                  have hst9 := h4.up hqS (fun i a c => (hway i a c).1.1) h1 hne (Or.inl (by omega))
                  refine g_iload hc dX13_sore_105 rfl ?_
                  refine g_istore_3 hc dX13_sore_107 rfl ?_
                  refine g_lload hc dX13_sore_108 rfl ?_
                  refine g_lstore_4 hc dX13_sore_110 rfl ?_
                  refine g_iinc_6 hc dX13_sore_112 rfl ?_
                  refine g_goto (tgt := 47) hc dX13_sore_115 (by decide) ?_
                  refine G_sub (L' := [some (gvr w 703), some (gvI s), some (gvI k), some (gvI f), some (gvL (q_rg I lb (f) ((q_bo I lb (s) (f))))), none, some (gvI (f + 1)), none, none, none]) (show g_le _ _ from ⟨rfl, ⟨rfl, ⟨rfl, ⟨rfl, ⟨rfl, ⟨rfl, trivial⟩⟩⟩⟩⟩⟩) ?_
                  refine ih_47 _ _ _ _ _ ?_ ?_ ?_ ?_ ?_ ?_ ?_ ?_
                  · omega
                  · exact hst9
                  · omega
                  · omega
                  · exact ⟨_, hR⟩
                  · exact hmI5
                  · exact hfI5
                  · omega
                · skip
                  refine g_lload hc dX13_sore_94 rfl ?_
                  refine g_lload hc dX13_sore_96 rfl ?_
                  refine g_lcmp hc dX13_sore_98 (by exact ⟨by omega, by omega⟩) (by exact ⟨by omega, by omega⟩) ?_
                  refine g_if_gt (tgt := 105) hc dX13_sore_99 (by decide) (by split <;> first | exact ⟨by decide, by decide⟩ | (split <;> exact ⟨by decide, by decide⟩)) (fun c7 => ?_) (fun c7 => ?_)
                  · skip
                    have hgt : bv < q_rg I lb f (q_bo I lb s f) := (by split at c7 <;> first | omega | (split at c7 <;> omega))
                    have hst9 := h4.up hqS (fun i a c => (hway i a c).1.1) h1 hne (Or.inr hgt)
                    refine g_iload hc dX13_sore_105 rfl ?_
                    refine g_istore_3 hc dX13_sore_107 rfl ?_
                    refine g_lload hc dX13_sore_108 rfl ?_
                    refine g_lstore_4 hc dX13_sore_110 rfl ?_
                    refine g_iinc_6 hc dX13_sore_112 rfl ?_
                    refine g_goto (tgt := 47) hc dX13_sore_115 (by decide) ?_
                    refine G_sub (L' := [some (gvr w 703), some (gvI s), some (gvI k), some (gvI f), some (gvL (q_rg I lb (f) ((q_bo I lb (s) (f))))), none, some (gvI (f + 1)), none, none, none]) (show g_le _ _ from ⟨rfl, ⟨rfl, ⟨rfl, ⟨rfl, ⟨rfl, ⟨rfl, trivial⟩⟩⟩⟩⟩⟩) ?_
                    refine ih_47 _ _ _ _ _ ?_ ?_ ?_ ?_ ?_ ?_ ?_ ?_
                    · omega
                    · exact hst9
                    · omega
                    · omega
                    · exact ⟨_, hR⟩
                    · exact hmI5
                    · exact hfI5
                    · omega
                  · skip
                    have hle : ¬ bv < q_rg I lb f (q_bo I lb s f) := (by split at c7 <;> first | omega | (split at c7 <;> omega))
                    have hst9 := h4.keep hqS h1 hne (by omega) hle
                    refine g_goto (tgt := 112) hc dX13_sore_102 (by decide) ?_
                    refine g_iinc_6 hc dX13_sore_112 rfl ?_
                    refine g_goto (tgt := 47) hc dX13_sore_115 (by decide) ?_
                    refine G_sub (L' := [some (gvr w 703), some (gvI s), some (gvI k), some (gvI best), some (gvL bv), none, some (gvI (f + 1)), none, none, none]) (show g_le _ _ from ⟨rfl, ⟨rfl, ⟨rfl, ⟨rfl, ⟨rfl, ⟨rfl, trivial⟩⟩⟩⟩⟩⟩) ?_
                    refine ih_47 _ _ _ _ _ ?_ ?_ ?_ ?_ ?_ ?_ ?_ ?_
                    · omega
                    · exact hst9
                    · omega
                    · omega
                    · exact ⟨_, hR⟩
                    · exact hmI5
                    · exact hfI5
                    · omega
              · skip
                have hneg : g_stp I lb s f = -1 := by
                  rcases @q_stp I lb s f with ⟨z, -⟩ | ⟨z1, z2, z3⟩
                  · exact z
                  · have hc9 : q_bo I lb s f = -1 := c5
                    unfold q_bo at hc9
                    rw [if_neg (by omega)] at hc9
                    have := hway _ z1 z2
                    omega
                have hst9 := h4.no hneg
                refine g_goto (tgt := 112) hc dX13_sore_76 (by decide) ?_
                refine g_iinc_6 hc dX13_sore_112 rfl ?_
                refine g_goto (tgt := 47) hc dX13_sore_115 (by decide) ?_
                refine G_sub (L' := [some (gvr w 703), some (gvI s), some (gvI k), some (gvI best), some (gvL bv), none, some (gvI (f + 1)), none, none, none]) (show g_le _ _ from ⟨rfl, ⟨rfl, ⟨rfl, ⟨rfl, ⟨rfl, ⟨rfl, trivial⟩⟩⟩⟩⟩⟩) ?_
                refine ih_47 _ _ _ _ _ ?_ ?_ ?_ ?_ ?_ ?_ ?_ ?_
                · omega
                · exact hst9
                · omega
                · omega
                · exact ⟨_, hR⟩
                · exact hmI4
                · exact hfI4
                · omega
        refine lp_47 19 _ _ _ _ _ ?_ ?_ ?_ ?_ ?_ ?_ ?_ (?_)
        · omega
        · exact ⟨0, ⟨Int.le_refl _, by omega, fun i a c => by omega, fun i a c => by have := (hway i a c).1.1; omega⟩, by rw [if_pos]; rfl, fun z => absurd rfl z⟩
        · omega
        · omega
        · exact ⟨_, hR⟩
        · exact hmI3
        · exact hfI3
        · omega
      · skip
        have hrr := q_rgs_in hC h1
        refine g_aldn hc dX13_sore_32 rfl ?_
        refine g_iload_n hc dX13_sore_33 rfl ?_
        refine g_V1 hc (c_X13_regretsOf w hR hmI3 (by omega)) my_X13_regretsOf mv_X13_regretsOf ca_703 rfl rfl lm_X13_393 rfl (by decide) (Nat.le_of_ble_eq_true rfl) hm dX13_sore_34 (fun r6 n6 I6 J6 R6 hp6 => ?_)
        obtain ⟨rfl, rfl, hK6, hX6, rfl, t6, hR⟩ := hp6
        have hmI6 : q_rel I lb I6 := q_cg hK6 hX6 hmI3
        have hfI6 : ∀ (k : Nat) (j : Int), ¬ x_a k j → I6 k j = M k j := fun k j hk => (hK6 k j hk).trans (hfI3 k j hk)
        refine g_l2i hc dX13_sore_37 ?_
        refine g_iret hc hm dX13_sore_38 ?_
        exact x_end (by rw [if_pos (by omega), if_neg (by omega)]) hfI6 hmI6.g hR
    · skip
      refine g_ldcw (k := (-2000000000)) hc dX13_sore_23 _ lc_X13_376 (by decide +kernel) ?_
      refine g_iret hc hm dX13_sore_26 ?_
      exact x_end (by rw [if_neg (by omega)]) hfI3 hmI3.g hR
set_option maxHeartbeats 4000000 in
set_option maxRecDepth 100000 in
/-- X13_apology -/
theorem c_X13_apology (w : g_W) {I : g_I} {J : g_J} {R : g_R} {lb tx : Nat} (hR : g_rf w R lb tx) {M : g_I} (hmM : q_rel I lb M) {s t : Int} (g1 : g32 s) (g2 : g32 t) : g_Met w g_n M J R yX13_apology cX13_apology 4 (some .int) 56 0 0 [(gvr w 703), (gvI s), (gvI t)] (x_rel w (some (gvI (if ((0 ≤ s ∧ s < I lb 0) ∧ 0 ≤ t ∧ t < I lb 0) ∧ ¬ s = t then g_apo I lb s t else -2000000000))) x_a M J lb) := by
  refine g_intro (own := RX13) [some (gvr w 703), some (gvI s), some (gvI t), none] (by decide +kernel) rfl (by decide) (Nat.le_of_ble_eq_true rfl) rfl (fun i v hv => g_args 1 i v hv rfl) (fun x hc hm => ?_)
  have hfM : ∀ (k : Nat) (j : Int), ¬ x_a k j → M k j = M k j := fun _ _ _ => rfl
  have hI := hmM.gi
  have hTb := q_b1 hmM
  have hLv := hmM.lv
  have hC := hmM.cin
  have hL := hC.1
  obtain ⟨hn0, hn1, hLs, hLf⟩ := id hL
  obtain ⟨-, hC1, hC2, hC3, hC4, hC5, hC6, hC7⟩ := id hC
  have hN0 := q_n0 hmM
  refine g_aldn hc dX13_apology_0 rfl ?_
  refine g_iconst hc dX13_apology_1 ?_
  refine g_putI' hc lk_X13_102 ca_703 0 rfl dX13_apology_2 (fun I3 hI3 => ?_)
  have hmI3 : q_rel I lb I3 := by rw [hI3]; exact q_up hmM (by unfold x_a; omega) (by first | exact hI _ _ | exact hmM.g _ _ | exact g_b32 | exact g_and32 | exact g_or32 | exact g_shl32 | assumption | exact ⟨by omega, by omega⟩)
  have hfI3 : ∀ (k : Nat) (j : Int), ¬ x_a k j → I3 k j = M k j := fun k j hk => by rw [hI3]; exact (g_up_n (by unfold x_a at hk; omega)).trans (hfM k j hk)
  refine g_aldn hc dX13_apology_5 rfl ?_
  refine g_iload_n hc dX13_apology_6 rfl ?_
  refine g_V1r hc (c_X13_isSelf w hR hmI3 (by first | exact hI _ _ | exact hmM.g _ _ | exact g_b32 | exact g_and32 | exact g_or32 | exact g_shl32 | assumption | exact ⟨by omega, by omega⟩)) my_X13_isSelf mv_X13_isSelf ca_703 rfl rfl lm_X13_313 rfl (by decide) (Nat.le_of_ble_eq_true rfl) hm dX13_apology_7 ?_
  refine g_ifb_eq (tgt := 26) hc dX13_apology_10 (by decide)  (fun c1 => ?_) (fun c1 => ?_)
  · skip
    refine g_ldcw (k := (-2000000000)) hc dX13_apology_26 _ lc_X13_376 (by decide +kernel) ?_
    refine g_iret hc hm dX13_apology_29 ?_
    exact x_end (by rw [if_neg (by omega)]) hfI3 hmI3.g hR
  · skip
    refine g_aldn hc dX13_apology_13 rfl ?_
    refine g_iload_n hc dX13_apology_14 rfl ?_
    refine g_V1r hc (c_X13_isSelf w hR hmI3 (by first | exact hI _ _ | exact hmM.g _ _ | exact g_b32 | exact g_and32 | exact g_or32 | exact g_shl32 | assumption | exact ⟨by omega, by omega⟩)) my_X13_isSelf mv_X13_isSelf ca_703 rfl rfl lm_X13_313 rfl (by decide) (Nat.le_of_ble_eq_true rfl) hm dX13_apology_15 ?_
    refine g_ifb_eq (tgt := 26) hc dX13_apology_18 (by decide)  (fun c2 => ?_) (fun c2 => ?_)
    · skip
      refine g_ldcw (k := (-2000000000)) hc dX13_apology_26 _ lc_X13_376 (by decide +kernel) ?_
      refine g_iret hc hm dX13_apology_29 ?_
      exact x_end (by rw [if_neg (by omega)]) hfI3 hmI3.g hR
    · skip
      refine g_iload_n hc dX13_apology_21 rfl ?_
      refine g_iload_n hc dX13_apology_22 rfl ?_
      refine g_icmp_ne (tgt := 30) hc dX13_apology_23 (by decide) (by first | exact hI _ _ | exact hxI2 _ _ | exact hIa _ _ | exact hIb _ _ | exact g_b32 | exact g_and32 | assumption | exact ⟨by omega, by omega⟩) (by first | exact hI _ _ | exact hxI2 _ _ | exact hIa _ _ | exact hIb _ _ | exact g_b32 | exact g_and32 | assumption | exact ⟨by omega, by omega⟩) (fun c3 => ?_) (fun c3 => ?_)
      · skip
        have hTs := q_ts hmM (by omega)
        obtain ⟨ap1, ap2, ap3, ap4⟩ := x_apo hmM (s := s) (t := t) (by omega) (by omega) (by omega)
        obtain ⟨-, -, -, hit⟩ := hLf _ ap1.1 ap1.2
        obtain ⟨-, -, -, -, -, ht1⟩ := hit _ ap2.1 ap2.2
        obtain ⟨-, -, -, -, -, ht2⟩ := hit _ ap3.1 ap3.2
        have hv1 := q_val_in hC (nd := I (lb + 127) (g_prt I lb s t * 4 + q_bo I lb s (g_prt I lb s t))) (by omega)
        have hv2 := q_val_in hC (nd := I (lb + 127) (g_prt I lb s t * 4 + q_bo I lb t (g_prt I lb s t))) (by omega)
        rw [← q_bhd ap1 ap2] at hv1
        rw [← q_bhd ap1 ap3] at hv2
        refine g_aldn hc dX13_apology_30 rfl ?_
        refine g_iload_n hc dX13_apology_31 rfl ?_
        refine g_iload_n hc dX13_apology_32 rfl ?_
        refine g_V2 hc (c_X13_partOf w hR hmI3 (by omega) (by omega) (by omega)) my_X13_partOf mv_X13_partOf ca_703 rfl rfl lm_X13_340 rfl (by decide) (Nat.le_of_ble_eq_true rfl) hm dX13_apology_33 (fun r4 n4 I4 J4 R4 hp4 => ?_)
        obtain ⟨rfl, rfl, hK4, hX4, rfl, t4, hR⟩ := hp4
        have hmI4 : q_rel I lb I4 := q_cg (fun k j hk => hK4 k j (fun z => hk (x_wa z))) hX4 hmI3
        have hfI4 : ∀ (k : Nat) (j : Int), ¬ x_a k j → I4 k j = M k j := fun k j hk => (hK4 k j (fun z => hk (x_wa z))).trans (hfI3 k j hk)
        refine g_istore_3 hc dX13_apology_36 rfl ?_
        refine g_aldn hc dX13_apology_37 rfl ?_
        refine g_iload_n hc dX13_apology_38 rfl ?_
        refine g_aldn hc dX13_apology_39 rfl ?_
        refine g_iload_n hc dX13_apology_40 rfl ?_
        refine g_iload_n hc dX13_apology_41 rfl ?_
        refine g_V2 hc (c_X13_branchOn w hR hmI4 (by omega) (by first | exact hI _ _ | exact hmM.g _ _ | exact g_b32 | exact g_and32 | exact g_or32 | exact g_shl32 | assumption | exact ⟨by omega, by omega⟩)) my_X13_branchOn mv_X13_branchOn ca_703 rfl rfl lm_X13_387 rfl (by decide) (Nat.le_of_ble_eq_true rfl) hm dX13_apology_42 (fun r5 n5 I5 J5 R5 hp5 => ?_)
        obtain ⟨rfl, rfl, hK5, hX5, rfl, t5, hR⟩ := hp5
        have hmI5 : q_rel I lb I5 := q_cg (fun k j hk => hK5 k j (fun z => hk (x_wa z))) hX5 hmI4
        have hfI5 : ∀ (k : Nat) (j : Int), ¬ x_a k j → I5 k j = M k j := fun k j hk => (hK5 k j (fun z => hk (x_wa z))).trans (hfI4 k j hk)
        refine g_V2 hc (c_X13_behindOf w hR hmI5 (by omega) (by omega)) my_X13_behindOf mv_X13_behindOf ca_703 rfl rfl lm_X13_383 rfl (by decide) (Nat.le_of_ble_eq_true rfl) hm dX13_apology_45 (fun r6 n6 I6 J6 R6 hp6 => ?_)
        obtain ⟨rfl, rfl, hK6, hX6, rfl, t6, hR⟩ := hp6
        have hmI6 : q_rel I lb I6 := q_cg hK6 hX6 hmI5
        have hfI6 : ∀ (k : Nat) (j : Int), ¬ x_a k j → I6 k j = M k j := fun k j hk => (hK6 k j hk).trans (hfI5 k j hk)
        refine g_aldn hc dX13_apology_48 rfl ?_
        refine g_iload_n hc dX13_apology_49 rfl ?_
        refine g_aldn hc dX13_apology_50 rfl ?_
        refine g_iload_n hc dX13_apology_51 rfl ?_
        refine g_iload_n hc dX13_apology_52 rfl ?_
        refine g_V2 hc (c_X13_branchOn w hR hmI6 (by omega) (by first | exact hI _ _ | exact hmM.g _ _ | exact g_b32 | exact g_and32 | exact g_or32 | exact g_shl32 | assumption | exact ⟨by omega, by omega⟩)) my_X13_branchOn mv_X13_branchOn ca_703 rfl rfl lm_X13_387 rfl (by decide) (Nat.le_of_ble_eq_true rfl) hm dX13_apology_53 (fun r7 n7 I7 J7 R7 hp7 => ?_)
        obtain ⟨rfl, rfl, hK7, hX7, rfl, t7, hR⟩ := hp7
        have hmI7 : q_rel I lb I7 := q_cg (fun k j hk => hK7 k j (fun z => hk (x_wa z))) hX7 hmI6
        have hfI7 : ∀ (k : Nat) (j : Int), ¬ x_a k j → I7 k j = M k j := fun k j hk => (hK7 k j (fun z => hk (x_wa z))).trans (hfI6 k j hk)
        refine g_V2 hc (c_X13_behindOf w hR hmI7 (by omega) (by omega)) my_X13_behindOf mv_X13_behindOf ca_703 rfl rfl lm_X13_383 rfl (by decide) (Nat.le_of_ble_eq_true rfl) hm dX13_apology_56 (fun r8 n8 I8 J8 R8 hp8 => ?_)
        obtain ⟨rfl, rfl, hK8, hX8, rfl, t8, hR⟩ := hp8
        have hmI8 : q_rel I lb I8 := q_cg hK8 hX8 hmI7
        have hfI8 : ∀ (k : Nat) (j : Int), ¬ x_a k j → I8 k j = M k j := fun k j hk => (hK8 k j hk).trans (hfI7 k j hk)
        refine g_lsub hc dX13_apology_59 ?_
        refine g_l2i hc dX13_apology_60 ?_
        refine g_iret hc hm dX13_apology_61 ?_
        exact x_end (by rw [if_pos (by omega)]; exact ap4) hfI8 hmI8.g hR
      · skip
        refine g_ldcw (k := (-2000000000)) hc dX13_apology_26 _ lc_X13_376 (by decide +kernel) ?_
        refine g_iret hc hm dX13_apology_29 ?_
        exact x_end (by rw [if_neg (by omega)]) hfI3 hmI3.g hR
