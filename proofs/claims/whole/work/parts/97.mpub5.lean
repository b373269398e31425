theorem x_ahd_neg {I : g_I} {b : Nat} {t q : Int} : g_ahd I b t q = - g_ahd I b q t := by
  have key : ∀ n : Nat, g_sum (fun s => if g_vtr I b s then g_cmp (g_wby I b t s) (g_wby I b q s) else 0) n = - g_sum (fun s => if g_vtr I b s then g_cmp (g_wby I b q s) (g_wby I b t s) else 0) n := by
    intro n
    induction n with
    | zero => rfl
    | succ n ih =>
      rw [g_sum, g_sum, ih]
      by_cases h : g_vtr I b n
      · rw [if_pos h, if_pos h]; unfold g_cmp; split <;> split <;> (try split) <;> (try split) <;> omega
      · rw [if_neg h, if_neg h]; omega
  exact key _
/-- voters who are for one TASTE: the winner's many -/
theorem x_wnn {V : Int → Int} : ∀ n : Nat, ∀ t : Int, 0 ≤ t → t < n → V t ≤ V (g_wnn V n)
  | 0, t, a, c => by omega
  | n + 1, t, a, c => by
    rw [g_wnn]
    by_cases e : t = n
    · rw [e]; split
      · exact Int.le_refl _
      · omega
    · have := x_wnn (V := V) n t a (by omega)
      split
      · omega
      · exact this
theorem x_vfn {I : g_I} {b : Nat} {s : Int} : ∀ n : Nat, 0 < n → 0 ≤ g_vfn I b s n ∧ g_vfn I b s n < n
  | 0, h => by omega
  | 1, _ => by rw [g_vfn_1]; omega
  | n + 2, _ => by
    have := @x_vfn I b s (n + 1) (by omega)
    have e := @g_vfn_i I b s ((n + 1 : Nat) : Int) (by omega)
    rw [show (((n + 1 : Nat) : Int) + 1).toNat = n + 2 by omega] at e
    rw [show ((n + 1 : Nat) : Int).toNat = n + 1 by omega] at e
    rw [e]
    split <;> omega
theorem x_sum1 {f : Int → Int} (hf : ∀ i, 0 ≤ f i) : ∀ n : Nat, ∀ i : Int, 0 ≤ i → i < n → f i ≤ g_sum f n
  | 0, i, a, c => by omega
  | n + 1, i, a, c => by
    have h0 : ∀ m : Nat, 0 ≤ g_sum f m := by
      intro m
      induction m with
      | zero => exact Int.le_refl _
      | succ m ih => rw [g_sum]; have := hf m; omega
    rw [g_sum]
    by_cases e : i = n
    · rw [e]; have := h0 n; omega
    · have := x_sum1 hf n i a (by omega); have := hf n; omega
/-- nobody votes, or somebody is for one -/
theorem x_vtb {I : g_I} {b : Nat} {m : Int} (hn : 0 ≤ I b 0 ∧ I b 0 ≤ 12) (hm : 0 < m) : g_vtb I b = 0 ↔ ¬ 0 < g_vts I b m (g_wnn (fun t => g_vts I b m t (I b 0).toNat) m.toNat) (I b 0).toNat := by
  rw [g_vtb_0 hn]
  constructor
  · intro h
    have : ∀ t : Int, ∀ n : Nat, n ≤ (I b 0).toNat → g_vts I b m t n = 0 := by
      intro t n
      induction n with
      | zero => intro _; rfl
      | succ n ih =>
        intro hl
        have := ih (by omega)
        unfold g_vts at this ⊢
        rw [g_sum, this, if_neg (fun z => h n (by omega) (by omega) z.1)]
        rfl
    rw [this _ _ (Nat.le_refl _)]
    omega
  · intro h s s0 s1 hv
    have a := @x_vfn I b s m.toNat (by omega)
    have c := x_wnn (V := fun t => g_vts I b m t (I b 0).toNat) m.toNat (g_vfn I b s m.toNat) a.1 (by omega)
    have d := x_sum1 (f := fun s' => if g_vtr I b s' ∧ g_vfn I b s' m.toNat = g_vfn I b s m.toNat then 1 else 0) (fun i => by split <;> omega) (I b 0).toNat s s0 (by omega)
    rw [if_pos ⟨hv, rfl⟩] at d
    unfold g_vts at c h
    omega
set_option maxHeartbeats 4000000 in
set_option maxRecDepth 100000 in
/-- X13_meetings -/
theorem c_X13_meetings (w : g_W) {I : g_I} {J : g_J} {R : g_R} {lb tx : Nat} (hR : g_rf w R lb tx) {M : g_I} (hmM : q_rel I lb M) {j k m : Int} (g1 : g32 j) (g2 : g32 k) (g3 : g32 m) : g_Met w g_n M J R yX13_meetings cX13_meetings 10 (some .int) 4 0 0 [(gvr w 703), (gvI j), (gvI k), (gvI m)] (x_rel w (some (gvI (if ((0 ≤ j ∧ j < I 0 10) ∧ 0 ≤ k ∧ k < I 0 10) ∧ ¬ j = k ∧ 0 ≤ m ∧ m ≤ 1 then (if m = 0 then g_prs I (4 + 128 * j.toNat) (4 + 128 * k.toNat) else (g_cmx I (4 + 128 * j.toNat) (4 + 128 * k.toNat) (I (4 + 128 * j.toNat) 0).toNat).1) else -1))) x_a M J lb) := by
  refine g_intro (own := RX13) [some (gvr w 703), some (gvI j), some (gvI k), some (gvI m), none, none, none, none, none, none] (by decide +kernel) rfl (by decide) (Nat.le_of_ble_eq_true rfl) rfl (fun i v hv => g_args 6 i v hv rfl) (fun x hc hm => ?_)
  have hfM : ∀ (k : Nat) (j : Int), ¬ x_a k j → M k j = M k j := fun _ _ _ => rfl
  have hI := hmM.gi
  have hTb := q_b1 hmM
  have hLv := hmM.lv
  have hC := hmM.cin
  have hL := hC.1
  obtain ⟨hn0, hn1, hLs, hLf⟩ := id hL
  obtain ⟨-, hC1, hC2, hC3, hC4, hC5, hC6, hC7⟩ := id hC
  refine g_aldn hc dX13_meetings_0 rfl ?_
  refine g_iconst hc dX13_meetings_1 ?_
  refine g_putI' hc lk_X13_102 ca_703 0 rfl dX13_meetings_2 (fun I3 hI3 => ?_)
  have hmI3 : q_rel I lb I3 := by rw [hI3]; exact q_up hmM (by unfold x_a; omega) (by first | exact hI _ _ | exact hmM.g _ _ | exact g_b32 | exact g_and32 | exact g_or32 | exact g_shl32 | assumption | exact ⟨by omega, by omega⟩)
  have hfI3 : ∀ (k : Nat) (j : Int), ¬ x_a k j → I3 k j = M k j := fun k j hk => by rw [hI3]; exact (g_up_n (by unfold x_a at hk; omega)).trans (hfM k j hk)
  refine g_iload_n hc dX13_meetings_5 rfl ?_
  refine g_i2l hc dX13_meetings_6 (by first | exact hI _ _ | exact hxI2 _ _ | exact hIa _ _ | exact hIb _ _ | exact g_b32 | exact g_and32 | assumption | exact ⟨by omega, by omega⟩) ?_
  refine g_lconst hc dX13_meetings_7 0 (by decide +kernel) ?_
  refine g_aldn hc dX13_meetings_8 rfl ?_
  refine g_getIe hc lk_X13_281 ca_703 23 rfl (show I3 703 23 = I 0 10 from hmI3.liv) dX13_meetings_9 ?_
  refine g_iconst hc dX13_meetings_12 ?_
  refine g_isub hc dX13_meetings_13 ?_
  refine g_i2l hc dX13_meetings_14 (by first | exact hI _ _ | exact hxI2 _ _ | exact hIa _ _ | exact hIb _ _ | exact g_b32 | exact g_and32 | assumption | exact ⟨by omega, by omega⟩) ?_
  refine g_S3r hc (c_X13_isIn w (by first | exact hI _ _ | exact hmM.g _ _ | exact g_b32 | exact g_and32 | exact g_or32 | exact g_shl32 | assumption | exact ⟨by omega, by omega⟩) (by first | exact hI _ _ | exact hmM.g _ _ | exact g_b32 | exact g_and32 | exact g_or32 | exact g_shl32 | assumption | exact ⟨by omega, by omega⟩) (by first | exact hI _ _ | exact hmM.g _ _ | exact g_b32 | exact g_and32 | exact g_or32 | exact g_shl32 | assumption | exact ⟨by omega, by omega⟩)) my_X13_isIn ms_X13_isIn lm_X13_231 rfl (by decide) (Nat.le_of_ble_eq_true rfl) hm dX13_meetings_15 ?_
  refine g_ifb_eq (tgt := 52) hc dX13_meetings_18 (by decide)  (fun c1 => ?_) (fun c1 => ?_)
  · skip
    refine g_iconst hc dX13_meetings_52 ?_
    refine g_iret hc hm dX13_meetings_53 ?_
    exact x_end (by rw [if_neg (by omega)]) hfI3 hmI3.g hR
  · skip
    refine g_iload_n hc dX13_meetings_21 rfl ?_
    refine g_i2l hc dX13_meetings_22 (by first | exact hI _ _ | exact hxI2 _ _ | exact hIa _ _ | exact hIb _ _ | exact g_b32 | exact g_and32 | assumption | exact ⟨by omega, by omega⟩) ?_
    refine g_lconst hc dX13_meetings_23 0 (by decide +kernel) ?_
    refine g_aldn hc dX13_meetings_24 rfl ?_
    refine g_getIe hc lk_X13_281 ca_703 23 rfl (show I3 703 23 = I 0 10 from hmI3.liv) dX13_meetings_25 ?_
    refine g_iconst hc dX13_meetings_28 ?_
    refine g_isub hc dX13_meetings_29 ?_
    refine g_i2l hc dX13_meetings_30 (by first | exact hI _ _ | exact hxI2 _ _ | exact hIa _ _ | exact hIb _ _ | exact g_b32 | exact g_and32 | assumption | exact ⟨by omega, by omega⟩) ?_
    refine g_S3r hc (c_X13_isIn w (by first | exact hI _ _ | exact hmM.g _ _ | exact g_b32 | exact g_and32 | exact g_or32 | exact g_shl32 | assumption | exact ⟨by omega, by omega⟩) (by first | exact hI _ _ | exact hmM.g _ _ | exact g_b32 | exact g_and32 | exact g_or32 | exact g_shl32 | assumption | exact ⟨by omega, by omega⟩) (by first | exact hI _ _ | exact hmM.g _ _ | exact g_b32 | exact g_and32 | exact g_or32 | exact g_shl32 | assumption | exact ⟨by omega, by omega⟩)) my_X13_isIn ms_X13_isIn lm_X13_231 rfl (by decide) (Nat.le_of_ble_eq_true rfl) hm dX13_meetings_31 ?_
    refine g_ifb_eq (tgt := 52) hc dX13_meetings_34 (by decide)  (fun c2 => ?_) (fun c2 => ?_)
    · skip
      refine g_iconst hc dX13_meetings_52 ?_
      refine g_iret hc hm dX13_meetings_53 ?_
      exact x_end (by rw [if_neg (by omega)]) hfI3 hmI3.g hR
    · skip
      refine g_iload_n hc dX13_meetings_37 rfl ?_
      refine g_iload_n hc dX13_meetings_38 rfl ?_
      refine g_icmp_eq (tgt := 52) hc dX13_meetings_39 (by decide) (by first | exact hI _ _ | exact hxI2 _ _ | exact hIa _ _ | exact hIb _ _ | exact g_b32 | exact g_and32 | assumption | exact ⟨by omega, by omega⟩) (by first | exact hI _ _ | exact hxI2 _ _ | exact hIa _ _ | exact hIb _ _ | exact g_b32 | exact g_and32 | assumption | exact ⟨by omega, by omega⟩) (fun c3 => ?_) (fun c3 => ?_)
      · skip
        refine g_iconst hc dX13_meetings_52 ?_
        refine g_iret hc hm dX13_meetings_53 ?_
        exact x_end (by rw [if_neg (by omega)]) hfI3 hmI3.g hR
      · skip
        refine g_iload_n hc dX13_meetings_42 rfl ?_
        refine g_i2l hc dX13_meetings_43 (by first | exact hI _ _ | exact hxI2 _ _ | exact hIa _ _ | exact hIb _ _ | exact g_b32 | exact g_and32 | assumption | exact ⟨by omega, by omega⟩) ?_
        refine g_lconst hc dX13_meetings_44 0 (by decide +kernel) ?_
        refine g_lconst hc dX13_meetings_45 1 (by decide +kernel) ?_
        refine g_S3r hc (c_X13_isIn w (by first | exact hI _ _ | exact hmM.g _ _ | exact g_b32 | exact g_and32 | exact g_or32 | exact g_shl32 | assumption | exact ⟨by omega, by omega⟩) (by first | exact hI _ _ | exact hmM.g _ _ | exact g_b32 | exact g_and32 | exact g_or32 | exact g_shl32 | assumption | exact ⟨by omega, by omega⟩) (by first | exact hI _ _ | exact hmM.g _ _ | exact g_b32 | exact g_and32 | exact g_or32 | exact g_shl32 | assumption | exact ⟨by omega, by omega⟩)) my_X13_isIn ms_X13_isIn lm_X13_231 rfl (by decide) (Nat.le_of_ble_eq_true rfl) hm dX13_meetings_46 ?_
        refine g_ifb_ne (tgt := 54) hc dX13_meetings_49 (by decide)  (fun c4 => ?_) (fun c4 => ?_)
        · skip
          have hl1 := (hmM.lf (jj := j) ⟨by omega, by omega⟩).1
          have hl2 := (hmM.lf (jj := k) ⟨by omega, by omega⟩).1
          obtain ⟨w1, -⟩ := id hl1
          obtain ⟨w2, -⟩ := id hl2
          refine g_iconst hc dX13_meetings_54 ?_
          refine g_istore_4 hc dX13_meetings_55 rfl ?_
          refine g_iconst hc dX13_meetings_57 ?_
          refine g_istore_5 hc dX13_meetings_58 rfl ?_
          refine g_iconst hc dX13_meetings_60 ?_
          refine g_istore_6 hc dX13_meetings_61 rfl ?_
          refine g_iconst hc dX13_meetings_63 ?_
          refine g_istore_7 hc dX13_meetings_64 rfl ?_
          have lp_66 : ∀ (fu : Nat) (a best cnt i : Int) (Mm : g_I) (Rm : g_R), 0 ≤ i ∧ i ≤ I (4 + 128 * j.toNat) 0 → a = g_sum (g_crd I (4 + 128 * j.toNat) (4 + 128 * k.toNat)) i.toNat → best = (g_cmx I (4 + 128 * j.toNat) (4 + 128 * k.toNat) i.toNat).1 → cnt = (g_cmx I (4 + 128 * j.toNat) (4 + 128 * k.toNat) i.toNat).2 → ((0 ≤ a ∧ a ≤ 12 * i) ∧ (-1 ≤ best ∧ best < 12) ∧ 0 ≤ cnt ∧ cnt ≤ 12) → (∃ tm, g_rf w Rm lb tm) → q_rel I lb Mm → (∀ (k : Nat) (j : Int), ¬ x_a k j → Mm k j = M k j) → I (4 + 128 * j.toNat) 0 - i < (fu : Int) → G w x (x_rel w (some (gvI (if ((0 ≤ j ∧ j < I 0 10) ∧ 0 ≤ k ∧ k < I 0 10) ∧ ¬ j = k ∧ 0 ≤ m ∧ m ≤ 1 then (if m = 0 then g_prs I (4 + 128 * j.toNat) (4 + 128 * k.toNat) else (g_cmx I (4 + 128 * j.toNat) (4 + 128 * k.toNat) (I (4 + 128 * j.toNat) 0).toNat).1) else -1))) x_a M J lb) 0 0 g_n Mm J Rm 66 [some (gvr w 703), some (gvI j), some (gvI k), some (gvI m), some (gvI a), some (gvI best), some (gvI cnt), some (gvI i), none, none] [] := by
            intro fu
            induction fu with
            | zero => intro a best cnt i Mm Rm h3 h4 h5 h6 h7 hR hmMm hfMm hfu; exfalso; omega
            | succ fu ih =>
              intro a best cnt i Mm Rm h3 h4 h5 h6 h7 hR hmMm hfMm hfu
              obtain ⟨tm, hR⟩ := hR
              have ih_66 := ih
              refine g_iload hc dX13_meetings_66 rfl ?_
              refine g_aldn hc dX13_meetings_68 rfl ?_
              refine g_getRk hc lk_X13_46 ca_703 (rc_703_21 hR) dX13_meetings_69 ?_
              refine g_iload_n hc dX13_meetings_72 rfl ?_
              refine g_ialde hc ca_711 (by decide) (by omega) (by omega) (show Mm 711 j = I (4 + 128 * j.toNat) 0 from (hmMm.lf ⟨by omega, by omega⟩).2.2.1) dX13_meetings_73 ?_
              refine g_icmp_ge (tgt := 154) hc dX13_meetings_74 (by decide) (by first | exact hI _ _ | exact hxI2 _ _ | exact hIa _ _ | exact hIb _ _ | exact g_b32 | exact g_and32 | assumption | exact ⟨by omega, by omega⟩) (by first | exact hI _ _ | exact hxI2 _ _ | exact hIa _ _ | exact hIb _ _ | exact g_b32 | exact g_and32 | assumption | exact ⟨by omega, by omega⟩) (fun c5 => ?_) (fun c5 => ?_)
              · skip
                refine g_iload_n hc dX13_meetings_154 rfl ?_
                refine g_if_ne (tgt := 163) hc dX13_meetings_155 (by decide) (by first | exact hI _ _ | exact hxI2 _ _ | exact hIa _ _ | exact hIb _ _ | exact g_b32 | exact g_and32 | assumption | exact ⟨by omega, by omega⟩) (fun c6 => ?_) (fun c6 => ?_)
                · skip
                  refine g_iload hc dX13_meetings_163 rfl ?_
                  refine g_iret hc hm dX13_meetings_165 ?_
                  exact x_end (by rw [if_pos (by omega), if_neg (by omega), h5, show I (4 + 128 * j.toNat) 0 = i by omega]) hfMm hmMm.g hR
                · skip
                  refine g_iload hc dX13_meetings_158 rfl ?_
                  refine g_goto (tgt := 165) hc dX13_meetings_160 (by decide) ?_
                  refine g_iret hc hm dX13_meetings_165 ?_
                  exact x_end (by rw [if_pos (by omega), if_pos (by omega), h4, g_prs, show I (4 + 128 * j.toNat) 0 = i by omega]) hfMm hmMm.g hR
              · skip
                refine g_iconst hc dX13_meetings_77 ?_
                refine g_istore_8 hc dX13_meetings_78 rfl ?_
                refine g_iconst hc dX13_meetings_80 ?_
                refine g_istore_9 hc dX13_meetings_81 rfl ?_
                have lp_83 : ∀ (fu : Nat) (n t : Int) (Mm : g_I) (Rm : g_R), 0 ≤ t ∧ t ≤ I (4 + 128 * k.toNat) 0 → n = g_sum (fun t => if g_crs I (4 + 128 * j.toNat) (4 + 128 * k.toNat) i t = 0 then 0 else 1) t.toNat → (0 ≤ n ∧ n ≤ t) → (∃ tm, g_rf w Rm lb tm) → q_rel I lb Mm → (∀ (k : Nat) (j : Int), ¬ x_a k j → Mm k j = M k j) → I (4 + 128 * k.toNat) 0 - t < (fu : Int) → G w x (x_rel w (some (gvI (if ((0 ≤ j ∧ j < I 0 10) ∧ 0 ≤ k ∧ k < I 0 10) ∧ ¬ j = k ∧ 0 ≤ m ∧ m ≤ 1 then (if m = 0 then g_prs I (4 + 128 * j.toNat) (4 + 128 * k.toNat) else (g_cmx I (4 + 128 * j.toNat) (4 + 128 * k.toNat) (I (4 + 128 * j.toNat) 0).toNat).1) else -1))) x_a M J lb) 0 0 g_n Mm J Rm 83 [some (gvr w 703), some (gvI j), some (gvI k), some (gvI m), some (gvI a), some (gvI best), some (gvI cnt), some (gvI i), some (gvI n), some (gvI t)] [] := by
                  intro fu
                  induction fu with
                  | zero => intro n t Mm Rm k3 k4 k5 hR hmMm hfMm hfu; exfalso; omega
                  | succ fu ih =>
                    intro n t Mm Rm k3 k4 k5 hR hmMm hfMm hfu
                    obtain ⟨tm, hR⟩ := hR
                    have ih_83 := ih
                    refine g_iload hc dX13_meetings_83 rfl ?_
                    refine g_aldn hc dX13_meetings_85 rfl ?_
                    refine g_getRk hc lk_X13_46 ca_703 (rc_703_21 hR) dX13_meetings_86 ?_
                    refine g_iload_n hc dX13_meetings_89 rfl ?_
                    refine g_ialde hc ca_711 (by decide) (by omega) (by omega) (show Mm 711 k = I (4 + 128 * k.toNat) 0 from (hmMm.lf ⟨by omega, by omega⟩).2.2.1) dX13_meetings_90 ?_
                    refine g_icmp_ge (tgt := 123) hc dX13_meetings_91 (by decide) (by first | exact hI _ _ | exact hxI2 _ _ | exact hIa _ _ | exact hIb _ _ | exact g_b32 | exact g_and32 | assumption | exact ⟨by omega, by omega⟩) (by first | exact hI _ _ | exact hxI2 _ _ | exact hIa _ _ | exact hIb _ _ | exact g_b32 | exact g_and32 | assumption | exact ⟨by omega, by omega⟩) (fun c7 => ?_) (fun c7 => ?_)
                    · skip
                      have hcd : n = g_crd I (4 + 128 * j.toNat) (4 + 128 * k.toNat) i := by rw [k4, g_crd, show I (4 + 128 * k.toNat) 0 = t by omega]
                      have hcr := g_crd_in (I := I) (b := 4 + 128 * j.toNat) (b2 := 4 + 128 * k.toNat) (s := i) (by omega)
                      refine g_iload hc dX13_meetings_123 rfl ?_
                      refine g_iload hc dX13_meetings_125 rfl ?_
                      refine g_iadd hc dX13_meetings_127 ?_
                      refine g_istore_4 hc dX13_meetings_128 rfl ?_
                      refine g_iload hc dX13_meetings_130 rfl ?_
                      refine g_iload hc dX13_meetings_132 rfl ?_
                      refine g_icmp_gt (tgt := 140) hc dX13_meetings_134 (by decide) (by first | exact hI _ _ | exact hxI2 _ _ | exact hIa _ _ | exact hIb _ _ | exact g_b32 | exact g_and32 | assumption | exact ⟨by omega, by omega⟩) (by first | exact hI _ _ | exact hxI2 _ _ | exact hIa _ _ | exact hIb _ _ | exact g_b32 | exact g_and32 | assumption | exact ⟨by omega, by omega⟩) (fun c8 => ?_) (fun c8 => ?_)
                      · skip
                        have hgt : cnt < n := c8
                        refine g_iload hc dX13_meetings_140 rfl ?_
                        refine g_istore_5 hc dX13_meetings_142 rfl ?_
                        refine g_iload hc dX13_meetings_144 rfl ?_
                        refine g_istore_6 hc dX13_meetings_146 rfl ?_
                        refine g_iinc_7 hc dX13_meetings_148 rfl ?_
                        refine g_goto (tgt := 66) hc dX13_meetings_151 (by decide) ?_
                        refine G_sub (L' := [some (gvr w 703), some (gvI j), some (gvI k), some (gvI m), some (gvI (a + n)), some (gvI i), some (gvI n), some (gvI (i + 1)), none, none]) (show g_le _ _ from ⟨rfl, ⟨rfl, ⟨rfl, ⟨rfl, ⟨rfl, ⟨rfl, ⟨rfl, ⟨rfl, trivial⟩⟩⟩⟩⟩⟩⟩⟩) ?_
                        refine ih_66 _ _ _ _ _ _ ?_ ?_ ?_ ?_ ?_ ?_ ?_ ?_ ?_
                        · omega
                        · rw [g_sum_i h3.1, h4]; omega
                        · rw [g_cmx_i h3.1, ← h6, ← hcd, if_pos hgt]
                        · rw [g_cmx_i h3.1, ← h6, ← hcd, if_pos hgt]
                        · omega
                        · exact ⟨_, hR⟩
                        · exact hmMm
                        · exact hfMm
                        · omega
                      · skip
                        have hgt : ¬ cnt < n := c8
                        refine g_goto (tgt := 148) hc dX13_meetings_137 (by decide) ?_
                        refine g_iinc_7 hc dX13_meetings_148 rfl ?_
                        refine g_goto (tgt := 66) hc dX13_meetings_151 (by decide) ?_
                        refine G_sub (L' := [some (gvr w 703), some (gvI j), some (gvI k), some (gvI m), some (gvI (a + n)), some (gvI best), some (gvI cnt), some (gvI (i + 1)), none, none]) (show g_le _ _ from ⟨rfl, ⟨rfl, ⟨rfl, ⟨rfl, ⟨rfl, ⟨rfl, ⟨rfl, ⟨rfl, trivial⟩⟩⟩⟩⟩⟩⟩⟩) ?_
                        refine ih_66 _ _ _ _ _ _ ?_ ?_ ?_ ?_ ?_ ?_ ?_ ?_ ?_
                        · omega
                        · rw [g_sum_i h3.1, h4]; omega
                        · rw [g_cmx_i h3.1, ← h6, ← hcd, if_neg hgt]; exact h5
                        · rw [g_cmx_i h3.1, ← h6, ← hcd, if_neg hgt]; exact h6
                        · omega
                        · exact ⟨_, hR⟩
                        · exact hmMm
                        · exact hfMm
                        · omega
                    · skip
                      refine g_iload hc dX13_meetings_94 rfl ?_
                      refine g_aldn hc dX13_meetings_96 rfl ?_
                      refine g_iload_n hc dX13_meetings_97 rfl ?_
                      refine g_iload hc dX13_meetings_98 rfl ?_
                      refine g_iload_n hc dX13_meetings_100 rfl ?_
                      refine g_iload hc dX13_meetings_101 rfl ?_
                      refine g_V4 hc (c_X13_crossOf w hR hmMm (by omega) (by omega) (by omega) (by omega)) my_X13_crossOf mv_X13_crossOf ca_703 rfl rfl lm_X13_450 rfl (by decide) (Nat.le_of_ble_eq_true rfl) hm dX13_meetings_103 (fun r4 n4 I4 J4 R4 hp4 => ?_)
                      obtain ⟨rfl, rfl, hK4, hX4, rfl, t4, hR⟩ := hp4
                      have hmI4 : q_rel I lb I4 := q_cg (fun k j hk => hK4 k j (fun z => hk (x_wa z))) hX4 hmMm
                      have hfI4 : ∀ (k : Nat) (j : Int), ¬ x_a k j → I4 k j = M k j := fun k j hk => (hK4 k j (fun z => hk (x_wa z))).trans (hfMm k j hk)
                      refine g_if_eq (tgt := 113) hc dX13_meetings_106 (by decide) (by unfold g_crs; exact g_ors32) (fun c9 => ?_) (fun c9 => ?_)
                      · skip
                        refine g_iconst hc dX13_meetings_113 ?_
                        refine g_iadd hc dX13_meetings_114 ?_
                        refine g_istore_8 hc dX13_meetings_115 rfl ?_
                        refine g_iinc_9 hc dX13_meetings_117 rfl ?_
                        refine g_goto (tgt := 83) hc dX13_meetings_120 (by decide) ?_
                        refine ih_83 _ _ _ _ ?_ ?_ ?_ ?_ ?_ ?_ ?_
                        · omega
                        · rw [g_sum_i k3.1, k4]; rw [if_pos (by assumption)]
                        · omega
                        · exact ⟨_, hR⟩
                        · exact hmI4
                        · exact hfI4
                        · omega
                      · skip
                        refine g_iconst hc dX13_meetings_109 ?_
                        refine g_goto (tgt := 114) hc dX13_meetings_110 (by decide) ?_
                        refine g_iadd hc dX13_meetings_114 ?_
                        refine g_istore_8 hc dX13_meetings_115 rfl ?_
                        refine g_iinc_9 hc dX13_meetings_117 rfl ?_
                        refine g_goto (tgt := 83) hc dX13_meetings_120 (by decide) ?_
                        refine ih_83 _ _ _ _ ?_ ?_ ?_ ?_ ?_ ?_ ?_
                        · omega
                        · rw [g_sum_i k3.1, k4]; rw [if_neg (by assumption)]
                        · omega
                        · exact ⟨_, hR⟩
                        · exact hmI4
                        · exact hfI4
                        · omega
                refine lp_83 13 _ _ _ _ ?_ ?_ ?_ ?_ ?_ ?_ (?_)
                · omega
                · rfl
                · omega
                · exact ⟨_, hR⟩
                · exact hmMm
                · exact hfMm
                · omega
          refine lp_66 13 _ _ _ _ _ _ ?_ ?_ ?_ ?_ ?_ ?_ ?_ ?_ (?_)
          · omega
          · rfl
          · rfl
          · rfl
          · omega
          · exact ⟨_, hR⟩
          · exact hmI3
          · exact hfI3
          · omega
        · skip
          refine g_iconst hc dX13_meetings_52 ?_
          refine g_iret hc hm dX13_meetings_53 ?_
          exact x_end (by rw [if_neg (by omega)]) hfI3 hmI3.g hR
set_option maxHeartbeats 4000000 in
set_option maxRecDepth 100000 in
/-- X13_town -/
theorem c_X13_town (w : g_W) {I : g_I} {J : g_J} {R : g_R} {lb tx : Nat} (hR : g_rf w R lb tx) {M : g_I} (hmM : q_rel I lb M) {n sd s : Int} (g1 : g32 n) (g2 : g32 s) : g_Met w g_n M J R yX13_town cX13_town 7 (some .int) 38 0 0 [(gvr w 703), (gvI n), (gvL sd), (gvI s)] (fun rr nn II JJ RR => x_rel w (some (gvI (if (0 ≤ s ∧ s < I lb 0) ∧ 1 ≤ n ∧ n ≤ 99 then (g_hmn I lb s sd n.toNat).1 else -1))) x_a M JJ lb rr nn II JJ RR ∧ ∀ k : Nat, k ≠ 703 → JJ k = J k) := by
  refine g_intro (own := RX13) [some (gvr w 703), some (gvI n), some (gvL sd), none, some (gvI s), none, none] (by decide +kernel) rfl (by decide) (Nat.le_of_ble_eq_true rfl) rfl (fun i v hv => g_args 2 i v hv rfl) (fun x hc hm => ?_)
  have hfM : ∀ (k : Nat) (j : Int), ¬ x_a k j → M k j = M k j := fun _ _ _ => rfl
  have hI := hmM.gi
  have hTb := q_b1 hmM
  have hLv := hmM.lv
  have hC := hmM.cin
  have hL := hC.1
  obtain ⟨hn0, hn1, hLs, hLf⟩ := id hL
  obtain ⟨-, hC1, hC2, hC3, hC4, hC5, hC6, hC7⟩ := id hC
  have hN0 := q_n0 hmM
  refine g_aldn hc dX13_town_0 rfl ?_
  refine g_iconst hc dX13_town_1 ?_
  refine g_putI' hc lk_X13_102 ca_703 0 rfl dX13_town_2 (fun I3 hI3 => ?_)
  have hmI3 : q_rel I lb I3 := by rw [hI3]; exact q_up hmM (by unfold x_a; omega) (by first | exact hI _ _ | exact hmM.g _ _ | exact g_b32 | exact g_and32 | exact g_or32 | exact g_shl32 | assumption | exact ⟨by omega, by omega⟩)
  have hfI3 : ∀ (k : Nat) (j : Int), ¬ x_a k j → I3 k j = M k j := fun k j hk => by rw [hI3]; exact (g_up_n (by unfold x_a at hk; omega)).trans (hfM k j hk)
  refine g_aldn hc dX13_town_5 rfl ?_
  refine g_iload hc dX13_town_6 rfl ?_
  refine g_V1r hc (c_X13_isSelf w hR hmI3 (by first | exact hI _ _ | exact hmM.g _ _ | exact g_b32 | exact g_and32 | exact g_or32 | exact g_shl32 | assumption | exact ⟨by omega, by omega⟩)) my_X13_isSelf mv_X13_isSelf ca_703 rfl rfl lm_X13_313 rfl (by decide) (Nat.le_of_ble_eq_true rfl) hm dX13_town_8 ?_
  refine g_ifb_eq (tgt := 26) hc dX13_town_11 (by decide)  (fun c1 => ?_) (fun c1 => ?_)
  · skip
    refine g_iconst hc dX13_town_26 ?_
    refine g_iret hc hm dX13_town_27 ?_
    exact ⟨x_end (by rw [if_neg (by omega)]) hfI3 hmI3.g hR, fun _ _ => rfl⟩
  · skip
    refine g_iload_n hc dX13_town_14 rfl ?_
    refine g_i2l hc dX13_town_15 (by first | exact hI _ _ | exact hxI2 _ _ | exact hIa _ _ | exact hIb _ _ | exact g_b32 | exact g_and32 | assumption | exact ⟨by omega, by omega⟩) ?_
    refine g_lconst hc dX13_town_16 1 (by decide +kernel) ?_
    refine g_ldc2 (k := 99) hc dX13_town_17 _ lc_X13_438 (by decide +kernel) ?_
    refine g_S3r hc (c_X13_isIn w (by first | exact hI _ _ | exact hmM.g _ _ | exact g_b32 | exact g_and32 | exact g_or32 | exact g_shl32 | assumption | exact ⟨by omega, by omega⟩) (by first | exact hI _ _ | exact hmM.g _ _ | exact g_b32 | exact g_and32 | exact g_or32 | exact g_shl32 | assumption | exact ⟨by omega, by omega⟩) (by first | exact hI _ _ | exact hmM.g _ _ | exact g_b32 | exact g_and32 | exact g_or32 | exact g_shl32 | assumption | exact ⟨by omega, by omega⟩)) my_X13_isIn ms_X13_isIn lm_X13_231 rfl (by decide) (Nat.le_of_ble_eq_true rfl) hm dX13_town_20 ?_
    refine g_ifb_ne (tgt := 28) hc dX13_town_23 (by decide)  (fun c2 => ?_) (fun c2 => ?_)
    · skip
      have hTs := q_ts hmM (by omega)
      refine g_aldn hc dX13_town_28 rfl ?_
      refine g_lload_n hc dX13_town_29 rfl ?_
      obtain ⟨J5, hJ5⟩ : ∃ J5, J5 = g_upJ J 703 sd := ⟨_, rfl⟩
      refine g_putLe (J2 := J5) hc lk_X13_454 ca_703 g_kd13 hJ5.symm dX13_town_30 ?_
      have hJ1 : J5 703 = sd := by rw [hJ5]; exact if_pos rfl
      have hJ2 : ∀ k : Nat, k ≠ 703 → J5 k = J k := fun k hk => by rw [hJ5]; exact if_neg hk
      refine g_iconst hc dX13_town_33 ?_
      refine g_istore_5 hc dX13_town_34 rfl ?_
      refine g_iconst hc dX13_town_36 ?_
      refine g_istore_6 hc dX13_town_37 rfl ?_
      have lp_39 : ∀ (fu : Nat) (a i : Int) (Jm : g_J) (Mm : g_I) (Rm : g_R), 0 ≤ i ∧ i ≤ n → a = (g_hmn I lb s sd i.toNat).1 → Jm 703 = (g_hmn I lb s sd i.toNat).2 → (∀ k : Nat, k ≠ 703 → Jm k = J k) → (0 ≤ a ∧ a ≤ i) → (∃ tm, g_rf w Rm lb tm) → q_rel I lb Mm → (∀ (k : Nat) (j : Int), ¬ x_a k j → Mm k j = M k j) → n - i < (fu : Int) → G w x (fun rr nn II JJ RR => x_rel w (some (gvI (if (0 ≤ s ∧ s < I lb 0) ∧ 1 ≤ n ∧ n ≤ 99 then (g_hmn I lb s sd n.toNat).1 else -1))) x_a M JJ lb rr nn II JJ RR ∧ ∀ k : Nat, k ≠ 703 → JJ k = J k) 0 0 g_n Mm Jm Rm 39 [some (gvr w 703), some (gvI n), some (gvL sd), none, some (gvI s), some (gvI a), some (gvI i)] [] := by
        intro fu
        induction fu with
        | zero => intro a i Jm Mm Rm h3 h4 h5 hKm h7 hR hmMm hfMm hfu; exfalso; omega
        | succ fu ih =>
          intro a i Jm Mm Rm h3 h4 h5 hKm h7 hR hmMm hfMm hfu
          obtain ⟨tm, hR⟩ := hR
          have ih_39 := ih
          refine g_iload hc dX13_town_39 rfl ?_
          refine g_iload_n hc dX13_town_41 rfl ?_
          refine g_icmp_ge (tgt := 70) hc dX13_town_42 (by decide) (by first | exact hI _ _ | exact hxI2 _ _ | exact hIa _ _ | exact hIb _ _ | exact g_b32 | exact g_and32 | assumption | exact ⟨by omega, by omega⟩) (by first | exact hI _ _ | exact hxI2 _ _ | exact hIa _ _ | exact hIb _ _ | exact g_b32 | exact g_and32 | assumption | exact ⟨by omega, by omega⟩) (fun c3 => ?_) (fun c3 => ?_)
          · skip
            refine g_iload hc dX13_town_70 rfl ?_
            refine g_iret hc hm dX13_town_72 ?_
            exact ⟨x_end (by rw [if_pos (by omega), h4, show n = i by omega]) hfMm hmMm.g hR, hKm⟩
          · skip
            refine g_iload hc dX13_town_45 rfl ?_
            refine g_aldn hc dX13_town_47 rfl ?_
            refine g_V0 hc (c_X13_goBirth w hR hmMm (by omega)) my_X13_goBirth mv_X13_goBirth ca_703 rfl rfl lm_X13_469 rfl (by decide) (Nat.le_of_ble_eq_true rfl) hm dX13_town_48 (fun r6 n6 I6 J6 R6 hp6 => ?_)
            obtain ⟨⟨rfl, rfl, hK6, hX6, -, t6, hR⟩, hJ6, hQ6⟩ := hp6
            have hmI6 : q_rel I lb I6 := q_cg (fun k j hk => hK6 k j (fun z => hk (x_ta z))) hX6 hmMm
            have hfI6 : ∀ (k : Nat) (j : Int), ¬ x_a k j → I6 k j = M k j := fun k j hk => (hK6 k j (fun z => hk (x_ta z))).trans (hfMm k j hk)
            refine g_iload hc dX13_town_51 rfl ?_
            refine g_icmp_ne (tgt := 60) hc dX13_town_53 (by decide) (by have hds := g_dsr_in hL 6 (if I lb 1 = 0 then 0 else 100, Jm 703) (by dsimp only; split <;> omega); unfold g_dsf; exact ⟨by omega, by omega⟩) g2 (fun c4 => ?_) (fun c4 => ?_)
            · skip
              have hyes := c4
              refine g_iconst hc dX13_town_60 ?_
              refine g_iadd hc dX13_town_61 ?_
              refine g_istore_5 hc dX13_town_62 rfl ?_
              refine g_iinc_6 hc dX13_town_64 rfl ?_
              refine g_goto (tgt := 39) hc dX13_town_67 (by decide) ?_
              refine ih_39 _ (i + 1) _ _ _ ?_ ?_ ?_ ?_ ?_ ?_ ?_ ?_ ?_
              · omega
              · rw [g_hmn_i h3.1, ← h5, h4]; dsimp only; rw [if_neg hyes]
              · rw [g_hmn_i h3.1, ← h5]; exact hJ6
              · exact fun k hk => (hQ6 k hk).trans (hKm k hk)
              · omega
              · exact ⟨_, hR⟩
              · exact hmI6
              · exact hfI6
              · omega
            · skip
              have hyes := c4
              refine g_iconst hc dX13_town_56 ?_
              refine g_goto (tgt := 61) hc dX13_town_57 (by decide) ?_
              refine g_iadd hc dX13_town_61 ?_
              refine g_istore_5 hc dX13_town_62 rfl ?_
              refine g_iinc_6 hc dX13_town_64 rfl ?_
              refine g_goto (tgt := 39) hc dX13_town_67 (by decide) ?_
              refine ih_39 _ (i + 1) _ _ _ ?_ ?_ ?_ ?_ ?_ ?_ ?_ ?_ ?_
              · omega
              · rw [g_hmn_i h3.1, ← h5, h4]; dsimp only; rw [if_pos hyes]
              · rw [g_hmn_i h3.1, ← h5]; exact hJ6
              · exact fun k hk => (hQ6 k hk).trans (hKm k hk)
              · omega
              · exact ⟨_, hR⟩
              · exact hmI6
              · exact hfI6
              · omega
      refine lp_39 100 0 0 _ _ _ ?_ ?_ ?_ ?_ ?_ ?_ ?_ ?_ (?_)
      · omega
      · rfl
      · exact hJ1
      · exact hJ2
      · omega
      · exact ⟨_, hR⟩
      · exact hmI3
      · exact hfI3
      · omega
    · skip
      refine g_iconst hc dX13_town_26 ?_
      refine g_iret hc hm dX13_town_27 ?_
      exact ⟨x_end (by rw [if_neg (by omega)]) hfI3 hmI3.g hR, fun _ _ => rfl⟩
