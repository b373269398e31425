theorem g_kd13 : ∀ i, i ≠ 42 → ¬ (g_kd 13)[i]? = some 1 := by
  intro i hi h
  have hl : i < 46 := (List.getElem?_eq_some_iff.mp h).1
  have z : ∀ i : Fin 46, i.val ≠ 42 → ¬ (g_kd 13)[i.val]? = some 1 := by decide +kernel
  exact z ⟨i, hl⟩ hi h
set_option maxHeartbeats 4000000 in
set_option maxRecDepth 100000 in
/-- X13_draw -/
theorem c_X13_draw (w : g_W) {I : g_I} {J : g_J} {R : g_R} {lb tx : Nat} (hR : g_rf w R lb tx) {M : g_I} (hmM : q_rel I lb M) {m : Int} (h1 : 0 < m ∧ m ≤ 1000) : g_Met w g_n M J R yX13_draw cX13_draw 2 (some .int) 0 0 0 [(gvr w 703), (gvI m)] (fun rr nn II JJ RR => x_rel w (some (gvI (g_drw (J 703) m))) x_n M JJ lb rr nn II JJ RR ∧ JJ 703 = g_dnx (J 703) ∧ (∀ k : Nat, k ≠ 703 → JJ k = J k)) := by
  refine g_intro (own := RX13) [some (gvr w 703), some (gvI m)] (by decide +kernel) rfl (by decide) (Nat.le_of_ble_eq_true rfl) rfl (fun i v hv => g_args 0 i v hv rfl) (fun x hc hm => ?_)
  have hfM : ∀ (k : Nat) (j : Int), ¬ x_n k j → M k j = M k j := fun _ _ _ => rfl
  have hI := hmM.gi
  have hTb := q_b1 hmM
  have hLv := hmM.lv
  have hC := hmM.cin
  have hL := hC.1
  obtain ⟨hn0, hn1, hLs, hLf⟩ := id hL
  obtain ⟨-, hC1, hC2, hC3, hC4, hC5, hC6, hC7⟩ := id hC
  refine g_aldn hc dX13_draw_0 rfl ?_
  refine g_aldn hc dX13_draw_1 rfl ?_
  refine g_getL hc lk_X13_454 ca_703 dX13_draw_2 ?_
  refine g_ldc2 (k := 6364136223846793005) hc dX13_draw_5 _ lc_X13_458 (by decide +kernel) ?_
  refine g_lmul hc dX13_draw_8 ?_
  refine g_ldc2 (k := 1442695040888963407) hc dX13_draw_9 _ lc_X13_460 (by decide +kernel) ?_
  refine g_ladd hc dX13_draw_12 ?_
  obtain ⟨J4, hJ4⟩ : ∃ J4, J4 = g_upJ J 703 (((J 703) * 6364136223846793005) + 1442695040888963407) := ⟨_, rfl⟩
  refine g_putLe (J2 := J4) hc lk_X13_454 ca_703 g_kd13 hJ4.symm dX13_draw_13 ?_
  have hJ1 : J4 703 = g_dnx (J 703) := by rw [hJ4]; exact if_pos rfl
  have hJ2 : ∀ k : Nat, k ≠ 703 → J4 k = J k := fun k hk => by rw [hJ4]; exact if_neg hk
  refine g_aldn hc dX13_draw_16 rfl ?_
  refine g_getL hc lk_X13_454 ca_703 dX13_draw_17 ?_
  refine g_bipush hc dX13_draw_20 (by decide +kernel) ?_
  refine g_lushr' hc dX13_draw_22 ?_
  refine g_iload_n hc dX13_draw_23 rfl ?_
  refine g_i2l hc dX13_draw_24 (by first | exact hI _ _ | exact hxI2 _ _ | exact hIa _ _ | exact hIb _ _ | exact g_b32 | exact g_and32 | assumption | exact ⟨by omega, by omega⟩) ?_
  refine g_lrem hc dX13_draw_25 (g64_of _) (by exact ⟨by omega, by omega⟩) (by omega) ?_
  refine g_l2i hc dX13_draw_26 ?_
  refine g_iret hc hm dX13_draw_27 ?_
  exact ⟨x_end (by rw [hJ1]; exact (q_drw h1.1).1.symm) hfM hmM.g hR, hJ1, hJ2⟩
set_option maxHeartbeats 4000000 in
set_option maxRecDepth 100000 in
/-- X13_drawnAt -/
theorem c_X13_drawnAt (w : g_W) {I : g_I} {J : g_J} {R : g_R} {lb tx : Nat} (hR : g_rf w R lb tx) {M : g_I} (hmM : q_rel I lb M) {f e : Int} (h1 : 0 ≤ f ∧ f < I lb 1) (h2 : e = 0 ∨ e = 1) : g_Met w g_n M J R yX13_drawnAt cX13_drawnAt 6 (some .int) 2 0 0 [(gvr w 703), (gvI f), (gvI e)] (fun rr nn II JJ RR => x_rel w (some (gvI (g_bra I lb f (I 550 (4 + f)) e (I (lb + 43) f).toNat 0 (g_drw (J 703) (q_tot I lb f e))))) x_n M JJ lb rr nn II JJ RR ∧ JJ 703 = g_dnx (J 703) ∧ (∀ k : Nat, k ≠ 703 → JJ k = J k) ∧ 0 ≤ g_bra I lb f (I 550 (4 + f)) e (I (lb + 43) f).toNat 0 (g_drw (J 703) (q_tot I lb f e)) ∧ g_bra I lb f (I 550 (4 + f)) e (I (lb + 43) f).toNat 0 (g_drw (J 703) (q_tot I lb f e)) < (I (lb + 43) f)) := by
  refine g_intro (own := RX13) [some (gvr w 703), some (gvI f), some (gvI e), none, none, none] (by decide +kernel) rfl (by decide) (Nat.le_of_ble_eq_true rfl) rfl (fun i v hv => g_args 3 i v hv rfl) (fun x hc hm => ?_)
  have hfM : ∀ (k : Nat) (j : Int), ¬ x_n k j → M k j = M k j := fun _ _ _ => rfl
  have hI := hmM.gi
  have hTb := q_b1 hmM
  have hLv := hmM.lv
  have hC := hmM.cin
  have hL := hC.1
  obtain ⟨hn0, hn1, hLs, hLf⟩ := id hL
  obtain ⟨-, hC1, hC2, hC3, hC4, hC5, hC6, hC7⟩ := id hC
  have hTs := q_ts hmM (by omega)
  obtain ⟨hk2, hk1, hy, hit⟩ := hLf f h1.1 h1.2
  have hts := q_tot_sum hmM (e := e) h1
  have hbc9 := q_bc1 (hC7 f h1.1 h1.2)
  have hw9 := g_wt_in (m := I 550 (4 + f)) (fun r a c => (hit r a c).1) (I (lb + 43) f).toNat (by omega)
  have hw8 := q_wt1 hmM h1
  have hdr := q_drw (x := J 703) (m := q_tot I lb f e) (by omega)
  refine g_aldn hc dX13_drawnAt_0 rfl ?_
  refine g_iload_n hc dX13_drawnAt_1 rfl ?_
  refine g_if_eq (tgt := 13) hc dX13_drawnAt_2 (by decide) (by rcases h2 with z | z <;> rw [z] <;> exact ⟨by decide, by decide⟩) (fun c1 => ?_) (fun c1 => ?_)
  · skip
    have he0 : e = 0 := c1
    have htt : q_tot I lb f e = g_bc (I 550 (4 + f)) := if_pos he0
    refine g_aldn hc dX13_drawnAt_13 rfl ?_
    refine g_iload_n hc dX13_drawnAt_14 rfl ?_
    refine g_V1r hc (c_X13_openMany w hR hmM (by omega)) my_X13_openMany mv_X13_openMany ca_703 rfl rfl lm_X13_329 rfl (by decide) (Nat.le_of_ble_eq_true rfl) hm dX13_drawnAt_15 ?_
    refine g_V1 hc (c_X13_draw w hR hmM (by omega)) my_X13_draw mv_X13_draw ca_703 rfl rfl lm_X13_462 rfl (by decide) (Nat.le_of_ble_eq_true rfl) hm dX13_drawnAt_18 (fun r3 n3 I3 J3 R3 hp3 => ?_)
    obtain ⟨⟨rfl, rfl, hK3, hX3, -, t3, hR⟩, hJ3, hQ3⟩ := hp3
    have hmI3 : q_rel I lb I3 := q_cg (fun k j hk => hK3 k j (fun z => hk (x_na z))) hX3 hmM
    have hfI3 : ∀ (k : Nat) (j : Int), ¬ x_n k j → I3 k j = M k j := fun k j hk => (hK3 k j hk).trans (hfM k j hk)
    rw [← htt]
    refine g_istore_3 hc dX13_drawnAt_21 rfl ?_
    refine g_iconst hc dX13_drawnAt_22 ?_
    refine g_istore_4 hc dX13_drawnAt_23 rfl ?_
    have lp_25 : ∀ (fu : Nat) (v i : Int), 0 ≤ i ∧ i ≤ (I (lb + 43) f) → g_bra I lb f (I 550 (4 + f)) e (I (lb + 43) f).toNat 0 (g_drw (J 703) (q_tot I lb f e)) = g_bra I lb f (I 550 (4 + f)) e ((I (lb + 43) f) - i).toNat i v → (0 ≤ v ∧ v ≤ 36 ∧ v + g_sum (q_own I lb f e) i.toNat < (q_tot I lb f e)) → (I (lb + 43) f) - i < (fu : Int) → G w x (fun rr nn II JJ RR => x_rel w (some (gvI (g_bra I lb f (I 550 (4 + f)) e (I (lb + 43) f).toNat 0 (g_drw (J 703) (q_tot I lb f e))))) x_n M JJ lb rr nn II JJ RR ∧ JJ 703 = g_dnx (J 703) ∧ (∀ k : Nat, k ≠ 703 → JJ k = J k) ∧ 0 ≤ g_bra I lb f (I 550 (4 + f)) e (I (lb + 43) f).toNat 0 (g_drw (J 703) (q_tot I lb f e)) ∧ g_bra I lb f (I 550 (4 + f)) e (I (lb + 43) f).toNat 0 (g_drw (J 703) (q_tot I lb f e)) < (I (lb + 43) f)) 0 0 g_n I3 J3 R3 25 [some (gvr w 703), some (gvI f), some (gvI e), some (gvI v), some (gvI i), none] [] := by
      intro fu
      induction fu with
      | zero => intro v i h3 h4 h5 hfu; exfalso; omega
      | succ fu ih =>
        intro v i h3 h4 h5 hfu
        have hib : i < (I (lb + 43) f) := by
          by_cases z : i = (I (lb + 43) f)
          · rw [z, hts.1] at h5; omega
          · omega
        have ih_25 := ih
        refine g_aldn hc dX13_drawnAt_25 rfl ?_
        refine g_getRk hc lk_X13_56 ca_703 (rc_703_25 hR) dX13_drawnAt_26 ?_
        refine g_iconst hc dX13_drawnAt_29 ?_
        refine g_iload_n hc dX13_drawnAt_30 rfl ?_
        refine g_imul hc dX13_drawnAt_31 ?_
        refine g_iload hc dX13_drawnAt_32 rfl ?_
        refine g_iadd hc dX13_drawnAt_34 ?_
        refine g_zalde hc ca_713 (by decide) (by omega) (by omega) (show I3 713 ((4 * f) + i) = g_b (g_bit (I 550 (4 + f)) i) from hmI3.opn (by omega) (by omega)) dX13_drawnAt_35 ?_
        refine g_ifb_ne (tgt := 43) hc dX13_drawnAt_36 (by decide)  (fun c2 => ?_) (fun c2 => ?_)
        · skip
          have hop := c2
          obtain ⟨hb0, -, -, -, -, -⟩ := hit i h3.1 (by omega)
          refine g_iload_n hc dX13_drawnAt_43 rfl ?_
          refine g_if_eq (tgt := 66) hc dX13_drawnAt_44 (by decide) (by rcases h2 with z | z <;> rw [z] <;> exact ⟨by decide, by decide⟩) (fun c3 => ?_) (fun c3 => ?_)
          · skip
            refine g_iconst hc dX13_drawnAt_66 ?_
            refine g_istore_5 hc dX13_drawnAt_67 rfl ?_
            refine g_iload_n hc dX13_drawnAt_69 rfl ?_
            refine g_iload hc dX13_drawnAt_70 rfl ?_
            refine g_icmp_ge (tgt := 78) hc dX13_drawnAt_72 (by decide) (by first | exact hI _ _ | exact hxI2 _ _ | exact hIa _ _ | exact hIb _ _ | exact g_b32 | exact g_and32 | assumption | exact ⟨by omega, by omega⟩) (by first | exact hI _ _ | exact hxI2 _ _ | exact hIa _ _ | exact hIb _ _ | exact g_b32 | exact g_and32 | assumption | exact ⟨by omega, by omega⟩) (fun c4 => ?_) (fun c4 => ?_)
            · skip
              refine g_iload_n hc dX13_drawnAt_78 rfl ?_
              refine g_iload hc dX13_drawnAt_79 rfl ?_
              refine g_isub hc dX13_drawnAt_81 ?_
              refine g_istore_3 hc dX13_drawnAt_82 rfl ?_
              refine g_iinc_4 hc dX13_drawnAt_83 rfl ?_
              refine g_goto (tgt := 25) hc dX13_drawnAt_86 (by decide) ?_
              refine G_sub (L' := [some (gvr w 703), some (gvI f), some (gvI e), some (gvI (v - 1)), some (gvI (i + 1)), none]) (show g_le _ _ from ⟨rfl, ⟨rfl, ⟨rfl, ⟨rfl, ⟨rfl, trivial⟩⟩⟩⟩⟩) ?_
              refine ih_25 _ _ ?_ ?_ ?_ ?_
              · omega
              · rw [h4, show ((I (lb + 43) f) - i).toNat = ((I (lb + 43) f) - (i + 1)).toNat + 1 by omega, g_bra]; rw [if_pos hop, if_pos he0, if_neg (by omega)]
              · have hoi : q_own I lb f e i = 1 := by unfold q_own; rw [if_pos hop, if_pos he0]
                rw [g_sum_i h3.1, hoi]
                omega
              · omega
            · skip
              refine g_iload hc dX13_drawnAt_75 rfl ?_
              refine g_iret hc hm dX13_drawnAt_77 ?_
              first | (exfalso; omega) | (exfalso; omega) | (have hE : g_bra I lb f (I 550 (4 + f)) e (I (lb + 43) f).toNat 0 (g_drw (J 703) (q_tot I lb f e)) = i := (by rw [h4, show (I (lb + 43) f - i).toNat = (I (lb + 43) f - (i + 1)).toNat + 1 by omega, g_bra, if_pos hop, if_pos he0, if_pos (by omega)]); exact ⟨x_end hE.symm hfI3 hmI3.g hR, hJ3, hQ3, by omega, by omega⟩)
          · exact absurd he0 c3
        · skip
          have hno := c2
          refine g_iconst hc dX13_drawnAt_39 ?_
          refine g_goto (tgt := 67) hc dX13_drawnAt_40 (by decide) ?_
          refine g_istore_5 hc dX13_drawnAt_67 rfl ?_
          refine g_iload_n hc dX13_drawnAt_69 rfl ?_
          refine g_iload hc dX13_drawnAt_70 rfl ?_
          refine g_icmp_ge (tgt := 78) hc dX13_drawnAt_72 (by decide) (by first | exact hI _ _ | exact hxI2 _ _ | exact hIa _ _ | exact hIb _ _ | exact g_b32 | exact g_and32 | assumption | exact ⟨by omega, by omega⟩) (by first | exact hI _ _ | exact hxI2 _ _ | exact hIa _ _ | exact hIb _ _ | exact g_b32 | exact g_and32 | assumption | exact ⟨by omega, by omega⟩) (fun c5 => ?_) (fun c5 => ?_)
          · skip
            refine g_iload_n hc dX13_drawnAt_78 rfl ?_
            refine g_iload hc dX13_drawnAt_79 rfl ?_
            refine g_isub hc dX13_drawnAt_81 ?_
            refine g_istore_3 hc dX13_drawnAt_82 rfl ?_
            refine g_iinc_4 hc dX13_drawnAt_83 rfl ?_
            refine g_goto (tgt := 25) hc dX13_drawnAt_86 (by decide) ?_
            refine G_sub (L' := [some (gvr w 703), some (gvI f), some (gvI e), some (gvI (v - 0)), some (gvI (i + 1)), none]) (show g_le _ _ from ⟨rfl, ⟨rfl, ⟨rfl, ⟨rfl, ⟨rfl, trivial⟩⟩⟩⟩⟩) ?_
            refine ih_25 _ _ ?_ ?_ ?_ ?_
            · omega
            · rw [h4, show ((I (lb + 43) f) - i).toNat = ((I (lb + 43) f) - (i + 1)).toNat + 1 by omega, g_bra]; rw [if_neg hno, Int.sub_zero]
            · have hoi : q_own I lb f e i = 0 := by unfold q_own; rw [if_neg hno]
              rw [g_sum_i h3.1, hoi]
              omega
            · omega
          · skip
            refine g_iload hc dX13_drawnAt_75 rfl ?_
            refine g_iret hc hm dX13_drawnAt_77 ?_
            first | (exfalso; omega) | (exfalso; omega) | (have hE : g_bra I lb f (I 550 (4 + f)) e (I (lb + 43) f).toNat 0 (g_drw (J 703) (q_tot I lb f e)) = i := (by rw [h4, show (I (lb + 43) f - i).toNat = (I (lb + 43) f - (i + 1)).toNat + 1 by omega, g_bra, if_pos hop, if_pos he0, if_pos (by omega)]); exact ⟨x_end hE.symm hfI3 hmI3.g hR, hJ3, hQ3, by omega, by omega⟩)
    refine lp_25 5 _ _ ?_ ?_ ?_ (?_)
    · omega
    · rw [Int.sub_zero]
    · show _ ∧ _ ∧ _ + 0 < _; omega
    · omega
  · skip
    have he0 : ¬ e = 0 := c1
    have htt : q_tot I lb f e = g_wt I lb f (I 550 (4 + f)) (I (lb + 43) f).toNat := if_neg he0
    refine g_aldn hc dX13_drawnAt_5 rfl ?_
    refine g_iload_n hc dX13_drawnAt_6 rfl ?_
    refine g_V1r hc (c_X13_weights w hR hmM (by omega)) my_X13_weights mv_X13_weights ca_703 rfl rfl lm_X13_358 rfl (by decide) (Nat.le_of_ble_eq_true rfl) hm dX13_drawnAt_7 ?_
    refine g_goto (tgt := 18) hc dX13_drawnAt_10 (by decide) ?_
    refine g_V1 hc (c_X13_draw w hR hmM (by omega)) my_X13_draw mv_X13_draw ca_703 rfl rfl lm_X13_462 rfl (by decide) (Nat.le_of_ble_eq_true rfl) hm dX13_drawnAt_18 (fun r4 n4 I4 J4 R4 hp4 => ?_)
    obtain ⟨⟨rfl, rfl, hK4, hX4, -, t4, hR⟩, hJ4, hQ4⟩ := hp4
    have hmI4 : q_rel I lb I4 := q_cg (fun k j hk => hK4 k j (fun z => hk (x_na z))) hX4 hmM
    have hfI4 : ∀ (k : Nat) (j : Int), ¬ x_n k j → I4 k j = M k j := fun k j hk => (hK4 k j hk).trans (hfM k j hk)
    rw [← htt]
    refine g_istore_3 hc dX13_drawnAt_21 rfl ?_
    refine g_iconst hc dX13_drawnAt_22 ?_
    refine g_istore_4 hc dX13_drawnAt_23 rfl ?_
    have lp_25 : ∀ (fu : Nat) (v i : Int), 0 ≤ i ∧ i ≤ (I (lb + 43) f) → g_bra I lb f (I 550 (4 + f)) e (I (lb + 43) f).toNat 0 (g_drw (J 703) (q_tot I lb f e)) = g_bra I lb f (I 550 (4 + f)) e ((I (lb + 43) f) - i).toNat i v → (0 ≤ v ∧ v ≤ 36 ∧ v + g_sum (q_own I lb f e) i.toNat < (q_tot I lb f e)) → (I (lb + 43) f) - i < (fu : Int) → G w x (fun rr nn II JJ RR => x_rel w (some (gvI (g_bra I lb f (I 550 (4 + f)) e (I (lb + 43) f).toNat 0 (g_drw (J 703) (q_tot I lb f e))))) x_n M JJ lb rr nn II JJ RR ∧ JJ 703 = g_dnx (J 703) ∧ (∀ k : Nat, k ≠ 703 → JJ k = J k) ∧ 0 ≤ g_bra I lb f (I 550 (4 + f)) e (I (lb + 43) f).toNat 0 (g_drw (J 703) (q_tot I lb f e)) ∧ g_bra I lb f (I 550 (4 + f)) e (I (lb + 43) f).toNat 0 (g_drw (J 703) (q_tot I lb f e)) < (I (lb + 43) f)) 0 0 g_n I4 J4 R4 25 [some (gvr w 703), some (gvI f), some (gvI e), some (gvI v), some (gvI i), none] [] := by
      intro fu
      induction fu with
      | zero => intro v i h3 h4 h5 hfu; exfalso; omega
      | succ fu ih =>
        intro v i h3 h4 h5 hfu
        have hib : i < (I (lb + 43) f) := by
          by_cases z : i = (I (lb + 43) f)
          · rw [z, hts.1] at h5; omega
          · omega
        have ih_25 := ih
        refine g_aldn hc dX13_drawnAt_25 rfl ?_
        refine g_getRk hc lk_X13_56 ca_703 (rc_703_25 hR) dX13_drawnAt_26 ?_
        refine g_iconst hc dX13_drawnAt_29 ?_
        refine g_iload_n hc dX13_drawnAt_30 rfl ?_
        refine g_imul hc dX13_drawnAt_31 ?_
        refine g_iload hc dX13_drawnAt_32 rfl ?_
        refine g_iadd hc dX13_drawnAt_34 ?_
        refine g_zalde hc ca_713 (by decide) (by omega) (by omega) (show I4 713 ((4 * f) + i) = g_b (g_bit (I 550 (4 + f)) i) from hmI4.opn (by omega) (by omega)) dX13_drawnAt_35 ?_
        refine g_ifb_ne (tgt := 43) hc dX13_drawnAt_36 (by decide)  (fun c6 => ?_) (fun c6 => ?_)
        · skip
          have hop := c6
          obtain ⟨hb0, -, -, -, -, -⟩ := hit i h3.1 (by omega)
          refine g_iload_n hc dX13_drawnAt_43 rfl ?_
          refine g_if_eq (tgt := 66) hc dX13_drawnAt_44 (by decide) (by rcases h2 with z | z <;> rw [z] <;> exact ⟨by decide, by decide⟩) (fun c7 => ?_) (fun c7 => ?_)
          · exact absurd c7 he0
          · skip
            refine g_aldn hc dX13_drawnAt_47 rfl ?_
            refine g_getRk hc lk_X13_43 ca_703 (rc_703_20 hR) dX13_drawnAt_48 ?_
            refine g_aldn hc dX13_drawnAt_51 rfl ?_
            refine g_aldn hc dX13_drawnAt_52 rfl ?_
            refine g_getIe hc lk_X13_52 ca_703 24 rfl (show I4 703 24 = I 0 12 from hmI4.tab) dX13_drawnAt_53 ?_
            refine g_iload_n hc dX13_drawnAt_56 rfl ?_
            refine g_iload hc dX13_drawnAt_57 rfl ?_
            refine g_V3r hc (c_X13_branchAt w) my_X13_branchAt mv_X13_branchAt ca_703 rfl rfl lm_X13_262 rfl (by decide) (Nat.le_of_ble_eq_true rfl) hm dX13_drawnAt_59 ?_
            refine g_ialde hc ca_710 (by decide) (by omega) (by omega) (show I4 710 ((((I 0 12) * 18 + f) * 4 + i) * 6) = I (lb + 47 + (f * 4 + i).toNat) 0 from q_b0 hmI4 (by omega) (by omega)) dX13_drawnAt_62 ?_
            refine g_goto (tgt := 67) hc dX13_drawnAt_63 (by decide) ?_
            refine g_istore_5 hc dX13_drawnAt_67 rfl ?_
            refine g_iload_n hc dX13_drawnAt_69 rfl ?_
            refine g_iload hc dX13_drawnAt_70 rfl ?_
            refine g_icmp_ge (tgt := 78) hc dX13_drawnAt_72 (by decide) (by first | exact hI _ _ | exact hxI2 _ _ | exact hIa _ _ | exact hIb _ _ | exact g_b32 | exact g_and32 | assumption | exact ⟨by omega, by omega⟩) (by first | exact hI _ _ | exact hxI2 _ _ | exact hIa _ _ | exact hIb _ _ | exact g_b32 | exact g_and32 | assumption | exact ⟨by omega, by omega⟩) (fun c8 => ?_) (fun c8 => ?_)
            · skip
              refine g_iload_n hc dX13_drawnAt_78 rfl ?_
              refine g_iload hc dX13_drawnAt_79 rfl ?_
              refine g_isub hc dX13_drawnAt_81 ?_
              refine g_istore_3 hc dX13_drawnAt_82 rfl ?_
              refine g_iinc_4 hc dX13_drawnAt_83 rfl ?_
              refine g_goto (tgt := 25) hc dX13_drawnAt_86 (by decide) ?_
              refine G_sub (L' := [some (gvr w 703), some (gvI f), some (gvI e), some (gvI (v - (I (lb + 47 + (f * 4 + i).toNat) 0))), some (gvI (i + 1)), none]) (show g_le _ _ from ⟨rfl, ⟨rfl, ⟨rfl, ⟨rfl, ⟨rfl, trivial⟩⟩⟩⟩⟩) ?_
              refine ih_25 _ _ ?_ ?_ ?_ ?_
              · omega
              · rw [h4, show ((I (lb + 43) f) - i).toNat = ((I (lb + 43) f) - (i + 1)).toNat + 1 by omega, g_bra]; rw [if_pos hop, if_neg he0, if_neg (by omega)]
              · have hoi : q_own I lb f e i = I (lb + 47 + (f * 4 + i).toNat) 0 := by unfold q_own; rw [if_pos hop, if_neg he0]
                rw [g_sum_i h3.1, hoi]
                omega
              · omega
            · skip
              refine g_iload hc dX13_drawnAt_75 rfl ?_
              refine g_iret hc hm dX13_drawnAt_77 ?_
              first | (exfalso; omega) | (exfalso; omega) | (have hE : g_bra I lb f (I 550 (4 + f)) e (I (lb + 43) f).toNat 0 (g_drw (J 703) (q_tot I lb f e)) = i := (by rw [h4, show (I (lb + 43) f - i).toNat = (I (lb + 43) f - (i + 1)).toNat + 1 by omega, g_bra, if_pos hop, if_neg he0, if_pos (by omega)]); exact ⟨x_end hE.symm hfI4 hmI4.g hR, hJ4, hQ4, by omega, by omega⟩)
        · skip
          have hno := c6
          refine g_iconst hc dX13_drawnAt_39 ?_
          refine g_goto (tgt := 67) hc dX13_drawnAt_40 (by decide) ?_
          refine g_istore_5 hc dX13_drawnAt_67 rfl ?_
          refine g_iload_n hc dX13_drawnAt_69 rfl ?_
          refine g_iload hc dX13_drawnAt_70 rfl ?_
          refine g_icmp_ge (tgt := 78) hc dX13_drawnAt_72 (by decide) (by first | exact hI _ _ | exact hxI2 _ _ | exact hIa _ _ | exact hIb _ _ | exact g_b32 | exact g_and32 | assumption | exact ⟨by omega, by omega⟩) (by first | exact hI _ _ | exact hxI2 _ _ | exact hIa _ _ | exact hIb _ _ | exact g_b32 | exact g_and32 | assumption | exact ⟨by omega, by omega⟩) (fun c9 => ?_) (fun c9 => ?_)
          · skip
            refine g_iload_n hc dX13_drawnAt_78 rfl ?_
            refine g_iload hc dX13_drawnAt_79 rfl ?_
            refine g_isub hc dX13_drawnAt_81 ?_
            refine g_istore_3 hc dX13_drawnAt_82 rfl ?_
            refine g_iinc_4 hc dX13_drawnAt_83 rfl ?_
            refine g_goto (tgt := 25) hc dX13_drawnAt_86 (by decide) ?_
            refine G_sub (L' := [some (gvr w 703), some (gvI f), some (gvI e), some (gvI (v - 0)), some (gvI (i + 1)), none]) (show g_le _ _ from ⟨rfl, ⟨rfl, ⟨rfl, ⟨rfl, ⟨rfl, trivial⟩⟩⟩⟩⟩) ?_
            refine ih_25 _ _ ?_ ?_ ?_ ?_
            · omega
            · rw [h4, show ((I (lb + 43) f) - i).toNat = ((I (lb + 43) f) - (i + 1)).toNat + 1 by omega, g_bra]; rw [if_neg hno, Int.sub_zero]
            · have hoi : q_own I lb f e i = 0 := by unfold q_own; rw [if_neg hno]
              rw [g_sum_i h3.1, hoi]
              omega
            · omega
          · skip
            refine g_iload hc dX13_drawnAt_75 rfl ?_
            refine g_iret hc hm dX13_drawnAt_77 ?_
            first | (exfalso; omega) | (exfalso; omega) | (have hE : g_bra I lb f (I 550 (4 + f)) e (I (lb + 43) f).toNat 0 (g_drw (J 703) (q_tot I lb f e)) = i := (by rw [h4, show (I (lb + 43) f - i).toNat = (I (lb + 43) f - (i + 1)).toNat + 1 by omega, g_bra, if_pos hop, if_neg he0, if_pos (by omega)]); exact ⟨x_end hE.symm hfI4 hmI4.g hR, hJ4, hQ4, by omega, by omega⟩)
    refine lp_25 5 _ _ ?_ ?_ ?_ (?_)
    · omega
    · rw [Int.sub_zero]
    · show _ ∧ _ ∧ _ + 0 < _; omega
    · omega
