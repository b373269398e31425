/-- cells of truth -/
abbrev q_01 (M : g_I) (k : Nat) : Prop := ∀ j : Int, M k j = 0 ∨ M k j = 1
theorem q_01_up {M : g_I} {k : Nat} {i v : Int} (h : q_01 M k) (hv : v = 0 ∨ v = 1) : q_01 (g_up M k i v) k := by
  intro j
  by_cases e : j = i
  · rw [e, g_up_s]; exact hv
  · rw [g_up_i e]; exact h j
set_option maxHeartbeats 4000000 in
set_option maxRecDepth 100000 in
/-- X13_image -/
theorem c_X13_image (w : g_W) {I : g_I} {J : g_J} {R : g_R} {lb tx : Nat} (hR : g_rf w R lb tx) {M : g_I} (hmM : q_rel I lb M) (hz3 : q_01 M 713) (hz6 : q_01 M 726) : g_Met w g_n M J R yX13_image cX13_image 2 (some .int) 4 0 0 [(gvr w 703)] (fun rr nn II JJ RR => x_rel w (some (gvI ((if I 0 12 = -1 then -1 else g_bc (g_thb I lb))))) x_b3 M J lb rr nn II JJ RR ∧ q_01 II 726 ∧ (I 0 12 = -1 → II 703 45 = M 703 45 ∧ (∀ j, II 726 j = M 726 j) ∧ ∀ j, II 727 j = M 727 j) ∧ (¬ I 0 12 = -1 → II 703 45 = 1 ∧ (∀ t : Int, 0 ≤ t → t < 72 → II 726 t = M 713 t) ∧ (∀ t : Int, 0 ≤ t → t < 4 → II 727 t = I 550 t))) := by
  refine g_intro (own := RX13) [some (gvr w 703), none] (by decide +kernel) rfl (by decide) (Nat.le_of_ble_eq_true rfl) rfl (fun i v hv => g_args 1 i v hv rfl) (fun x hc hm => ?_)
  have hfM : ∀ (k : Nat) (j : Int), ¬ x_b3 k j → M k j = M k j := fun _ _ _ => rfl
  have hI := hmM.gi
  have hTb := q_b1 hmM
  have hLv := hmM.lv
  have hC := hmM.cin
  have hL := hC.1
  obtain ⟨hn0, hn1, hLs, hLf⟩ := id hL
  obtain ⟨-, hC1, hC2, hC3, hC4, hC5, hC6, hC7⟩ := id hC
  refine g_aldn hc dX13_image_0 rfl ?_
  refine g_iconst hc dX13_image_1 ?_
  refine g_putI' hc lk_X13_102 ca_703 0 rfl dX13_image_2 (fun I3 hI3 => ?_)
  have hmI3 : q_rel I lb I3 := by rw [hI3]; exact q_upb hmM (by unfold x_b; omega) (by first | exact hI _ _ | exact hmM.g _ _ | exact g_b32 | exact g_and32 | exact g_or32 | exact g_shl32 | assumption | exact ⟨by omega, by omega⟩)
  have hfI3 : ∀ (k : Nat) (j : Int), ¬ x_b3 k j → I3 k j = M k j := fun k j hk => by rw [hI3]; exact (g_up_n (by unfold x_b3 at hk; omega)).trans (hfM k j hk)
  refine g_aldn hc dX13_image_5 rfl ?_
  refine g_getIe hc lk_X13_52 ca_703 24 rfl (show I3 703 24 = I 0 12 from hmI3.tab) dX13_image_6 ?_
  refine g_iconst hc dX13_image_9 ?_
  refine g_icmp_ne (tgt := 15) hc dX13_image_10 (by decide) (by first | exact hI _ _ | exact hxI2 _ _ | exact hIa _ _ | exact hIb _ _ | exact g_b32 | exact g_and32 | assumption | exact ⟨by omega, by omega⟩) (by first | exact hI _ _ | exact hxI2 _ _ | exact hIa _ _ | exact hIb _ _ | exact g_b32 | exact g_and32 | assumption | exact ⟨by omega, by omega⟩) (fun c1 => ?_) (fun c1 => ?_)
  · skip
    have hTs := q_ts hmM (by omega)
    refine g_iconst hc dX13_image_15 ?_
    refine g_istore_1 hc dX13_image_16 rfl ?_
    have lp_17 : ∀ (fu : Nat) (i : Int) (Mm : g_I) (Rm : g_R), 0 ≤ i ∧ i ≤ 72 → (∀ t : Int, 0 ≤ t → t < i → Mm 726 t = M 713 t) → q_01 Mm 726 → (∃ tm, g_rf w Rm lb tm) → q_rel I lb Mm → (∀ (k : Nat) (j : Int), ¬ x_b3 k j → Mm k j = M k j) → 72 - i < (fu : Int) → G w x (fun rr nn II JJ RR => x_rel w (some (gvI ((if I 0 12 = -1 then -1 else g_bc (g_thb I lb))))) x_b3 M J lb rr nn II JJ RR ∧ q_01 II 726 ∧ (I 0 12 = -1 → II 703 45 = M 703 45 ∧ (∀ j, II 726 j = M 726 j) ∧ ∀ j, II 727 j = M 727 j) ∧ (¬ I 0 12 = -1 → II 703 45 = 1 ∧ (∀ t : Int, 0 ≤ t → t < 72 → II 726 t = M 713 t) ∧ (∀ t : Int, 0 ≤ t → t < 4 → II 727 t = I 550 t))) 0 0 g_n Mm J Rm 17 [some (gvr w 703), some (gvI i)] [] := by
      intro fu
      induction fu with
      | zero => intro i Mm Rm h3 hr1 hz1 hR hmMm hfMm hfu; exfalso; omega
      | succ fu ih =>
        intro i Mm Rm h3 hr1 hz1 hR hmMm hfMm hfu
        obtain ⟨tm, hR⟩ := hR
        have ih_17 := ih
        refine g_iload_n hc dX13_image_17 rfl ?_
        refine g_bipush hc dX13_image_18 (by decide +kernel) ?_
        refine g_icmp_ge (tgt := 41) hc dX13_image_20 (by decide) (by first | exact hI _ _ | exact hxI2 _ _ | exact hIa _ _ | exact hIb _ _ | exact g_b32 | exact g_and32 | assumption | exact ⟨by omega, by omega⟩) (by first | exact hI _ _ | exact hxI2 _ _ | exact hIa _ _ | exact hIb _ _ | exact g_b32 | exact g_and32 | assumption | exact ⟨by omega, by omega⟩) (fun c2 => ?_) (fun c2 => ?_)
        · skip
          refine g_iconst hc dX13_image_41 ?_
          refine g_istore_1 hc dX13_image_42 rfl ?_
          have lp_43 : ∀ (fu : Nat) (i : Int) (Mm : g_I) (Rm : g_R), 0 ≤ i ∧ i ≤ 4 → (∀ t : Int, 0 ≤ t → t < 72 → Mm 726 t = M 713 t) → (∀ t : Int, 0 ≤ t → t < i → Mm 727 t = I 550 t) → q_01 Mm 726 → (∃ tm, g_rf w Rm lb tm) → q_rel I lb Mm → (∀ (k : Nat) (j : Int), ¬ x_b3 k j → Mm k j = M k j) → 4 - i < (fu : Int) → G w x (fun rr nn II JJ RR => x_rel w (some (gvI ((if I 0 12 = -1 then -1 else g_bc (g_thb I lb))))) x_b3 M J lb rr nn II JJ RR ∧ q_01 II 726 ∧ (I 0 12 = -1 → II 703 45 = M 703 45 ∧ (∀ j, II 726 j = M 726 j) ∧ ∀ j, II 727 j = M 727 j) ∧ (¬ I 0 12 = -1 → II 703 45 = 1 ∧ (∀ t : Int, 0 ≤ t → t < 72 → II 726 t = M 713 t) ∧ (∀ t : Int, 0 ≤ t → t < 4 → II 727 t = I 550 t))) 0 0 g_n Mm J Rm 43 [some (gvr w 703), some (gvI i)] [] := by
            intro fu
            induction fu with
            | zero => intro i Mm Rm h3 hr2 hs1 hz2 hR hmMm hfMm hfu; exfalso; omega
            | succ fu ih =>
              intro i Mm Rm h3 hr2 hs1 hz2 hR hmMm hfMm hfu
              obtain ⟨tm, hR⟩ := hR
              have ih_43 := ih
              refine g_iload_n hc dX13_image_43 rfl ?_
              refine g_iconst hc dX13_image_44 ?_
              refine g_icmp_ge (tgt := 66) hc dX13_image_45 (by decide) (by first | exact hI _ _ | exact hxI2 _ _ | exact hIa _ _ | exact hIb _ _ | exact g_b32 | exact g_and32 | assumption | exact ⟨by omega, by omega⟩) (by first | exact hI _ _ | exact hxI2 _ _ | exact hIa _ _ | exact hIb _ _ | exact g_b32 | exact g_and32 | assumption | exact ⟨by omega, by omega⟩) (fun c3 => ?_) (fun c3 => ?_)
              · skip
                refine g_aldn hc dX13_image_66 rfl ?_
                refine g_iconst hc dX13_image_67 ?_
                refine g_putZ' hc lk_X13_301 ca_703 (by first | exact g_b01 | omega) 45 rfl dX13_image_68 (fun I4 hI4 => ?_)
                have hmI4 : q_rel I lb I4 := by rw [hI4]; exact q_upb hmMm (by unfold x_b; omega) (by first | exact hI _ _ | exact hmM.g _ _ | exact g_b32 | exact g_and32 | exact g_or32 | exact g_shl32 | assumption | exact ⟨by omega, by omega⟩)
                have hfI4 : ∀ (k : Nat) (j : Int), ¬ x_b3 k j → I4 k j = M k j := fun k j hk => by rw [hI4]; exact (g_up_n (by unfold x_b3 at hk; omega)).trans (hfMm k j hk)
                have hr5 : (∀ t : Int, 0 ≤ t → t < 72 → I4 726 t = M 713 t) := fun t a c => by rw [hI4, g_up_k (by decide)]; exact hr2 t a c
                have hs5 : (∀ t : Int, 0 ≤ t → t < 4 → I4 727 t = I 550 t) := fun t a c => by rw [hI4, g_up_k (by decide)]; exact hs1 t a (by omega)
                have hz5 : q_01 I4 726 := fun t => by rw [hI4, g_up_k (by decide)]; exact hz2 t
                have h45 : I4 703 45 = 1 := by rw [hI4, g_up_s]
                refine g_aldn hc dX13_image_71 rfl ?_
                refine g_V0 hc (c_X13_thereBits w hR hmI4 (by omega)) my_X13_thereBits mv_X13_thereBits ca_703 rfl rfl lm_X13_410 rfl (by decide) (Nat.le_of_ble_eq_true rfl) hm dX13_image_72 (fun r5 n5 I5 J5 R5 hp5 => ?_)
                obtain ⟨rfl, rfl, hK5, hX5, rfl, t5, hR⟩ := hp5
                have hmI5 : q_rel I lb I5 := q_cgb (fun k j hk => hK5 k j (fun z => hk (by unfold x_w at z; unfold x_b; omega))) hX5 hmI4
                have hfI5 : ∀ (k : Nat) (j : Int), ¬ x_b3 k j → I5 k j = M k j := fun k j hk => (hK5 k j (fun z => hk (by unfold x_w at z; unfold x_b3; omega))).trans (hfI4 k j hk)
                have hw5 : ∀ (k : Nat) (j : Int), k = 726 ∨ k = 727 ∨ (k = 703 ∧ j = 45) → I5 k j = I4 k j := fun k j hk => hK5 k j (by unfold x_w; omega)
                refine g_S1r hc (c_J6_bitCount_0f7a4 w) my_J6_bitCount_0f7a4 ms_J6_bitCount_0f7a4 lm_X13_413 rfl (by decide) (Nat.le_of_ble_eq_true rfl) hm dX13_image_75 ?_
                refine g_iret hc hm dX13_image_78 ?_
                exact ⟨x_end (by rw [if_neg (by omega)]) hfI5 hmI5.g hR, fun t => by rw [hw5 726 t (by omega)]; exact hz5 t, fun z => by omega, fun _ => ⟨by rw [hw5 703 45 (by omega)]; exact h45, fun t a c => by rw [hw5 726 t (by omega)]; exact hr5 t a c, fun t a c => by rw [hw5 727 t (by omega)]; exact hs5 t a c⟩⟩
              · skip
                refine g_aldn hc dX13_image_48 rfl ?_
                refine g_getRk hc lk_X13_99 ca_703 (rc_703_44 hR) dX13_image_49 ?_
                refine g_iload_n hc dX13_image_52 rfl ?_
                refine g_aldn hc dX13_image_53 rfl ?_
                refine g_getRk hc lk_X13_60 ca_703 (rc_703_26 hR) dX13_image_54 ?_
                refine g_iload_n hc dX13_image_57 rfl ?_
                refine g_ialde hc ca_714 (by decide) (by omega) (by omega) (show Mm 714 i = I 550 i from hmMm.told (by omega)) dX13_image_58 ?_
                refine g_iast' hc ca_727 (by decide) (by omega) (by omega)  dX13_image_59 (fun I6 hI6 => ?_)
                have hmI6 : q_rel I lb I6 := by rw [hI6]; exact q_upb hmMm (by unfold x_b; omega) (by first | exact hI _ _ | exact hmM.g _ _ | exact g_b32 | exact g_and32 | exact g_or32 | exact g_shl32 | assumption | exact ⟨by omega, by omega⟩)
                have hfI6 : ∀ (k : Nat) (j : Int), ¬ x_b3 k j → I6 k j = M k j := fun k j hk => by rw [hI6]; exact (g_up_n (by unfold x_b3 at hk; omega)).trans (hfMm k j hk)
                have hs4 : (∀ t : Int, 0 ≤ t → t < (i + 1) → I6 727 t = I 550 t) := fun t a c => by
                  rw [hI6]
                  by_cases e : t = i
                  · rw [e, g_up_s]
                  · rw [g_up_i e]; exact hs1 t a (by omega)
                have hr4 : (∀ t : Int, 0 ≤ t → t < 72 → I6 726 t = M 713 t) := fun t a c => by rw [hI6, g_up_k (by decide)]; exact hr2 t a c
                have hz4 : q_01 I6 726 := fun t => by rw [hI6, g_up_k (by decide)]; exact hz2 t
                refine g_iinc_1 hc dX13_image_60 rfl ?_
                refine g_goto (tgt := 43) hc dX13_image_63 (by decide) ?_
                refine ih_43 _ _ _ ?_ ?_ ?_ ?_ ?_ ?_ ?_ ?_
                · omega
                · exact hr4
                · exact hs4
                · exact hz4
                · exact ⟨_, hR⟩
                · exact hmI6
                · exact hfI6
                · omega
          refine lp_43 5 _ _ _ ?_ ?_ ?_ ?_ ?_ ?_ ?_ (?_)
          · omega
          · exact fun t a c => hr1 t a (by omega)
          · intro t a c; omega
          · exact hz1
          · exact ⟨_, hR⟩
          · exact hmMm
          · exact hfMm
          · omega
        · skip
          refine g_aldn hc dX13_image_23 rfl ?_
          refine g_getRk hc lk_X13_96 ca_703 (rc_703_43 hR) dX13_image_24 ?_
          refine g_iload_n hc dX13_image_27 rfl ?_
          refine g_aldn hc dX13_image_28 rfl ?_
          refine g_getRk hc lk_X13_56 ca_703 (rc_703_25 hR) dX13_image_29 ?_
          refine g_iload_n hc dX13_image_32 rfl ?_
          refine g_zalde hc ca_713 (by decide) (by omega) (by omega) (show Mm 713 i = M 713 i from hfMm 713 i (by unfold x_b3 x_a; omega)) dX13_image_33 ?_
          refine g_zast' hc ca_726 (by decide) (by omega) (by omega) (hz3 i) dX13_image_34 (fun I7 hI7 => ?_)
          have hmI7 : q_rel I lb I7 := by rw [hI7]; exact q_upb hmMm (by unfold x_b; omega) (by first | exact hI _ _ | exact hmM.g _ _ | exact g_b32 | exact g_and32 | exact g_or32 | exact g_shl32 | assumption | exact ⟨by omega, by omega⟩)
          have hfI7 : ∀ (k : Nat) (j : Int), ¬ x_b3 k j → I7 k j = M k j := fun k j hk => by rw [hI7]; exact (g_up_n (by unfold x_b3 at hk; omega)).trans (hfMm k j hk)
          have hr4 : (∀ t : Int, 0 ≤ t → t < (i + 1) → I7 726 t = M 713 t) := fun t a c => by
            rw [hI7]
            by_cases e : t = i
            · rw [e, g_up_s]
            · rw [g_up_i e]; exact hr1 t a (by omega)
          have hz4 : q_01 I7 726 := by rw [hI7]; exact q_01_up hz1 (hz3 i)
          refine g_iinc_1 hc dX13_image_35 rfl ?_
          refine g_goto (tgt := 17) hc dX13_image_38 (by decide) ?_
          refine ih_17 _ _ _ ?_ ?_ ?_ ?_ ?_ ?_ ?_
          · omega
          · exact hr4
          · exact hz4
          · exact ⟨_, hR⟩
          · exact hmI7
          · exact hfI7
          · omega
    refine lp_17 73 _ _ _ ?_ ?_ ?_ ?_ ?_ ?_ (?_)
    · omega
    · intro t a c; omega
    · intro t; rw [hI3, g_up_k (by decide)]; exact hz6 t
    · exact ⟨_, hR⟩
    · exact hmI3
    · exact hfI3
    · omega
  · skip
    refine g_iconst hc dX13_image_13 ?_
    refine g_iret hc hm dX13_image_14 ?_
    exact ⟨x_end (by rw [if_pos (by omega)]) hfI3 hmI3.g hR, fun t => by rw [hI3, g_up_k (by decide)]; exact hz6 t, fun _ => ⟨by rw [hI3, g_up_n (by omega)], fun j => by rw [hI3, g_up_k (by decide)], fun j => by rw [hI3, g_up_k (by decide)]⟩, fun z => by omega⟩
