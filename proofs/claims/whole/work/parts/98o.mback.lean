/-- the IMAGE -/
def q_img (I : g_I) (lb : Nat) (M : g_I) : Prop := M 703 45 = I 549 4 ∧ (I 549 4 = 0 ∨ I 549 4 = 1) ∧ (I 549 4 = 1 → 0 ≤ I 0 12 ∧ q_row I lb (I 551) ∧ (∀ k : Int, 0 ≤ k → k < 4 → M 727 k = I 551 k) ∧ ∀ f : Int, 0 ≤ f → f < I lb 1 → ∀ r : Int, 0 ≤ r → r < I (lb + 43) f → M 726 (4 * f + r) = g_b (g_bit (I 551 (4 + f)) r))
theorem x_tim {I : g_I} : g_tim I 549 5 = 0 ∧ (∀ j : Int, 0 ≤ j → j < 24 → g_tim I 550 j = I 551 j) ∧ (∀ k : Nat, k ≠ 549 → k ≠ 550 → g_tim I k = I k) ∧ ∀ j : Int, j ≠ 5 → g_tim I 549 j = I 549 j := by
  refine ⟨by rw [g_tim, g_up_s], fun j h0 h1 => ?_, fun k a c => ?_, fun j hj => ?_⟩
  · rw [g_tim, g_up_k (by decide), g_cpy_in h0 (by omega), show 0 + (j - 0) = j by omega]
  · funext j; rw [g_tim, g_up_k a, g_cpy_k c]
  · rw [g_tim, g_up_i hj, g_cpy_k (by decide)]
theorem x_tim32 {I : g_I} (h : ∀ k j, g32 (I k j)) : ∀ k j, g32 (g_tim I k j) := x_up32 (g_cpy32 h) ⟨by decide, by decide⟩
theorem q_tim {I M M' : g_I} {lb : Nat} (h : q_rel I lb M) (hi : q_img I lb M) (h0 : I 549 4 = 1) (hA : M' 703 32 = 0) (h3 : ∀ t : Int, 0 ≤ t → t < 72 → M' 713 t = M 726 t) (h4 : ∀ t : Int, 0 ≤ t → t < 4 → M' 714 t = M 727 t) (hgm : ∀ k j, g32 (M' k j)) (hf : ∀ (k : Nat) (j : Int), ¬ x_b6 k j → M' k j = M k j) : q_rel (g_tim I) lb M' ∧ q_und (g_tim I) lb M' := by
  obtain ⟨e5, e550, ek, e549⟩ := @x_tim I
  obtain ⟨i1, i2, i3⟩ := hi
  obtain ⟨-, w1, w2, w3⟩ := i3 h0
  have hn := (q_lok h).2.1
  refine ⟨q_rel_mv h ek (x_tim32 h.gi) hgm (q_row_S (by omega) e550 w1) (fun k k0 k1 => by rw [e550 k k0 (by omega), h4 k k0 k1]; exact w2 k k0 k1) (fun f f0 f1 r r0 r1 => ?_) hf, by omega, by omega, fun d hd => by omega⟩
  have hk := ((q_lok h).2.2.2 f f0 f1).1
  rw [e550 (4 + f) (by omega) (by omega), h3 _ (by omega) (by omega)]; exact w3 f f0 f1 r r0 r1
set_option maxHeartbeats 4000000 in
set_option maxRecDepth 100000 in
/-- X13_back -/
theorem c_X13_back (w : g_W) {I : g_I} {J : g_J} {R : g_R} {lb tx : Nat} (hR : g_rf w R lb tx) {M : g_I} (hmM : q_rel I lb M) (hi : q_img I lb M) (hu : q_und I lb M) (hz3 : q_01 M 713) (hz6 : q_01 M 726) : g_Met w g_n M J R yX13_back cX13_back 2 (some .int) 4 0 0 [(gvr w 703)] (fun rr nn II JJ RR => x_rel w (some (gvI ((if I 549 4 = 0 then -1 else g_bc (g_thb (g_tim I) lb))))) x_b6 M J lb rr nn II JJ RR ∧ (q_rel (if I 549 4 = 0 then I else g_tim I) lb II ∧ q_und (if I 549 4 = 0 then I else g_tim I) lb II) ∧ q_01 II 713) := by
  refine g_intro (own := RX13) [some (gvr w 703), none] (by decide +kernel) rfl (by decide) (Nat.le_of_ble_eq_true rfl) rfl (fun i v hv => g_args 1 i v hv rfl) (fun x hc hm => ?_)
  have hfM : ∀ (k : Nat) (j : Int), ¬ x_b6 k j → M k j = M k j := fun _ _ _ => rfl
  have hI := hmM.gi
  have hTb := q_b1 hmM
  have hLv := hmM.lv
  have hC := hmM.cin
  have hL := hC.1
  obtain ⟨hn0, hn1, hLs, hLf⟩ := id hL
  obtain ⟨-, hC1, hC2, hC3, hC4, hC5, hC6, hC7⟩ := id hC
  obtain ⟨hi1, hi2, hi3⟩ := id hi
  refine g_aldn hc dX13_back_0 rfl ?_
  refine g_iconst hc dX13_back_1 ?_
  refine g_putI' hc lk_X13_102 ca_703 0 rfl dX13_back_2 (fun I3 hI3 => ?_)
  have hmI3 : q_rel I lb I3 := by rw [hI3]; exact q_upb hmM (by unfold x_b; omega) (by first | exact hI _ _ | exact hmM.g _ _ | exact g_b32 | exact g_and32 | exact g_or32 | exact g_shl32 | assumption | exact ⟨by omega, by omega⟩)
  have hfI3 : ∀ (k : Nat) (j : Int), ¬ x_b6 k j → I3 k j = M k j := fun k j hk => by rw [hI3]; exact (g_up_n (by unfold x_b6 at hk; omega)).trans (hfM k j hk)
  have hgI3 := hmI3.g
  have hz39 : q_01 I3 713 := fun t => by rw [hI3, g_up_k (by decide)]; exact hz3 t
  refine g_aldn hc dX13_back_5 rfl ?_
  refine g_getIe hc lk_X13_301 ca_703 45 rfl (show I3 703 45 = I 549 4 from by rw [hI3, g_up_n (by omega)]; exact hi1) dX13_back_6 ?_
  refine g_if_ne (tgt := 14) hc dX13_back_9 (by decide) (by first | exact hI _ _ | exact hxI2 _ _ | exact hIa _ _ | exact hIb _ _ | exact g_b32 | exact g_and32 | assumption | exact ⟨by omega, by omega⟩) (fun c1 => ?_) (fun c1 => ?_)
  · skip
    refine g_iconst hc dX13_back_14 ?_
    refine g_istore_1 hc dX13_back_15 rfl ?_
    have lp_16 : ∀ (fu : Nat) (i : Int) (Mk : g_I), 0 ≤ i ∧ i ≤ 72 → (∀ t : Int, 0 ≤ t → t < i → Mk 713 t = M 726 t) → q_01 Mk 713 → (∀ (k : Nat) (j : Int), g32 (Mk k j)) → (∀ (k : Nat) (j : Int), ¬ x_b6 k j → Mk k j = M k j) → 72 - i < (fu : Int) → G w x (fun rr nn II JJ RR => x_rel w (some (gvI ((if I 549 4 = 0 then -1 else g_bc (g_thb (g_tim I) lb))))) x_b6 M J lb rr nn II JJ RR ∧ (q_rel (if I 549 4 = 0 then I else g_tim I) lb II ∧ q_und (if I 549 4 = 0 then I else g_tim I) lb II) ∧ q_01 II 713) 0 0 g_n Mk J R 16 [some (gvr w 703), some (gvI i)] [] := by
      intro fu
      induction fu with
      | zero => intro i Mk h3 hp1 hpz hgMk hfMk hfu; exfalso; omega
      | succ fu ih =>
        intro i Mk h3 hp1 hpz hgMk hfMk hfu
        have ih_16 := ih
        refine g_iload_n hc dX13_back_16 rfl ?_
        refine g_bipush hc dX13_back_17 (by decide +kernel) ?_
        refine g_icmp_ge (tgt := 40) hc dX13_back_19 (by decide) (by first | exact hI _ _ | exact hxI2 _ _ | exact hIa _ _ | exact hIb _ _ | exact g_b32 | exact g_and32 | assumption | exact ⟨by omega, by omega⟩) (by first | exact hI _ _ | exact hxI2 _ _ | exact hIa _ _ | exact hIb _ _ | exact g_b32 | exact g_and32 | assumption | exact ⟨by omega, by omega⟩) (fun c2 => ?_) (fun c2 => ?_)
        · skip
          refine g_iconst hc dX13_back_40 ?_
          refine g_istore_1 hc dX13_back_41 rfl ?_
          have lp_42 : ∀ (fu : Nat) (i : Int) (Mk : g_I), 0 ≤ i ∧ i ≤ 4 → (∀ t : Int, 0 ≤ t → t < 72 → Mk 713 t = M 726 t) → (∀ t : Int, 0 ≤ t → t < i → Mk 714 t = M 727 t) → q_01 Mk 713 → (∀ (k : Nat) (j : Int), g32 (Mk k j)) → (∀ (k : Nat) (j : Int), ¬ x_b6 k j → Mk k j = M k j) → 4 - i < (fu : Int) → G w x (fun rr nn II JJ RR => x_rel w (some (gvI ((if I 549 4 = 0 then -1 else g_bc (g_thb (g_tim I) lb))))) x_b6 M J lb rr nn II JJ RR ∧ (q_rel (if I 549 4 = 0 then I else g_tim I) lb II ∧ q_und (if I 549 4 = 0 then I else g_tim I) lb II) ∧ q_01 II 713) 0 0 g_n Mk J R 42 [some (gvr w 703), some (gvI i)] [] := by
            intro fu
            induction fu with
            | zero => intro i Mk h3 hs7 hs1 hsz hgMk hfMk hfu; exfalso; omega
            | succ fu ih =>
              intro i Mk h3 hs7 hs1 hsz hgMk hfMk hfu
              have ih_42 := ih
              refine g_iload_n hc dX13_back_42 rfl ?_
              refine g_iconst hc dX13_back_43 ?_
              refine g_icmp_ge (tgt := 65) hc dX13_back_44 (by decide) (by first | exact hI _ _ | exact hxI2 _ _ | exact hIa _ _ | exact hIb _ _ | exact g_b32 | exact g_and32 | assumption | exact ⟨by omega, by omega⟩) (by first | exact hI _ _ | exact hxI2 _ _ | exact hIa _ _ | exact hIb _ _ | exact g_b32 | exact g_and32 | assumption | exact ⟨by omega, by omega⟩) (fun c3 => ?_) (fun c3 => ?_)
              · skip
                refine g_aldn hc dX13_back_65 rfl ?_
                refine g_iconst hc dX13_back_66 ?_
                refine g_putI' hc lk_X13_292 ca_703 32 rfl dX13_back_67 (fun I4 hI4 => ?_)
                have hgI4 : ∀ (a : Nat) (c : Int), g32 (I4 a c) := by rw [hI4]; exact x_up32 hgMk (show g32 _ from ⟨by decide, by decide⟩)
                have hfI4 : ∀ (a : Nat) (c : Int), ¬ x_b6 a c → I4 a c = M a c := fun a c hk => by rw [hI4]; exact (g_up_n (by unfold x_b6 at hk; omega)).trans (hfMk a c hk)
                have hv7 : (∀ t : Int, 0 ≤ t → t < 72 → I4 713 t = M 726 t) := fun t t0 t1 => by rw [hI4, g_up_k (by decide)]; exact hs7 t t0 t1
                have hv8 : (∀ t : Int, 0 ≤ t → t < 4 → I4 714 t = M 727 t) := fun t t0 t1 => by rw [hI4, g_up_k (by decide)]; exact hs1 t t0 (by omega)
                have hvz : q_01 I4 713 := fun t => by rw [hI4, g_up_k (by decide)]; exact hsz t
                have hvA : I4 703 32 = 0 := by rw [hI4, g_up_s]
                have htm := q_tim hmM hi (by omega) hvA hv7 hv8 hgI4 hfI4
                have hd0 : ¬ I 549 4 = 0 := (by omega)
                have hTt : 0 ≤ g_tim I 0 12 := by rw [x_tim.2.2.1 0 (by decide) (by decide)]; exact (hi3 (by omega)).1
                obtain ⟨I, hIn⟩ : ∃ z, z = g_tim I := ⟨_, rfl⟩
                rw [← hIn] at htm hTt
                have hmI4 := htm.1
                have hI := hmI4.gi
                refine g_aldn hc dX13_back_70 rfl ?_
                refine g_V0 hc (c_X13_thereBits w hR hmI4 (by omega)) my_X13_thereBits mv_X13_thereBits ca_703 rfl rfl lm_X13_410 rfl (by decide) (Nat.le_of_ble_eq_true rfl) hm dX13_back_71 (fun r5 n5 I5 J5 R5 hp5 => ?_)
                obtain ⟨rfl, rfl, hK5, hX5, rfl, t5, hR⟩ := hp5
                have hmI5 : q_rel I lb I5 := q_cgb (fun k j hk => hK5 k j (fun z => hk (by unfold x_w at z; unfold x_b; omega))) hX5 hmI4
                have hfI5 : ∀ (k : Nat) (j : Int), ¬ x_b6 k j → I5 k j = M k j := fun k j hk => (hK5 k j (fun z => hk (by unfold x_w at z; unfold x_b6; omega))).trans (hfI4 k j hk)
                have hw5 : ∀ (k : Nat) (j : Int), ¬ x_w k j → I5 k j = I4 k j := hK5
                refine g_S1r hc (c_J6_bitCount_0f7a4 w) my_J6_bitCount_0f7a4 ms_J6_bitCount_0f7a4 lm_X13_413 rfl (by decide) (Nat.le_of_ble_eq_true rfl) hm dX13_back_74 ?_
                refine g_iret hc hm dX13_back_77 ?_
                exact ⟨x_end (by rw [if_neg hd0, ← hIn]) hfI5 hmI5.g hR, by rw [if_neg hd0, ← hIn]; exact ⟨hmI5, q_und_cg (hw5 703 32 (by unfold x_w; omega)) (funext fun j => hw5 717 j (by unfold x_w; omega)) (funext fun j => hw5 718 j (by unfold x_w; omega)) htm.2⟩, fun t => by rw [hw5 713 t (by unfold x_w; omega)]; exact hvz t⟩
              · skip
                refine g_aldn hc dX13_back_47 rfl ?_
                refine g_getRk hc lk_X13_60 ca_703 (rc_703_26 hR) dX13_back_48 ?_
                refine g_iload_n hc dX13_back_51 rfl ?_
                refine g_aldn hc dX13_back_52 rfl ?_
                refine g_getRk hc lk_X13_99 ca_703 (rc_703_44 hR) dX13_back_53 ?_
                refine g_iload_n hc dX13_back_56 rfl ?_
                refine g_ialde hc ca_727 (by decide) (by omega) (by omega) (show Mk 727 i = M 727 i from hfMk 727 _ (by unfold x_b6 x_a; omega)) dX13_back_57 ?_
                refine g_iast' hc ca_714 (by decide) (by omega) (by omega)  dX13_back_58 (fun I6 hI6 => ?_)
                have hgI6 : ∀ (a : Nat) (c : Int), g32 (I6 a c) := by rw [hI6]; exact x_up32 hgMk (hmM.g _ _)
                have hfI6 : ∀ (a : Nat) (c : Int), ¬ x_b6 a c → I6 a c = M a c := fun a c hk => by rw [hI6]; exact (g_up_n (by unfold x_b6 at hk; omega)).trans (hfMk a c hk)
                have hr1 : (∀ t : Int, 0 ≤ t → t < (i + 1) → I6 714 t = M 727 t) := fun t t0 t1 => by
                  rw [hI6]
                  by_cases e : t = i
                  · rw [e, g_up_s]
                  · rw [g_up_i e]; exact hs1 t t0 (by omega)
                have hr7 : (∀ t : Int, 0 ≤ t → t < 72 → I6 713 t = M 726 t) := fun t t0 t1 => by rw [hI6, g_up_k (by decide)]; exact hs7 t t0 t1
                have hrz : q_01 I6 713 := fun t => by rw [hI6, g_up_k (by decide)]; exact hsz t
                refine g_iinc_1 hc dX13_back_59 rfl ?_
                refine g_goto (tgt := 42) hc dX13_back_62 (by decide) ?_
                refine ih_42 _ _ ?_ ?_ ?_ ?_ ?_ ?_ ?_
                · omega
                · exact hr7
                · exact hr1
                · exact hrz
                · exact hgI6
                · exact hfI6
                · omega
          refine lp_42 5 _ _ ?_ ?_ ?_ ?_ ?_ ?_ (?_)
          · omega
          · exact fun t t0 t1 => hp1 t t0 (by omega)
          · intro t t0 t1; omega
          · exact hpz
          · exact hgMk
          · exact hfMk
          · omega
        · skip
          refine g_aldn hc dX13_back_22 rfl ?_
          refine g_getRk hc lk_X13_56 ca_703 (rc_703_25 hR) dX13_back_23 ?_
          refine g_iload_n hc dX13_back_26 rfl ?_
          refine g_aldn hc dX13_back_27 rfl ?_
          refine g_getRk hc lk_X13_96 ca_703 (rc_703_43 hR) dX13_back_28 ?_
          refine g_iload_n hc dX13_back_31 rfl ?_
          refine g_zalde hc ca_726 (by decide) (by omega) (by omega) (show Mk 726 i = M 726 i from hfMk 726 _ (by unfold x_b6 x_a; omega)) dX13_back_32 ?_
          refine g_zast' hc ca_713 (by decide) (by omega) (by omega) (hz6 _) dX13_back_33 (fun I7 hI7 => ?_)
          have hgI7 : ∀ (a : Nat) (c : Int), g32 (I7 a c) := by rw [hI7]; exact x_up32 hgMk (hmM.g _ _)
          have hfI7 : ∀ (a : Nat) (c : Int), ¬ x_b6 a c → I7 a c = M a c := fun a c hk => by rw [hI7]; exact (g_up_n (by unfold x_b6 at hk; omega)).trans (hfMk a c hk)
          have hq1 : (∀ t : Int, 0 ≤ t → t < (i + 1) → I7 713 t = M 726 t) := fun t t0 t1 => by
            rw [hI7]
            by_cases e : t = i
            · rw [e, g_up_s]
            · rw [g_up_i e]; exact hp1 t t0 (by omega)
          have hqz : q_01 I7 713 := by rw [hI7]; exact q_01_up hpz (hz6 _)
          refine g_iinc_1 hc dX13_back_34 rfl ?_
          refine g_goto (tgt := 16) hc dX13_back_37 (by decide) ?_
          refine ih_16 _ _ ?_ ?_ ?_ ?_ ?_ ?_
          · omega
          · exact hq1
          · exact hqz
          · exact hgI7
          · exact hfI7
          · omega
    refine lp_16 73 _ _ ?_ ?_ ?_ ?_ ?_ (?_)
    · omega
    · intro t t0 t1; omega
    · exact hz39
    · exact hgI3
    · exact hfI3
    · omega
  · skip
    refine g_iconst hc dX13_back_12 ?_
    refine g_iret hc hm dX13_back_13 ?_
    exact ⟨x_end (by rw [if_pos (by omega)]) hfI3 hmI3.g hR, by rw [if_pos (by omega)]; exact ⟨hmI3, q_und_cg (by rw [hI3, g_up_n (by omega)]) (by rw [hI3]; funext j; exact g_up_k (by decide)) (by rw [hI3]; funext j; exact g_up_k (by decide)) hu⟩, hz39⟩
abbrev x_b7 (k : Nat) (j : Int) : Prop := x_a k j ∨ k = 721 ∨ k = 722 ∨ k = 723 ∨ (k = 703 ∧ j = 38)
abbrev x_cg (I : g_I) (c u v : Int) : Prop := 0 ≤ I 0 12 ∧ (0 ≤ c ∧ c ≤ 5) ∧ (0 ≤ u ∧ u ≤ 99) ∧ 0 ≤ v ∧ v ≤ 99
theorem q_adc {I M M' : g_I} {lb : Nat} {c u v : Int} (h : q_rel I lb M) (hg : x_cg I c u v) (h12 : I 697 4 < 12) (hA : M' 703 38 = I 697 4 + 1) (h1 : ∀ t : Int, M' 721 t = if t = I 697 4 then c else M 721 t) (h2 : ∀ t : Int, M' 722 t = if t = I 697 4 then u else M 722 t) (h3 : ∀ t : Int, M' 723 t = if t = I 697 4 then v else M 723 t) (hgm : ∀ k j, g32 (M' k j)) (hf : ∀ (k : Nat) (j : Int), ¬ x_b7 k j → M' k j = M k j) : q_rel (g_adc I c u v) lb M' := by
  obtain ⟨⟨c0, c1⟩, c2, c3⟩ := h.clu
  obtain ⟨t0, hc, hu, hv⟩ := hg
  have e : ∀ k : Nat, (705 ≤ k ∧ k ≤ 714 ∧ k ≠ 707) → M' k = M k := fun k hn => funext fun j => hf k j (by unfold x_b7 x_a; omega)
  have ek : ∀ k : Nat, ¬ (697 ≤ k ∧ k ≤ 700) → g_adc I c u v k = I k := fun k hk => by
    funext j
    rw [g_adc, if_neg (by omega), g_up_k (by omega), g_up_k (by omega), g_up_k (by omega), g_up_k (by omega)]
  have e4 : g_adc I c u v 697 4 = I 697 4 + 1 := by rw [g_adc, if_neg (by omega), g_up_s]
  have e1 : ∀ t : Int, g_adc I c u v 698 t = if t = I 697 4 then c else I 698 t := fun t => by
    rw [g_adc, if_neg (by omega), g_up_k (by decide), g_up_k (by decide), g_up_k (by decide)]
    by_cases z : t = I 697 4
    · rw [if_pos z, z, g_up_s]
    · rw [if_neg z, g_up_i z]
  have e2 : ∀ t : Int, g_adc I c u v 699 t = if t = I 697 4 then u else I 699 t := fun t => by
    rw [g_adc, if_neg (by omega), g_up_k (by decide), g_up_k (by decide)]
    by_cases z : t = I 697 4
    · rw [if_pos z, z, g_up_s]
    · rw [if_neg z, g_up_i z, g_up_k (by decide)]
  have e3 : ∀ t : Int, g_adc I c u v 700 t = if t = I 697 4 then v else I 700 t := fun t => by
    rw [g_adc, if_neg (by omega), g_up_k (by decide)]
    by_cases z : t = I 697 4
    · rw [if_pos z, z, g_up_s]
    · rw [if_neg z, g_up_i z, g_up_k (by decide), g_up_k (by decide)]
  have hgi : ∀ k j, g32 (g_adc I c u v k j) := by
    rw [g_adc, if_neg (by omega)]
    exact x_up32 (x_up32 (x_up32 (x_up32 h.gi ⟨by omega, by omega⟩) ⟨by omega, by omega⟩) ⟨by omega, by omega⟩) ⟨by omega, by omega⟩
  refine q_rel_st h (ek 0 (by decide)) (fun k a c => ek k (by omega)) (fun k a c => ek k (by omega)) hgi hgm (by rw [ek 550 (by decide)]; exact h.row) (fun k k0 k1 => by rw [ek 550 (by decide), e 714 (by decide)]; exact h.told ⟨k0, k1⟩) (fun f f0 f1 r r0 r1 => by rw [ek 550 (by decide), e 713 (by decide)]; exact h.opn ⟨f0, f1⟩ ⟨r0, r1⟩) ⟨⟨by omega, fun t t0 t1 => ?_⟩, by rw [e4]; exact hA, fun t t0 t1 => ?_⟩ (fun k a c d => e k (by omega)) ⟨hf 703 24 (by decide), hf 703 23 (by decide), hf 703 7 (by decide)⟩
  · rw [e4] at t1
    rw [e1, e2, e3]
    by_cases z : t = I 697 4
    · rw [if_pos z, if_pos z, if_pos z]; exact ⟨hc, hu, hv⟩
    · rw [if_neg z, if_neg z, if_neg z]; exact c1 t t0 (by omega)
  · rw [e4] at t1
    rw [e1, e2, e3, h1, h2, h3]
    by_cases z : t = I 697 4
    · rw [if_pos z, if_pos z, if_pos z, if_pos z, if_pos z, if_pos z]; exact ⟨rfl, rfl, rfl⟩
    · rw [if_neg z, if_neg z, if_neg z, if_neg z, if_neg z, if_neg z]; exact c3 t t0 (by omega)
set_option maxHeartbeats 4000000 in
set_option maxRecDepth 100000 in
/-- X13_clue -/
theorem c_X13_clue (w : g_W) {I : g_I} {J : g_J} {R : g_R} {lb tx : Nat} (hR : g_rf w R lb tx) {M : g_I} (hmM : q_rel I lb M) {c u v : Int} (g1 : g32 c) (g2 : g32 u) (g3 : g32 v) : g_Met w g_n M J R yX13_clue cX13_clue 4 (some .int) 1 0 0 [(gvr w 703), (gvI c), (gvI u), (gvI v)] (fun rr nn II JJ RR => x_rel w (some (gvI ((if (x_cg I c u v) then (if 12 ≤ I 697 4 then -1 else I 697 4 + 1) else -1)))) x_b7 M J lb rr nn II JJ RR ∧ q_rel (if (x_cg I c u v) then g_adc I c u v else I) lb II) := by
  refine g_intro (own := RX13) [some (gvr w 703), some (gvI c), some (gvI u), some (gvI v)] (by decide +kernel) rfl (by decide) (Nat.le_of_ble_eq_true rfl) rfl (fun i v hv => g_args 0 i v hv rfl) (fun x hc hm => ?_)
  have hfM : ∀ (k : Nat) (j : Int), ¬ x_b7 k j → M k j = M k j := fun _ _ _ => rfl
  have hI := hmM.gi
  have hTb := q_b1 hmM
  have hLv := hmM.lv
  have hC := hmM.cin
  have hL := hC.1
  obtain ⟨hn0, hn1, hLs, hLf⟩ := id hL
  obtain ⟨-, hC1, hC2, hC3, hC4, hC5, hC6, hC7⟩ := id hC
  refine g_aldn hc dX13_clue_0 rfl ?_
  refine g_iconst hc dX13_clue_1 ?_
  refine g_putI' hc lk_X13_102 ca_703 0 rfl dX13_clue_2 (fun I3 hI3 => ?_)
  have hmI3 : q_rel I lb I3 := by rw [hI3]; exact q_upb hmM (by unfold x_b; omega) (by first | exact hI _ _ | exact hmM.g _ _ | exact g_b32 | exact g_and32 | exact g_or32 | exact g_shl32 | assumption | exact ⟨by omega, by omega⟩)
  have hfI3 : ∀ (k : Nat) (j : Int), ¬ x_b7 k j → I3 k j = M k j := fun k j hk => by rw [hI3]; exact (g_up_n (by unfold x_b7 at hk; omega)).trans (hfM k j hk)
  have hgI3 := hmI3.g
  have hc3 : I3 703 38 = I 697 4 := hmI3.clu.2.1
  have hc9 := hmI3.clu.1.1
  have k1 : ∀ t : Int, I3 721 t = M 721 t := fun t => by rw [hI3, g_up_k (by decide)]
  have k2 : ∀ t : Int, I3 722 t = M 722 t := fun t => by rw [hI3, g_up_k (by decide)]
  have k3 : ∀ t : Int, I3 723 t = M 723 t := fun t => by rw [hI3, g_up_k (by decide)]
  refine g_aldn hc dX13_clue_5 rfl ?_
  refine g_getIe hc lk_X13_52 ca_703 24 rfl (show I3 703 24 = I 0 12 from hmI3.tab) dX13_clue_6 ?_
  refine g_iconst hc dX13_clue_9 ?_
  refine g_icmp_eq (tgt := 58) hc dX13_clue_10 (by decide) (by first | exact hI _ _ | exact hxI2 _ _ | exact hIa _ _ | exact hIb _ _ | exact g_b32 | exact g_and32 | assumption | exact ⟨by omega, by omega⟩) (by first | exact hI _ _ | exact hxI2 _ _ | exact hIa _ _ | exact hIb _ _ | exact g_b32 | exact g_and32 | assumption | exact ⟨by omega, by omega⟩) (fun c1 => ?_) (fun c1 => ?_)
  · skip
    have hst : ¬ ((x_cg I c u v) ∧ I 697 4 < 12) := fun z => by
      obtain ⟨⟨z1, z2, z3, z4, z5⟩, z6⟩ := z
      omega
    refine g_iconst hc dX13_clue_58 ?_
    refine g_iret hc hm dX13_clue_59 ?_
    refine ⟨x_end ?_ hfI3 hmI3.g hR, ?_⟩
    · by_cases z : (x_cg I c u v)
      · rw [if_pos z, if_pos (by by_cases y : I 697 4 < 12; exact absurd ⟨z, y⟩ hst; omega)]
      · rw [if_neg z]
    · by_cases z : (x_cg I c u v)
      · rw [if_pos z, g_adc, if_pos (by by_cases y : I 697 4 < 12; exact absurd ⟨z, y⟩ hst; omega)]; exact hmI3
      · rw [if_neg z]; exact hmI3
  · skip
    refine g_iload_n hc dX13_clue_13 rfl ?_
    refine g_i2l hc dX13_clue_14 (by first | exact hI _ _ | exact hxI2 _ _ | exact hIa _ _ | exact hIb _ _ | exact g_b32 | exact g_and32 | assumption | exact ⟨by omega, by omega⟩) ?_
    refine g_lconst hc dX13_clue_15 0 (by decide +kernel) ?_
    refine g_ldc2 (k := 5) hc dX13_clue_16 _ lc_X13_327 (by decide +kernel) ?_
    refine g_S3r hc (c_X13_isIn w (by first | exact hI _ _ | exact hmM.g _ _ | exact g_b32 | exact g_and32 | exact g_or32 | exact g_shl32 | assumption | exact ⟨by omega, by omega⟩) (by first | exact hI _ _ | exact hmM.g _ _ | exact g_b32 | exact g_and32 | exact g_or32 | exact g_shl32 | assumption | exact ⟨by omega, by omega⟩) (by first | exact hI _ _ | exact hmM.g _ _ | exact g_b32 | exact g_and32 | exact g_or32 | exact g_shl32 | assumption | exact ⟨by omega, by omega⟩)) my_X13_isIn ms_X13_isIn lm_X13_231 rfl (by decide) (Nat.le_of_ble_eq_true rfl) hm dX13_clue_19 ?_
    refine g_ifb_eq (tgt := 58) hc dX13_clue_22 (by decide)  (fun c2 => ?_) (fun c2 => ?_)
    · skip
      have hst : ¬ ((x_cg I c u v) ∧ I 697 4 < 12) := fun z => by
        obtain ⟨⟨z1, z2, z3, z4, z5⟩, z6⟩ := z
        omega
      refine g_iconst hc dX13_clue_58 ?_
      refine g_iret hc hm dX13_clue_59 ?_
      refine ⟨x_end ?_ hfI3 hmI3.g hR, ?_⟩
      · by_cases z : (x_cg I c u v)
        · rw [if_pos z, if_pos (by by_cases y : I 697 4 < 12; exact absurd ⟨z, y⟩ hst; omega)]
        · rw [if_neg z]
      · by_cases z : (x_cg I c u v)
        · rw [if_pos z, g_adc, if_pos (by by_cases y : I 697 4 < 12; exact absurd ⟨z, y⟩ hst; omega)]; exact hmI3
        · rw [if_neg z]; exact hmI3
    · skip
      refine g_iload_n hc dX13_clue_25 rfl ?_
      refine g_i2l hc dX13_clue_26 (by first | exact hI _ _ | exact hxI2 _ _ | exact hIa _ _ | exact hIb _ _ | exact g_b32 | exact g_and32 | assumption | exact ⟨by omega, by omega⟩) ?_
      refine g_lconst hc dX13_clue_27 0 (by decide +kernel) ?_
      refine g_ldc2 (k := 99) hc dX13_clue_28 _ lc_X13_438 (by decide +kernel) ?_
      refine g_S3r hc (c_X13_isIn w (by first | exact hI _ _ | exact hmM.g _ _ | exact g_b32 | exact g_and32 | exact g_or32 | exact g_shl32 | assumption | exact ⟨by omega, by omega⟩) (by first | exact hI _ _ | exact hmM.g _ _ | exact g_b32 | exact g_and32 | exact g_or32 | exact g_shl32 | assumption | exact ⟨by omega, by omega⟩) (by first | exact hI _ _ | exact hmM.g _ _ | exact g_b32 | exact g_and32 | exact g_or32 | exact g_shl32 | assumption | exact ⟨by omega, by omega⟩)) my_X13_isIn ms_X13_isIn lm_X13_231 rfl (by decide) (Nat.le_of_ble_eq_true rfl) hm dX13_clue_31 ?_
      refine g_ifb_eq (tgt := 58) hc dX13_clue_34 (by decide)  (fun c3 => ?_) (fun c3 => ?_)
      · skip
        have hst : ¬ ((x_cg I c u v) ∧ I 697 4 < 12) := fun z => by
          obtain ⟨⟨z1, z2, z3, z4, z5⟩, z6⟩ := z
          omega
        refine g_iconst hc dX13_clue_58 ?_
        refine g_iret hc hm dX13_clue_59 ?_
        refine ⟨x_end ?_ hfI3 hmI3.g hR, ?_⟩
        · by_cases z : (x_cg I c u v)
          · rw [if_pos z, if_pos (by by_cases y : I 697 4 < 12; exact absurd ⟨z, y⟩ hst; omega)]
          · rw [if_neg z]
        · by_cases z : (x_cg I c u v)
          · rw [if_pos z, g_adc, if_pos (by by_cases y : I 697 4 < 12; exact absurd ⟨z, y⟩ hst; omega)]; exact hmI3
          · rw [if_neg z]; exact hmI3
      · skip
        refine g_iload_n hc dX13_clue_37 rfl ?_
        refine g_i2l hc dX13_clue_38 (by first | exact hI _ _ | exact hxI2 _ _ | exact hIa _ _ | exact hIb _ _ | exact g_b32 | exact g_and32 | assumption | exact ⟨by omega, by omega⟩) ?_
        refine g_lconst hc dX13_clue_39 0 (by decide +kernel) ?_
        refine g_ldc2 (k := 99) hc dX13_clue_40 _ lc_X13_438 (by decide +kernel) ?_
        refine g_S3r hc (c_X13_isIn w (by first | exact hI _ _ | exact hmM.g _ _ | exact g_b32 | exact g_and32 | exact g_or32 | exact g_shl32 | assumption | exact ⟨by omega, by omega⟩) (by first | exact hI _ _ | exact hmM.g _ _ | exact g_b32 | exact g_and32 | exact g_or32 | exact g_shl32 | assumption | exact ⟨by omega, by omega⟩) (by first | exact hI _ _ | exact hmM.g _ _ | exact g_b32 | exact g_and32 | exact g_or32 | exact g_shl32 | assumption | exact ⟨by omega, by omega⟩)) my_X13_isIn ms_X13_isIn lm_X13_231 rfl (by decide) (Nat.le_of_ble_eq_true rfl) hm dX13_clue_43 ?_
        refine g_ifb_eq (tgt := 58) hc dX13_clue_46 (by decide)  (fun c4 => ?_) (fun c4 => ?_)
        · skip
          have hst : ¬ ((x_cg I c u v) ∧ I 697 4 < 12) := fun z => by
            obtain ⟨⟨z1, z2, z3, z4, z5⟩, z6⟩ := z
            omega
          refine g_iconst hc dX13_clue_58 ?_
          refine g_iret hc hm dX13_clue_59 ?_
          refine ⟨x_end ?_ hfI3 hmI3.g hR, ?_⟩
          · by_cases z : (x_cg I c u v)
            · rw [if_pos z, if_pos (by by_cases y : I 697 4 < 12; exact absurd ⟨z, y⟩ hst; omega)]
            · rw [if_neg z]
          · by_cases z : (x_cg I c u v)
            · rw [if_pos z, g_adc, if_pos (by by_cases y : I 697 4 < 12; exact absurd ⟨z, y⟩ hst; omega)]; exact hmI3
            · rw [if_neg z]; exact hmI3
        · skip
          refine g_aldn hc dX13_clue_49 rfl ?_
          refine g_getIe hc lk_X13_295 ca_703 38 rfl (show I3 703 38 = I 697 4 from hc3) dX13_clue_50 ?_
          refine g_bipush hc dX13_clue_53 (by decide +kernel) ?_
          refine g_icmp_ne (tgt := 60) hc dX13_clue_55 (by decide) (by first | exact hI _ _ | exact hxI2 _ _ | exact hIa _ _ | exact hIb _ _ | exact g_b32 | exact g_and32 | assumption | exact ⟨by omega, by omega⟩) (by first | exact hI _ _ | exact hxI2 _ _ | exact hIa _ _ | exact hIb _ _ | exact g_b32 | exact g_and32 | assumption | exact ⟨by omega, by omega⟩) (fun c5 => ?_) (fun c5 => ?_)
          · skip
            have hpg : (x_cg I c u v) := ⟨by omega, by omega, by omega, by omega⟩
            have hlt : I 697 4 < 12 := by omega
            refine g_aldn hc dX13_clue_60 rfl ?_
            refine g_getRk hc lk_X13_81 ca_703 (rc_703_35 hR) dX13_clue_61 ?_
            refine g_aldn hc dX13_clue_64 rfl ?_
            refine g_getIe hc lk_X13_295 ca_703 38 rfl (show I3 703 38 = I 697 4 from hc3) dX13_clue_65 ?_
            refine g_iload_n hc dX13_clue_68 rfl ?_
            refine g_iast' hc ca_721 (by decide) (by omega) (by omega)  dX13_clue_69 (fun I4 hI4 => ?_)
            have hgI4 : ∀ (a : Nat) (c : Int), g32 (I4 a c) := by rw [hI4]; exact x_up32 hgI3 (g1)
            have hfI4 : ∀ (a : Nat) (c : Int), ¬ x_b7 a c → I4 a c = M a c := fun a c hk => by rw [hI4]; exact (g_up_n (by unfold x_b7 at hk; omega)).trans (hfI3 a c hk)
            have l1 : ∀ t : Int, I4 721 t = if t = I 697 4 then c else M 721 t := fun t => by
              rw [hI4]
              by_cases e : t = I 697 4
              · rw [e, g_up_s, if_pos rfl]
              · rw [g_up_i e, if_neg e]; exact k1 t
            have hc4 : I4 703 38 = I 697 4 := by rw [hI4, g_up_k (by decide)]; exact hc3
            have k5 : ∀ t : Int, I4 722 t = M 722 t := fun t => by rw [hI4, g_up_k (by decide)]; exact k2 t
            have k6 : ∀ t : Int, I4 723 t = M 723 t := fun t => by rw [hI4, g_up_k (by decide)]; exact k3 t
            refine g_aldn hc dX13_clue_70 rfl ?_
            refine g_getRk hc lk_X13_84 ca_703 (rc_703_36 hR) dX13_clue_71 ?_
            refine g_aldn hc dX13_clue_74 rfl ?_
            refine g_getIe hc lk_X13_295 ca_703 38 rfl (show I4 703 38 = I 697 4 from hc4) dX13_clue_75 ?_
            refine g_iload_n hc dX13_clue_78 rfl ?_
            refine g_iast' hc ca_722 (by decide) (by omega) (by omega)  dX13_clue_79 (fun I5 hI5 => ?_)
            have hgI5 : ∀ (a : Nat) (c : Int), g32 (I5 a c) := by rw [hI5]; exact x_up32 hgI4 (g2)
            have hfI5 : ∀ (a : Nat) (c : Int), ¬ x_b7 a c → I5 a c = M a c := fun a c hk => by rw [hI5]; exact (g_up_n (by unfold x_b7 at hk; omega)).trans (hfI4 a c hk)
            have l2 : ∀ t : Int, I5 722 t = if t = I 697 4 then u else M 722 t := fun t => by
              rw [hI5]
              by_cases e : t = I 697 4
              · rw [e, g_up_s, if_pos rfl]
              · rw [g_up_i e, if_neg e]; exact k5 t
            have hc5 : I5 703 38 = I 697 4 := by rw [hI5, g_up_k (by decide)]; exact hc4
            have l3 : ∀ t : Int, I5 721 t = if t = I 697 4 then c else M 721 t := fun t => by rw [hI5, g_up_k (by decide)]; exact l1 t
            have k7 : ∀ t : Int, I5 723 t = M 723 t := fun t => by rw [hI5, g_up_k (by decide)]; exact k6 t
            refine g_aldn hc dX13_clue_80 rfl ?_
            refine g_getRk hc lk_X13_87 ca_703 (rc_703_37 hR) dX13_clue_81 ?_
            refine g_aldn hc dX13_clue_84 rfl ?_
            refine g_getIe hc lk_X13_295 ca_703 38 rfl (show I5 703 38 = I 697 4 from hc5) dX13_clue_85 ?_
            refine g_iload_n hc dX13_clue_88 rfl ?_
            refine g_iast' hc ca_723 (by decide) (by omega) (by omega)  dX13_clue_89 (fun I6 hI6 => ?_)
            have hgI6 : ∀ (a : Nat) (c : Int), g32 (I6 a c) := by rw [hI6]; exact x_up32 hgI5 (g3)
            have hfI6 : ∀ (a : Nat) (c : Int), ¬ x_b7 a c → I6 a c = M a c := fun a c hk => by rw [hI6]; exact (g_up_n (by unfold x_b7 at hk; omega)).trans (hfI5 a c hk)
            have l4 : ∀ t : Int, I6 723 t = if t = I 697 4 then v else M 723 t := fun t => by
              rw [hI6]
              by_cases e : t = I 697 4
              · rw [e, g_up_s, if_pos rfl]
              · rw [g_up_i e, if_neg e]; exact k7 t
            have hc6 : I6 703 38 = I 697 4 := by rw [hI6, g_up_k (by decide)]; exact hc5
            have l5 : ∀ t : Int, I6 721 t = if t = I 697 4 then c else M 721 t := fun t => by rw [hI6, g_up_k (by decide)]; exact l3 t
            have l6 : ∀ t : Int, I6 722 t = if t = I 697 4 then u else M 722 t := fun t => by rw [hI6, g_up_k (by decide)]; exact l2 t
            refine g_aldn hc dX13_clue_90 rfl ?_
            refine g_dup hc dX13_clue_91 rfl ?_
            refine g_getIe hc lk_X13_295 ca_703 38 rfl (show I6 703 38 = I 697 4 from hc6) dX13_clue_92 ?_
            refine g_iconst hc dX13_clue_95 ?_
            refine g_iadd hc dX13_clue_96 ?_
            refine g_putI' hc lk_X13_295 ca_703 38 rfl dX13_clue_97 (fun I7 hI7 => ?_)
            have hgI7 : ∀ (a : Nat) (c : Int), g32 (I7 a c) := by rw [hI7]; exact x_up32 hgI6 (show g32 _ from ⟨by omega, by omega⟩)
            have hfI7 : ∀ (a : Nat) (c : Int), ¬ x_b7 a c → I7 a c = M a c := fun a c hk => by rw [hI7]; exact (g_up_n (by unfold x_b7 at hk; omega)).trans (hfI6 a c hk)
            have hq : q_rel (g_adc I c u v) lb I7 := q_adc hmM hpg hlt (by rw [hI7, g_up_s]) (fun t => by rw [hI7, g_up_k (by decide)]; exact l5 t) (fun t => by rw [hI7, g_up_k (by decide)]; exact l6 t) (fun t => by rw [hI7, g_up_k (by decide)]; exact l4 t) hgI7 hfI7
            refine g_aldn hc dX13_clue_100 rfl ?_
            refine g_getIe hc lk_X13_295 ca_703 38 rfl (show I7 703 38 = I 697 4 + 1 from by rw [hI7, g_up_s]) dX13_clue_101 ?_
            refine g_iret hc hm dX13_clue_104 ?_
            exact ⟨x_end (by rw [if_pos hpg, if_neg (by omega)]) hfI7 hgI7 hR, by rw [if_pos hpg]; exact hq⟩
          · skip
            have hst : ¬ ((x_cg I c u v) ∧ I 697 4 < 12) := fun z => by
              obtain ⟨⟨z1, z2, z3, z4, z5⟩, z6⟩ := z
              omega
            refine g_iconst hc dX13_clue_58 ?_
            refine g_iret hc hm dX13_clue_59 ?_
            refine ⟨x_end ?_ hfI3 hmI3.g hR, ?_⟩
            · by_cases z : (x_cg I c u v)
              · rw [if_pos z, if_pos (by by_cases y : I 697 4 < 12; exact absurd ⟨z, y⟩ hst; omega)]
              · rw [if_neg z]
            · by_cases z : (x_cg I c u v)
              · rw [if_pos z, g_adc, if_pos (by by_cases y : I 697 4 < 12; exact absurd ⟨z, y⟩ hst; omega)]; exact hmI3
              · rw [if_neg z]; exact hmI3
theorem x_ptb {I : g_I} {s : Int} : g_ptb I s 701 2 = I 701 2 + 1 ∧ (∀ t : Int, g_ptb I s 702 t = if t = I 701 2 then s else I 702 t) ∧ (∀ k : Nat, k ≠ 701 → k ≠ 702 → g_ptb I s k = I k) := by
  refine ⟨by rw [g_ptb, g_up_s], fun t => ?_, fun k a c => by funext j; rw [g_ptb, g_up_k a, g_up_k c]⟩
  rw [g_ptb, g_up_k (by decide)]
  by_cases z : t = I 701 2
  · rw [if_pos z, z, g_up_s]
  · rw [if_neg z, g_up_i z]
set_option maxHeartbeats 4000000 in
set_option maxRecDepth 100000 in
/-- X13_birthday -/
theorem c_X13_birthday (w : g_W) {I : g_I} {J : g_J} {R : g_R} {lb tx : Nat} (hR : g_rf w R lb tx) {M : g_I} (hmM : q_rel I lb M) {sd : Int} (hB : q_brt I M) : g_Met w g_n M J R yX13_birthday cX13_birthday 3 (some .int) 38 0 0 [(gvr w 703), (gvL sd)] (fun rr nn II JJ RR => x_rel w (some (gvI (if (0 ≤ I 0 12 ∧ I 701 2 < 60) then (g_dsf I lb sd).1 else -1))) x_b2 M JJ lb rr nn II JJ RR ∧ (∀ k : Nat, k ≠ 703 → JJ k = J k) ∧ q_brt (if (0 ≤ I 0 12 ∧ I 701 2 < 60) then g_ptb I (g_dsf I lb sd).1 else I) II) := by
  refine g_intro (own := RX13) [some (gvr w 703), some (gvL sd), none] (by decide +kernel) rfl (by decide) (Nat.le_of_ble_eq_true rfl) rfl (fun i v hv => g_args 0 i v hv rfl) (fun x hc hm => ?_)
  have hfM : ∀ (k : Nat) (j : Int), ¬ x_b2 k j → M k j = M k j := fun _ _ _ => rfl
  have hI := hmM.gi
  have hTb := q_b1 hmM
  have hLv := hmM.lv
  have hC := hmM.cin
  have hL := hC.1
  obtain ⟨hn0, hn1, hLs, hLf⟩ := id hL
  obtain ⟨-, hC1, hC2, hC3, hC4, hC5, hC6, hC7⟩ := id hC
  obtain ⟨hB1, hB2, hB3⟩ := id hB
  refine g_aldn hc dX13_birthday_0 rfl ?_
  refine g_iconst hc dX13_birthday_1 ?_
  refine g_putI' hc lk_X13_102 ca_703 0 rfl dX13_birthday_2 (fun I3 hI3 => ?_)
  have hmI3 : q_rel I lb I3 := by rw [hI3]; exact q_upb hmM (by unfold x_b; omega) (by first | exact hI _ _ | exact hmM.g _ _ | exact g_b32 | exact g_and32 | exact g_or32 | exact g_shl32 | assumption | exact ⟨by omega, by omega⟩)
  have hfI3 : ∀ (k : Nat) (j : Int), ¬ x_b2 k j → I3 k j = M k j := fun k j hk => by rw [hI3]; exact (g_up_n (by unfold x_b2 at hk; omega)).trans (hfM k j hk)
  refine g_aldn hc dX13_birthday_5 rfl ?_
  refine g_getIe hc lk_X13_52 ca_703 24 rfl (show I3 703 24 = I 0 12 from hmI3.tab) dX13_birthday_6 ?_
  refine g_iconst hc dX13_birthday_9 ?_
  refine g_icmp_eq (tgt := 22) hc dX13_birthday_10 (by decide) (by first | exact hI _ _ | exact hxI2 _ _ | exact hIa _ _ | exact hIb _ _ | exact g_b32 | exact g_and32 | assumption | exact ⟨by omega, by omega⟩) (by first | exact hI _ _ | exact hxI2 _ _ | exact hIa _ _ | exact hIb _ _ | exact g_b32 | exact g_and32 | assumption | exact ⟨by omega, by omega⟩) (fun c1 => ?_) (fun c1 => ?_)
  · skip
    refine g_iconst hc dX13_birthday_22 ?_
    refine g_iret hc hm dX13_birthday_23 ?_
    exact ⟨x_end (by rw [if_neg (by omega)]) hfI3 hmI3.g hR, fun _ _ => rfl, by rw [if_neg (by omega)]; exact ⟨by rw [hI3, g_up_n (by omega)]; exact hB1, hB2, fun i a c => by rw [hI3, g_up_n (by omega)]; exact hB3 i a c⟩⟩
  · skip
    refine g_aldn hc dX13_birthday_13 rfl ?_
    refine g_getIe hc lk_X13_298 ca_703 41 rfl (show I3 703 41 = I 701 2 from by rw [hI3, g_up_n (by omega)]; exact hB1) dX13_birthday_14 ?_
    refine g_bipush hc dX13_birthday_17 (by decide +kernel) ?_
    refine g_icmp_ne (tgt := 24) hc dX13_birthday_19 (by decide) (by first | exact hI _ _ | exact hxI2 _ _ | exact hIa _ _ | exact hIb _ _ | exact g_b32 | exact g_and32 | assumption | exact ⟨by omega, by omega⟩) (by first | exact hI _ _ | exact hxI2 _ _ | exact hIa _ _ | exact hIb _ _ | exact g_b32 | exact g_and32 | assumption | exact ⟨by omega, by omega⟩) (fun c2 => ?_) (fun c2 => ?_)
    · skip
      have hlt : I 701 2 < 60 := by omega
      refine g_aldn hc dX13_birthday_24 rfl ?_
      refine g_lload_n hc dX13_birthday_25 rfl ?_
      obtain ⟨J5, hJ5⟩ : ∃ J5, J5 = g_upJ J 703 sd := ⟨_, rfl⟩
      refine g_putLe (J2 := J5) hc lk_X13_454 ca_703 g_kd13 hJ5.symm dX13_birthday_26 ?_
      have hJ1 : J5 703 = sd := by rw [hJ5]; exact if_pos rfl
      have hJ2 : ∀ k : Nat, k ≠ 703 → J5 k = J k := fun k hk => by rw [hJ5]; exact if_neg hk
      refine g_aldn hc dX13_birthday_29 rfl ?_
      refine g_getRk hc lk_X13_93 ca_703 (rc_703_40 hR) dX13_birthday_30 ?_
      refine g_aldn hc dX13_birthday_33 rfl ?_
      refine g_getIe hc lk_X13_298 ca_703 41 rfl (show I3 703 41 = I 701 2 from by rw [hI3, g_up_n (by omega)]; exact hB1) dX13_birthday_34 ?_
      refine g_aldn hc dX13_birthday_37 rfl ?_
      refine g_V0 hc (c_X13_goBirth w hR hmI3 (by omega)) my_X13_goBirth mv_X13_goBirth ca_703 rfl rfl lm_X13_469 rfl (by decide) (Nat.le_of_ble_eq_true rfl) hm dX13_birthday_38 (fun r6 n6 I6 J6 R6 hp6 => ?_)
      obtain ⟨⟨rfl, rfl, hK6, hX6, -, t6, hR⟩, hJ6, hQ6⟩ := hp6
      have hmI6 : q_rel I lb I6 := q_cgb (fun k j hk => hK6 k j (fun z => hk (by unfold x_t at z; unfold x_b; omega))) hX6 hmI3
      have hfI6 : ∀ (k : Nat) (j : Int), ¬ x_b2 k j → I6 k j = M k j := fun k j hk => (hK6 k j (fun z => hk (by unfold x_t at z; unfold x_b2; omega))).trans (hfI3 k j hk)
      have hQ9 := hQ6
      have hb9 : I6 703 41 = I 701 2 := (hK6 703 41 (by unfold x_t; omega)).trans (by rw [hI3, g_up_n (by omega)]; exact hB1)
      have hb8 : ∀ t : Int, I6 725 t = M 725 t := fun t => (hK6 725 t (by unfold x_t; omega)).trans (by rw [hI3, g_up_k (by decide)])
      rw [show (g_dsf I lb (J5 703)).1 = (g_dsf I lb sd).1 from by rw [hJ1]]
      refine g_iast' hc ca_725 (by decide) (by omega) (by omega)  dX13_birthday_41 (fun I7 hI7 => ?_)
      have hmI7 : q_rel I lb I7 := by rw [hI7]; exact q_upb hmI6 (by unfold x_b; omega) (by have := g_dsf_in (x := sd) hL; exact ⟨by omega, by omega⟩)
      have hfI7 : ∀ (k : Nat) (j : Int), ¬ x_b2 k j → I7 k j = M k j := fun k j hk => by rw [hI7]; exact (g_up_n (by unfold x_b2 at hk; omega)).trans (hfI6 k j hk)
      have hv9 : I7 725 (I 701 2) = (g_dsf I lb sd).1 := by rw [hI7, g_up_s]
      have hv8 : ∀ t : Int, t ≠ I 701 2 → I7 725 t = M 725 t := fun t e => by rw [hI7, g_up_i e]; exact hb8 t
      refine g_aldn hc dX13_birthday_42 rfl ?_
      refine g_dup hc dX13_birthday_43 rfl ?_
      refine g_getIe hc lk_X13_298 ca_703 41 rfl (show I7 703 41 = I 701 2 from by rw [hI7, g_up_k (by decide)]; exact hb9) dX13_birthday_44 ?_
      refine g_iconst hc dX13_birthday_47 ?_
      refine g_iadd hc dX13_birthday_48 ?_
      refine g_putI' hc lk_X13_298 ca_703 41 rfl dX13_birthday_49 (fun I8 hI8 => ?_)
      have hmI8 : q_rel I lb I8 := by rw [hI8]; exact q_upb hmI7 (by unfold x_b; omega) (by first | exact hI _ _ | exact hmM.g _ _ | exact g_b32 | exact g_and32 | exact g_or32 | exact g_shl32 | assumption | exact ⟨by omega, by omega⟩)
      have hfI8 : ∀ (k : Nat) (j : Int), ¬ x_b2 k j → I8 k j = M k j := fun k j hk => by rw [hI8]; exact (g_up_n (by unfold x_b2 at hk; omega)).trans (hfI7 k j hk)
      refine g_aldn hc dX13_birthday_52 rfl ?_
      refine g_getRk hc lk_X13_93 ca_703 (rc_703_40 hR) dX13_birthday_53 ?_
      refine g_aldn hc dX13_birthday_56 rfl ?_
      refine g_getIe hc lk_X13_298 ca_703 41 rfl (show I8 703 41 = I 701 2 + 1 from by rw [hI8, g_up_s]) dX13_birthday_57 ?_
      refine g_iconst hc dX13_birthday_60 ?_
      refine g_isub hc dX13_birthday_61 ?_
      refine g_ialde hc ca_725 (by decide) (by omega) (by omega) (show I8 725 ((I 701 2 + 1) - 1) = (g_dsf I lb sd).1 from by rw [show I 701 2 + 1 - 1 = I 701 2 by omega, hI8, g_up_k (by decide)]; exact hv9) dX13_birthday_62 ?_
      refine g_iret hc hm dX13_birthday_63 ?_
      obtain ⟨p1, p2, p3⟩ := @x_ptb I (g_dsf I lb sd).1
      exact ⟨x_end (by rw [if_pos (by omega)]) hfI8 hmI8.g hR, fun k hk => (hQ9 k hk).trans (hJ2 k hk), by
        rw [if_pos (by omega)]
        refine ⟨by rw [p1, hI8, g_up_s], by omega, fun i a c => ?_⟩
        rw [p1] at c
        rw [p2, hI8, g_up_k (by decide)]
        by_cases e : i = I 701 2
        · rw [if_pos e, e]; exact hv9
        · rw [if_neg e, hv8 i e]; exact hB3 i a (by omega)⟩
    · skip
      refine g_iconst hc dX13_birthday_22 ?_
      refine g_iret hc hm dX13_birthday_23 ?_
      exact ⟨x_end (by rw [if_neg (by omega)]) hfI3 hmI3.g hR, fun _ _ => rfl, by rw [if_neg (by omega)]; exact ⟨by rw [hI3, g_up_n (by omega)]; exact hB1, hB2, fun i a c => by rw [hI3, g_up_n (by omega)]; exact hB3 i a c⟩⟩
