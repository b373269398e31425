set_option maxHeartbeats 4000000 in
set_option maxRecDepth 100000 in
/-- X13_telling -/
theorem c_X13_telling (w : g_W) {I : g_I} {J : g_J} {R : g_R} {lb tx : Nat} (hR : g_rf w R lb tx) {M : g_I} (hmM : q_rel I lb M) {s : Int} (g1 : g32 s) : g_Met w g_n M J R yX13_telling cX13_telling 7 (some .int) 4 0 0 [(gvr w 703), (gvI s)] (x_rel w (some (gvI (if (0 ≤ s ∧ s < I lb 0) ∧ g_thr I lb s = true then g_tel I lb s else -1))) x_a M J lb) := by
  refine g_intro (own := RX13) [some (gvr w 703), some (gvI s), none, none, none, none, none] (by decide +kernel) rfl (by decide) (Nat.le_of_ble_eq_true rfl) rfl (fun i v hv => g_args 5 i v hv rfl) (fun x hc hm => ?_)
  have hfM : ∀ (k : Nat) (j : Int), ¬ x_a k j → M k j = M k j := fun _ _ _ => rfl
  have hI := hmM.gi
  have hTb := q_b1 hmM
  have hLv := hmM.lv
  have hC := hmM.cin
  have hL := hC.1
  obtain ⟨hn0, hn1, hLs, hLf⟩ := id hL
  obtain ⟨-, hC1, hC2, hC3, hC4, hC5, hC6, hC7⟩ := id hC
  have hN0 := q_n0 hmM
  refine g_aldn hc dX13_telling_0 rfl ?_
  refine g_iconst hc dX13_telling_1 ?_
  refine g_putI' hc lk_X13_102 ca_703 0 rfl dX13_telling_2 (fun I3 hI3 => ?_)
  have hmI3 : q_rel I lb I3 := by rw [hI3]; exact q_up hmM (by unfold x_a; omega) (by first | exact hI _ _ | exact hmM.g _ _ | exact g_b32 | exact g_and32 | exact g_or32 | exact g_shl32 | assumption | exact ⟨by omega, by omega⟩)
  have hfI3 : ∀ (k : Nat) (j : Int), ¬ x_a k j → I3 k j = M k j := fun k j hk => by rw [hI3]; exact (g_up_n (by unfold x_a at hk; omega)).trans (hfM k j hk)
  refine g_aldn hc dX13_telling_5 rfl ?_
  refine g_iload_n hc dX13_telling_6 rfl ?_
  refine g_V1r hc (c_X13_isSelf w hR hmI3 (by first | exact hI _ _ | exact hmM.g _ _ | exact g_b32 | exact g_and32 | exact g_or32 | exact g_shl32 | assumption | exact ⟨by omega, by omega⟩)) my_X13_isSelf mv_X13_isSelf ca_703 rfl rfl lm_X13_313 rfl (by decide) (Nat.le_of_ble_eq_true rfl) hm dX13_telling_7 ?_
  refine g_ifb_eq (tgt := 21) hc dX13_telling_10 (by decide)  (fun c1 => ?_) (fun c1 => ?_)
  · skip
    have hng : ¬ ((0 ≤ s ∧ s < I lb 0) ∧ g_thr I lb s = true) := fun z => by omega
    refine g_iconst hc dX13_telling_21 ?_
    refine g_iret hc hm dX13_telling_22 ?_
    exact x_end (by rw [if_neg hng]) hfI3 hmI3.g hR
  · skip
    have h1 : 0 ≤ s ∧ s < I lb 0 := c1
    have hTs := q_ts hmM (by omega)
    refine g_aldn hc dX13_telling_13 rfl ?_
    refine g_iload_n hc dX13_telling_14 rfl ?_
    refine g_V1 hc (c_X13_isThere w hR hmI3 (by omega)) my_X13_isThere mv_X13_isThere ca_703 rfl rfl lm_X13_324 rfl (by decide) (Nat.le_of_ble_eq_true rfl) hm dX13_telling_15 (fun r4 n4 I4 J4 R4 hp4 => ?_)
    obtain ⟨rfl, rfl, hK4, hX4, rfl, t4, hR⟩ := hp4
    have hmI4 : q_rel I lb I4 := q_cg (fun k j hk => hK4 k j (fun z => hk (x_wa z))) hX4 hmI3
    have hfI4 : ∀ (k : Nat) (j : Int), ¬ x_a k j → I4 k j = M k j := fun k j hk => (hK4 k j (fun z => hk (x_wa z))).trans (hfI3 k j hk)
    refine g_ifb_ne (tgt := 23) hc dX13_telling_18 (by decide)  (fun c2 => ?_) (fun c2 => ?_)
    · skip
      have hpg : ((0 ≤ s ∧ s < I lb 0) ∧ g_thr I lb s = true) := ⟨h1, c2⟩
      refine g_aldn hc dX13_telling_23 rfl ?_
      refine g_V0 hc (c_X13_layFacts w hR hmI4 (by omega)) my_X13_layFacts mv_X13_layFacts ca_703 rfl rfl lm_X13_433 rfl (by decide) (Nat.le_of_ble_eq_true rfl) hm dX13_telling_24 (fun r5 n5 I5 J5 R5 hp5 => ?_)
      obtain ⟨⟨rfl, rfl, hK5, hX5, rfl, t5, hR⟩, hl5⟩ := hp5
      have hmI5 : q_rel I lb I5 := q_cg hK5 hX5 hmI4
      have hfI5 : ∀ (k : Nat) (j : Int), ¬ x_a k j → I5 k j = M k j := fun k j hk => (hK5 k j hk).trans (hfI4 k j hk)
      have hr9 := hl5
      refine g_aldn hc dX13_telling_27 rfl ?_
      refine g_V0 hc (c_X13_thereBits w hR hmI5 (by omega)) my_X13_thereBits mv_X13_thereBits ca_703 rfl rfl lm_X13_410 rfl (by decide) (Nat.le_of_ble_eq_true rfl) hm dX13_telling_28 (fun r6 n6 I6 J6 R6 hp6 => ?_)
      obtain ⟨rfl, rfl, hK6, hX6, rfl, t6, hR⟩ := hp6
      have hmI6 : q_rel I lb I6 := q_cg (fun k j hk => hK6 k j (fun z => hk (x_wa z))) hX6 hmI5
      have hfI6 : ∀ (k : Nat) (j : Int), ¬ x_a k j → I6 k j = M k j := fun k j hk => (hK6 k j (fun z => hk (x_wa z))).trans (hfI5 k j hk)
      have hr8 : (∀ t : Int, 0 ≤ t → t < I lb 0 → I6 720 t = g_fct I lb t) := fun t a c => (hK6 720 t (by unfold x_w; omega)).trans (hr9 t a c)
      refine g_istore_2 hc dX13_telling_31 rfl ?_
      refine g_iconst hc dX13_telling_32 ?_
      refine g_istore_3 hc dX13_telling_33 rfl ?_
      refine g_iconst hc dX13_telling_34 ?_
      refine g_istore_4 hc dX13_telling_35 rfl ?_
      have lp_37 : ∀ (fu : Nat) (e i : Int), 0 ≤ i ∧ i ≤ 1024 → x_fw (fun set => g_tls I lb s (g_and (g_thb I lb) (g_xor (g_shl 1 s) (-1))) set) i e → (-1 ≤ e ∧ e < 1024) → 1024 - i < (fu : Int) → G w x (x_rel w (some (gvI (if (0 ≤ s ∧ s < I lb 0) ∧ g_thr I lb s = true then g_tel I lb s else -1))) x_a M J lb) 0 0 g_n I6 J R6 37 [some (gvr w 703), some (gvI s), some (gvI (g_thb I lb)), some (gvI e), some (gvI i), none, none] [] := by
        intro fu
        induction fu with
        | zero => intro e i h3 h4 h7 hfu; exfalso; omega
        | succ fu ih =>
          intro e i h3 h4 h7 hfu
          have ih_37 := ih
          refine g_iload hc dX13_telling_37 rfl ?_
          refine g_sipush hc dX13_telling_39 (by decide +kernel) ?_
          refine g_icmp_ge (tgt := 152) hc dX13_telling_42 (by decide) (by first | exact hI _ _ | exact hxI2 _ _ | exact hIa _ _ | exact hIb _ _ | exact g_b32 | exact g_and32 | assumption | exact ⟨by omega, by omega⟩) (by first | exact hI _ _ | exact hxI2 _ _ | exact hIa _ _ | exact hIb _ _ | exact g_b32 | exact g_and32 | assumption | exact ⟨by omega, by omega⟩) (fun c3 => ?_) (fun c3 => ?_)
          · skip
            refine g_iload_n hc dX13_telling_152 rfl ?_
            refine g_iret hc hm dX13_telling_153 ?_
            have hfi := (show x_fw (fun set => g_tls I lb s (g_and (g_thb I lb) (g_xor (g_shl 1 s) (-1))) set) 1024 e from (show i = 1024 by omega) ▸ h4).fin (fun j _ _ => x_tls_m hL h1)
            exact x_end (by rw [if_pos hpg, g_tel, hfi]; by_cases y : g_twn I lb s = 0; (rw [if_pos ((x_twn hL h1).mp y), if_neg (fun z => z y)]); (rw [if_neg (fun z => y ((x_twn hL h1).mpr z)), if_pos y])) hfI6 hmI6.g hR
          · skip
            refine g_iload_n hc dX13_telling_45 rfl ?_
            refine g_iconst hc dX13_telling_46 ?_
            refine g_icmp_eq (tgt := 65) hc dX13_telling_47 (by decide) (by first | exact hI _ _ | exact hxI2 _ _ | exact hIa _ _ | exact hIb _ _ | exact g_b32 | exact g_and32 | assumption | exact ⟨by omega, by omega⟩) (by first | exact hI _ _ | exact hxI2 _ _ | exact hIa _ _ | exact hIb _ _ | exact g_b32 | exact g_and32 | assumption | exact ⟨by omega, by omega⟩) (fun c4 => ?_) (fun c4 => ?_)
            · skip
              have hcc : e = -1 ∨ g_bc i < g_bc e := Or.inl c4
              refine g_iconst hc dX13_telling_65 ?_
              refine g_istore_5 hc dX13_telling_66 rfl ?_
              refine g_iconst hc dX13_telling_68 ?_
              refine g_istore_6 hc dX13_telling_69 rfl ?_
              have lp_71 : ∀ (fu : Nat) (ok u : Int), 0 ≤ u ∧ u ≤ I lb 0 → (ok = 1 ∧ g_tls I lb s (g_and (g_thb I lb) (g_xor (g_shl 1 s) (-1))) i = g_all (fun t => decide (¬ (g_bit (g_and (g_thb I lb) (g_xor (g_shl 1 s) (-1))) t ∧ g_and (g_xor (g_fct I lb t) (g_fct I lb s)) i = 0))) (I lb 0 - u).toNat u ∨ ok = 0 ∧ g_tls I lb s (g_and (g_thb I lb) (g_xor (g_shl 1 s) (-1))) i = false) → I lb 0 - u < (fu : Int) → G w x (x_rel w (some (gvI (if (0 ≤ s ∧ s < I lb 0) ∧ g_thr I lb s = true then g_tel I lb s else -1))) x_a M J lb) 0 0 g_n I6 J R6 71 [some (gvr w 703), some (gvI s), some (gvI (g_thb I lb)), some (gvI e), some (gvI i), some (gvI ok), some (gvI u)] [] := by
                intro fu
                induction fu with
                | zero => intro ok u k3 k6 hfu; exfalso; omega
                | succ fu ih =>
                  intro ok u k3 k6 hfu
                  have ih_71 := ih
                  refine g_iload hc dX13_telling_71 rfl ?_
                  refine g_aldn hc dX13_telling_73 rfl ?_
                  refine g_getRk hc lk_X13_46 ca_703 (rc_703_21 hR) dX13_telling_74 ?_
                  refine g_aldn hc dX13_telling_77 rfl ?_
                  refine g_getIe hc lk_X13_52 ca_703 24 rfl (show I6 703 24 = I 0 12 from hmI6.tab) dX13_telling_78 ?_
                  refine g_ialde hc ca_711 (by decide) (by omega) (by omega) (show I6 711 (I 0 12) = I lb 0 from q_lm hmI6 (by omega)) dX13_telling_81 ?_
                  refine g_icmp_ge (tgt := 138) hc dX13_telling_82 (by decide) (by first | exact hI _ _ | exact hxI2 _ _ | exact hIa _ _ | exact hIb _ _ | exact g_b32 | exact g_and32 | assumption | exact ⟨by omega, by omega⟩) (by first | exact hI _ _ | exact hxI2 _ _ | exact hIa _ _ | exact hIb _ _ | exact g_b32 | exact g_and32 | assumption | exact ⟨by omega, by omega⟩) (fun c5 => ?_) (fun c5 => ?_)
                  · skip
                    refine g_iload hc dX13_telling_138 rfl ?_
                    refine g_if_eq (tgt := 146) hc dX13_telling_140 (by decide) (by first | exact hI _ _ | exact hxI2 _ _ | exact hIa _ _ | exact hIb _ _ | exact g_b32 | exact g_and32 | assumption | exact ⟨by omega, by omega⟩) (fun c6 => ?_) (fun c6 => ?_)
                    · skip
                      have hpi : ¬ g_tls I lb s (g_and (g_thb I lb) (g_xor (g_shl 1 s) (-1))) i = true := by
                        rcases k6 with z9 | z9
                        · omega
                        · rw [z9.2]; decide
                      have hst9 : x_fw (fun set => g_tls I lb s (g_and (g_thb I lb) (g_xor (g_shl 1 s) (-1))) set) (i + 1) e := h4.no ⟨by omega, by omega⟩ (Or.inr hpi)
                      refine g_iinc_4 hc dX13_telling_146 rfl ?_
                      refine g_goto (tgt := 37) hc dX13_telling_149 (by decide) ?_
                      refine G_sub (L' := [some (gvr w 703), some (gvI s), some (gvI (g_thb I lb)), some (gvI e), some (gvI (i + 1)), none, none]) (show g_le _ _ from ⟨rfl, ⟨rfl, ⟨rfl, ⟨rfl, ⟨rfl, trivial⟩⟩⟩⟩⟩) ?_
                      refine ih_37 _ _ ?_ ?_ ?_ ?_
                      · omega
                      · exact hst9
                      · omega
                      · omega
                    · skip
                      have hpi : g_tls I lb s (g_and (g_thb I lb) (g_xor (g_shl 1 s) (-1))) i = true := by
                        rcases k6 with z9 | z9
                        · rw [z9.2, g_all_e (by omega)]
                        · omega
                      have hst9 : x_fw (fun set => g_tls I lb s (g_and (g_thb I lb) (g_xor (g_shl 1 s) (-1))) set) (i + 1) i := h4.yes ⟨by omega, by omega⟩ hcc hpi
                      refine g_iload hc dX13_telling_143 rfl ?_
                      refine g_istore_3 hc dX13_telling_145 rfl ?_
                      refine g_iinc_4 hc dX13_telling_146 rfl ?_
                      refine g_goto (tgt := 37) hc dX13_telling_149 (by decide) ?_
                      refine G_sub (L' := [some (gvr w 703), some (gvI s), some (gvI (g_thb I lb)), some (gvI i), some (gvI (i + 1)), none, none]) (show g_le _ _ from ⟨rfl, ⟨rfl, ⟨rfl, ⟨rfl, ⟨rfl, trivial⟩⟩⟩⟩⟩) ?_
                      refine ih_37 _ _ ?_ ?_ ?_ ?_
                      · omega
                      · exact hst9
                      · omega
                      · omega
                  · skip
                    refine g_iload hc dX13_telling_85 rfl ?_
                    refine g_if_eq (tgt := 129) hc dX13_telling_87 (by decide) (by first | exact hI _ _ | exact hxI2 _ _ | exact hIa _ _ | exact hIb _ _ | exact g_b32 | exact g_and32 | assumption | exact ⟨by omega, by omega⟩) (fun c7 => ?_) (fun c7 => ?_)
                    · skip
                      have hst9 : ((0 : Int) = 1 ∧ g_tls I lb s (g_and (g_thb I lb) (g_xor (g_shl 1 s) (-1))) i = g_all (fun t => decide (¬ (g_bit (g_and (g_thb I lb) (g_xor (g_shl 1 s) (-1))) t ∧ g_and (g_xor (g_fct I lb t) (g_fct I lb s)) i = 0))) (I lb 0 - (u + 1)).toNat (u + 1) ∨ (0 : Int) = 0 ∧ g_tls I lb s (g_and (g_thb I lb) (g_xor (g_shl 1 s) (-1))) i = false) := by
                        rcases k6 with z9 | z9
                        · omega
                        · exact Or.inr ⟨rfl, z9.2⟩
                      refine g_iconst hc dX13_telling_129 ?_
                      refine g_istore_5 hc dX13_telling_130 rfl ?_
                      refine g_iinc_6 hc dX13_telling_132 rfl ?_
                      refine g_goto (tgt := 71) hc dX13_telling_135 (by decide) ?_
                      refine ih_71 _ _ ?_ ?_ ?_
                      · omega
                      · exact hst9
                      · omega
                    · skip
                      have hz1 : g_tls I lb s (g_and (g_thb I lb) (g_xor (g_shl 1 s) (-1))) i = g_all (fun t => decide (¬ (g_bit (g_and (g_thb I lb) (g_xor (g_shl 1 s) (-1))) t ∧ g_and (g_xor (g_fct I lb t) (g_fct I lb s)) i = 0))) (I lb 0 - u).toNat u := by
                        rcases k6 with z9 | z9
                        · exact z9.2
                        · omega
                      refine g_iload hc dX13_telling_90 rfl ?_
                      refine g_iload_n hc dX13_telling_92 rfl ?_
                      refine g_icmp_eq (tgt := 125) hc dX13_telling_93 (by decide) (by first | exact hI _ _ | exact hxI2 _ _ | exact hIa _ _ | exact hIb _ _ | exact g_b32 | exact g_and32 | assumption | exact ⟨by omega, by omega⟩) (by first | exact hI _ _ | exact hxI2 _ _ | exact hIa _ _ | exact hIb _ _ | exact g_b32 | exact g_and32 | assumption | exact ⟨by omega, by omega⟩) (fun c8 => ?_) (fun c8 => ?_)
                      · skip
                        have hst9 : ((1 : Int) = 1 ∧ g_tls I lb s (g_and (g_thb I lb) (g_xor (g_shl 1 s) (-1))) i = g_all (fun t => decide (¬ (g_bit (g_and (g_thb I lb) (g_xor (g_shl 1 s) (-1))) t ∧ g_and (g_xor (g_fct I lb t) (g_fct I lb s)) i = 0))) (I lb 0 - (u + 1)).toNat (u + 1) ∨ (1 : Int) = 0 ∧ g_tls I lb s (g_and (g_thb I lb) (g_xor (g_shl 1 s) (-1))) i = false) := Or.inl ⟨rfl, by rw [hz1, g_all_t (by omega) (decide_eq_true (show ¬ (g_bit (g_and (g_thb I lb) (g_xor (g_shl 1 s) (-1))) u ∧ g_and (g_xor (g_fct I lb u) (g_fct I lb s)) i = 0) from fun w => ((x_oth hn0 h1 ⟨by omega, by omega⟩).mp w.1).2 c8))]⟩
                        refine g_iconst hc dX13_telling_125 ?_
                        refine g_goto (tgt := 130) hc dX13_telling_126 (by decide) ?_
                        refine g_istore_5 hc dX13_telling_130 rfl ?_
                        refine g_iinc_6 hc dX13_telling_132 rfl ?_
                        refine g_goto (tgt := 71) hc dX13_telling_135 (by decide) ?_
                        refine ih_71 _ _ ?_ ?_ ?_
                        · omega
                        · exact hst9
                        · omega
                      · skip
                        refine g_iload_n hc dX13_telling_96 rfl ?_
                        refine g_iload hc dX13_telling_97 rfl ?_
                        refine g_S2r hc (c_X13_has w) my_X13_has ms_X13_has lm_X13_224 rfl (by decide) (Nat.le_of_ble_eq_true rfl) hm dX13_telling_99 ?_
                        refine g_ifb_eq (tgt := 125) hc dX13_telling_102 (by decide)  (fun c9 => ?_) (fun c9 => ?_)
                        · skip
                          have hst9 : ((1 : Int) = 1 ∧ g_tls I lb s (g_and (g_thb I lb) (g_xor (g_shl 1 s) (-1))) i = g_all (fun t => decide (¬ (g_bit (g_and (g_thb I lb) (g_xor (g_shl 1 s) (-1))) t ∧ g_and (g_xor (g_fct I lb t) (g_fct I lb s)) i = 0))) (I lb 0 - (u + 1)).toNat (u + 1) ∨ (1 : Int) = 0 ∧ g_tls I lb s (g_and (g_thb I lb) (g_xor (g_shl 1 s) (-1))) i = false) := Or.inl ⟨rfl, by rw [hz1, g_all_t (by omega) (decide_eq_true (show ¬ (g_bit (g_and (g_thb I lb) (g_xor (g_shl 1 s) (-1))) u ∧ g_and (g_xor (g_fct I lb u) (g_fct I lb s)) i = 0) from fun w => c9 (((x_thb (b := lb) hn0).2 u (by omega) (by omega)).mpr ((x_oth hn0 h1 ⟨by omega, by omega⟩).mp w.1).1)))]⟩
                          refine g_iconst hc dX13_telling_125 ?_
                          refine g_goto (tgt := 130) hc dX13_telling_126 (by decide) ?_
                          refine g_istore_5 hc dX13_telling_130 rfl ?_
                          refine g_iinc_6 hc dX13_telling_132 rfl ?_
                          refine g_goto (tgt := 71) hc dX13_telling_135 (by decide) ?_
                          refine ih_71 _ _ ?_ ?_ ?_
                          · omega
                          · exact hst9
                          · omega
                        · skip
                          have hb9 := c9
                          refine g_aldn hc dX13_telling_105 rfl ?_
                          refine g_getRk hc lk_X13_78 ca_703 (rc_703_34 hR) dX13_telling_106 ?_
                          refine g_iload hc dX13_telling_109 rfl ?_
                          refine g_ialde hc ca_720 (by decide) (by omega) (by omega) (show I6 720 u = g_fct I lb u from hr8 u (by omega) (by omega)) dX13_telling_111 ?_
                          refine g_aldn hc dX13_telling_112 rfl ?_
                          refine g_getRk hc lk_X13_78 ca_703 (rc_703_34 hR) dX13_telling_113 ?_
                          refine g_iload_n hc dX13_telling_116 rfl ?_
                          refine g_ialde hc ca_720 (by decide) (by omega) (by omega) (show I6 720 s = g_fct I lb s from hr8 s (by omega) (by omega)) dX13_telling_117 ?_
                          refine g_ixor hc dX13_telling_118 ?_
                          refine g_iload hc dX13_telling_119 rfl ?_
                          refine g_iand hc dX13_telling_121 ?_
                          refine g_if_eq (tgt := 129) hc dX13_telling_122 (by decide) (by first | exact hI _ _ | exact hxI2 _ _ | exact hIa _ _ | exact hIb _ _ | exact g_b32 | exact g_and32 | assumption | exact ⟨by omega, by omega⟩) (fun c10 => ?_) (fun c10 => ?_)
                          · skip
                            have hst9 : ((0 : Int) = 1 ∧ g_tls I lb s (g_and (g_thb I lb) (g_xor (g_shl 1 s) (-1))) i = g_all (fun t => decide (¬ (g_bit (g_and (g_thb I lb) (g_xor (g_shl 1 s) (-1))) t ∧ g_and (g_xor (g_fct I lb t) (g_fct I lb s)) i = 0))) (I lb 0 - (u + 1)).toNat (u + 1) ∨ (0 : Int) = 0 ∧ g_tls I lb s (g_and (g_thb I lb) (g_xor (g_shl 1 s) (-1))) i = false) := Or.inr ⟨rfl, by rw [hz1, g_all_f (by omega) (fun z => (of_decide_eq_true z) (⟨(x_oth hn0 h1 ⟨by omega, by omega⟩).mpr ⟨((x_thb (b := lb) hn0).2 u (by omega) (by omega)).mp hb9, by omega⟩, c10⟩))]⟩
                            refine g_iconst hc dX13_telling_129 ?_
                            refine g_istore_5 hc dX13_telling_130 rfl ?_
                            refine g_iinc_6 hc dX13_telling_132 rfl ?_
                            refine g_goto (tgt := 71) hc dX13_telling_135 (by decide) ?_
                            refine ih_71 _ _ ?_ ?_ ?_
                            · omega
                            · exact hst9
                            · omega
                          · skip
                            have hst9 : ((1 : Int) = 1 ∧ g_tls I lb s (g_and (g_thb I lb) (g_xor (g_shl 1 s) (-1))) i = g_all (fun t => decide (¬ (g_bit (g_and (g_thb I lb) (g_xor (g_shl 1 s) (-1))) t ∧ g_and (g_xor (g_fct I lb t) (g_fct I lb s)) i = 0))) (I lb 0 - (u + 1)).toNat (u + 1) ∨ (1 : Int) = 0 ∧ g_tls I lb s (g_and (g_thb I lb) (g_xor (g_shl 1 s) (-1))) i = false) := Or.inl ⟨rfl, by rw [hz1, g_all_t (by omega) (decide_eq_true (show ¬ (g_bit (g_and (g_thb I lb) (g_xor (g_shl 1 s) (-1))) u ∧ g_and (g_xor (g_fct I lb u) (g_fct I lb s)) i = 0) from fun w => c10 w.2))]⟩
                            refine g_iconst hc dX13_telling_125 ?_
                            refine g_goto (tgt := 130) hc dX13_telling_126 (by decide) ?_
                            refine g_istore_5 hc dX13_telling_130 rfl ?_
                            refine g_iinc_6 hc dX13_telling_132 rfl ?_
                            refine g_goto (tgt := 71) hc dX13_telling_135 (by decide) ?_
                            refine ih_71 _ _ ?_ ?_ ?_
                            · omega
                            · exact hst9
                            · omega
              refine lp_71 13 _ _ ?_ ?_ (?_)
              · omega
              · exact Or.inl ⟨rfl, by rw [Int.sub_zero]; rfl⟩
              · omega
            · skip
              refine g_iload hc dX13_telling_50 rfl ?_
              refine g_S1r hc (c_J6_bitCount_0f7a4 w) my_J6_bitCount_0f7a4 ms_J6_bitCount_0f7a4 lm_X13_413 rfl (by decide) (Nat.le_of_ble_eq_true rfl) hm dX13_telling_52 ?_
              refine g_iload_n hc dX13_telling_55 rfl ?_
              refine g_S1r hc (c_J6_bitCount_0f7a4 w) my_J6_bitCount_0f7a4 ms_J6_bitCount_0f7a4 lm_X13_413 rfl (by decide) (Nat.le_of_ble_eq_true rfl) hm dX13_telling_56 ?_
              refine g_icmp_lt (tgt := 65) hc dX13_telling_59 (by decide) (by first | exact hI _ _ | exact hxI2 _ _ | exact hIa _ _ | exact hIb _ _ | exact g_b32 | exact g_and32 | assumption | exact ⟨by omega, by omega⟩) (by first | exact hI _ _ | exact hxI2 _ _ | exact hIa _ _ | exact hIb _ _ | exact g_b32 | exact g_and32 | assumption | exact ⟨by omega, by omega⟩) (fun c11 => ?_) (fun c11 => ?_)
              · skip
                have hcc : e = -1 ∨ g_bc i < g_bc e := Or.inr c11
                refine g_iconst hc dX13_telling_65 ?_
                refine g_istore_5 hc dX13_telling_66 rfl ?_
                refine g_iconst hc dX13_telling_68 ?_
                refine g_istore_6 hc dX13_telling_69 rfl ?_
                have lp_71 : ∀ (fu : Nat) (ok u : Int), 0 ≤ u ∧ u ≤ I lb 0 → (ok = 1 ∧ g_tls I lb s (g_and (g_thb I lb) (g_xor (g_shl 1 s) (-1))) i = g_all (fun t => decide (¬ (g_bit (g_and (g_thb I lb) (g_xor (g_shl 1 s) (-1))) t ∧ g_and (g_xor (g_fct I lb t) (g_fct I lb s)) i = 0))) (I lb 0 - u).toNat u ∨ ok = 0 ∧ g_tls I lb s (g_and (g_thb I lb) (g_xor (g_shl 1 s) (-1))) i = false) → I lb 0 - u < (fu : Int) → G w x (x_rel w (some (gvI (if (0 ≤ s ∧ s < I lb 0) ∧ g_thr I lb s = true then g_tel I lb s else -1))) x_a M J lb) 0 0 g_n I6 J R6 71 [some (gvr w 703), some (gvI s), some (gvI (g_thb I lb)), some (gvI e), some (gvI i), some (gvI ok), some (gvI u)] [] := by
                  intro fu
                  induction fu with
                  | zero => intro ok u k3 k6 hfu; exfalso; omega
                  | succ fu ih =>
                    intro ok u k3 k6 hfu
                    have ih_71 := ih
                    refine g_iload hc dX13_telling_71 rfl ?_
                    refine g_aldn hc dX13_telling_73 rfl ?_
                    refine g_getRk hc lk_X13_46 ca_703 (rc_703_21 hR) dX13_telling_74 ?_
                    refine g_aldn hc dX13_telling_77 rfl ?_
                    refine g_getIe hc lk_X13_52 ca_703 24 rfl (show I6 703 24 = I 0 12 from hmI6.tab) dX13_telling_78 ?_
                    refine g_ialde hc ca_711 (by decide) (by omega) (by omega) (show I6 711 (I 0 12) = I lb 0 from q_lm hmI6 (by omega)) dX13_telling_81 ?_
                    refine g_icmp_ge (tgt := 138) hc dX13_telling_82 (by decide) (by first | exact hI _ _ | exact hxI2 _ _ | exact hIa _ _ | exact hIb _ _ | exact g_b32 | exact g_and32 | assumption | exact ⟨by omega, by omega⟩) (by first | exact hI _ _ | exact hxI2 _ _ | exact hIa _ _ | exact hIb _ _ | exact g_b32 | exact g_and32 | assumption | exact ⟨by omega, by omega⟩) (fun c12 => ?_) (fun c12 => ?_)
                    · skip
                      refine g_iload hc dX13_telling_138 rfl ?_
                      refine g_if_eq (tgt := 146) hc dX13_telling_140 (by decide) (by first | exact hI _ _ | exact hxI2 _ _ | exact hIa _ _ | exact hIb _ _ | exact g_b32 | exact g_and32 | assumption | exact ⟨by omega, by omega⟩) (fun c13 => ?_) (fun c13 => ?_)
                      · skip
                        have hpi : ¬ g_tls I lb s (g_and (g_thb I lb) (g_xor (g_shl 1 s) (-1))) i = true := by
                          rcases k6 with z9 | z9
                          · omega
                          · rw [z9.2]; decide
                        have hst9 : x_fw (fun set => g_tls I lb s (g_and (g_thb I lb) (g_xor (g_shl 1 s) (-1))) set) (i + 1) e := h4.no ⟨by omega, by omega⟩ (Or.inr hpi)
                        refine g_iinc_4 hc dX13_telling_146 rfl ?_
                        refine g_goto (tgt := 37) hc dX13_telling_149 (by decide) ?_
                        refine G_sub (L' := [some (gvr w 703), some (gvI s), some (gvI (g_thb I lb)), some (gvI e), some (gvI (i + 1)), none, none]) (show g_le _ _ from ⟨rfl, ⟨rfl, ⟨rfl, ⟨rfl, ⟨rfl, trivial⟩⟩⟩⟩⟩) ?_
                        refine ih_37 _ _ ?_ ?_ ?_ ?_
                        · omega
                        · exact hst9
                        · omega
                        · omega
                      · skip
                        have hpi : g_tls I lb s (g_and (g_thb I lb) (g_xor (g_shl 1 s) (-1))) i = true := by
                          rcases k6 with z9 | z9
                          · rw [z9.2, g_all_e (by omega)]
                          · omega
                        have hst9 : x_fw (fun set => g_tls I lb s (g_and (g_thb I lb) (g_xor (g_shl 1 s) (-1))) set) (i + 1) i := h4.yes ⟨by omega, by omega⟩ hcc hpi
                        refine g_iload hc dX13_telling_143 rfl ?_
                        refine g_istore_3 hc dX13_telling_145 rfl ?_
                        refine g_iinc_4 hc dX13_telling_146 rfl ?_
                        refine g_goto (tgt := 37) hc dX13_telling_149 (by decide) ?_
                        refine G_sub (L' := [some (gvr w 703), some (gvI s), some (gvI (g_thb I lb)), some (gvI i), some (gvI (i + 1)), none, none]) (show g_le _ _ from ⟨rfl, ⟨rfl, ⟨rfl, ⟨rfl, ⟨rfl, trivial⟩⟩⟩⟩⟩) ?_
                        refine ih_37 _ _ ?_ ?_ ?_ ?_
                        · omega
                        · exact hst9
                        · omega
                        · omega
                    · skip
                      refine g_iload hc dX13_telling_85 rfl ?_
                      refine g_if_eq (tgt := 129) hc dX13_telling_87 (by decide) (by first | exact hI _ _ | exact hxI2 _ _ | exact hIa _ _ | exact hIb _ _ | exact g_b32 | exact g_and32 | assumption | exact ⟨by omega, by omega⟩) (fun c14 => ?_) (fun c14 => ?_)
                      · skip
                        have hst9 : ((0 : Int) = 1 ∧ g_tls I lb s (g_and (g_thb I lb) (g_xor (g_shl 1 s) (-1))) i = g_all (fun t => decide (¬ (g_bit (g_and (g_thb I lb) (g_xor (g_shl 1 s) (-1))) t ∧ g_and (g_xor (g_fct I lb t) (g_fct I lb s)) i = 0))) (I lb 0 - (u + 1)).toNat (u + 1) ∨ (0 : Int) = 0 ∧ g_tls I lb s (g_and (g_thb I lb) (g_xor (g_shl 1 s) (-1))) i = false) := by
                          rcases k6 with z9 | z9
                          · omega
                          · exact Or.inr ⟨rfl, z9.2⟩
                        refine g_iconst hc dX13_telling_129 ?_
                        refine g_istore_5 hc dX13_telling_130 rfl ?_
                        refine g_iinc_6 hc dX13_telling_132 rfl ?_
                        refine g_goto (tgt := 71) hc dX13_telling_135 (by decide) ?_
                        refine ih_71 _ _ ?_ ?_ ?_
                        · omega
                        · exact hst9
                        · omega
                      · skip
                        have hz1 : g_tls I lb s (g_and (g_thb I lb) (g_xor (g_shl 1 s) (-1))) i = g_all (fun t => decide (¬ (g_bit (g_and (g_thb I lb) (g_xor (g_shl 1 s) (-1))) t ∧ g_and (g_xor (g_fct I lb t) (g_fct I lb s)) i = 0))) (I lb 0 - u).toNat u := by
                          rcases k6 with z9 | z9
                          · exact z9.2
                          · omega
                        refine g_iload hc dX13_telling_90 rfl ?_
                        refine g_iload_n hc dX13_telling_92 rfl ?_
                        refine g_icmp_eq (tgt := 125) hc dX13_telling_93 (by decide) (by first | exact hI _ _ | exact hxI2 _ _ | exact hIa _ _ | exact hIb _ _ | exact g_b32 | exact g_and32 | assumption | exact ⟨by omega, by omega⟩) (by first | exact hI _ _ | exact hxI2 _ _ | exact hIa _ _ | exact hIb _ _ | exact g_b32 | exact g_and32 | assumption | exact ⟨by omega, by omega⟩) (fun c15 => ?_) (fun c15 => ?_)
                        · skip
                          have hst9 : ((1 : Int) = 1 ∧ g_tls I lb s (g_and (g_thb I lb) (g_xor (g_shl 1 s) (-1))) i = g_all (fun t => decide (¬ (g_bit (g_and (g_thb I lb) (g_xor (g_shl 1 s) (-1))) t ∧ g_and (g_xor (g_fct I lb t) (g_fct I lb s)) i = 0))) (I lb 0 - (u + 1)).toNat (u + 1) ∨ (1 : Int) = 0 ∧ g_tls I lb s (g_and (g_thb I lb) (g_xor (g_shl 1 s) (-1))) i = false) := Or.inl ⟨rfl, by rw [hz1, g_all_t (by omega) (decide_eq_true (show ¬ (g_bit (g_and (g_thb I lb) (g_xor (g_shl 1 s) (-1))) u ∧ g_and (g_xor (g_fct I lb u) (g_fct I lb s)) i = 0) from fun w => ((x_oth hn0 h1 ⟨by omega, by omega⟩).mp w.1).2 c15))]⟩
                          refine g_iconst hc dX13_telling_125 ?_
                          refine g_goto (tgt := 130) hc dX13_telling_126 (by decide) ?_
                          refine g_istore_5 hc dX13_telling_130 rfl ?_
                          refine g_iinc_6 hc dX13_telling_132 rfl ?_
                          refine g_goto (tgt := 71) hc dX13_telling_135 (by decide) ?_
                          refine ih_71 _ _ ?_ ?_ ?_
                          · omega
                          · exact hst9
                          · omega
                        · skip
                          refine g_iload_n hc dX13_telling_96 rfl ?_
                          refine g_iload hc dX13_telling_97 rfl ?_
                          refine g_S2r hc (c_X13_has w) my_X13_has ms_X13_has lm_X13_224 rfl (by decide) (Nat.le_of_ble_eq_true rfl) hm dX13_telling_99 ?_
                          refine g_ifb_eq (tgt := 125) hc dX13_telling_102 (by decide)  (fun c16 => ?_) (fun c16 => ?_)
                          · skip
                            have hst9 : ((1 : Int) = 1 ∧ g_tls I lb s (g_and (g_thb I lb) (g_xor (g_shl 1 s) (-1))) i = g_all (fun t => decide (¬ (g_bit (g_and (g_thb I lb) (g_xor (g_shl 1 s) (-1))) t ∧ g_and (g_xor (g_fct I lb t) (g_fct I lb s)) i = 0))) (I lb 0 - (u + 1)).toNat (u + 1) ∨ (1 : Int) = 0 ∧ g_tls I lb s (g_and (g_thb I lb) (g_xor (g_shl 1 s) (-1))) i = false) := Or.inl ⟨rfl, by rw [hz1, g_all_t (by omega) (decide_eq_true (show ¬ (g_bit (g_and (g_thb I lb) (g_xor (g_shl 1 s) (-1))) u ∧ g_and (g_xor (g_fct I lb u) (g_fct I lb s)) i = 0) from fun w => c16 (((x_thb (b := lb) hn0).2 u (by omega) (by omega)).mpr ((x_oth hn0 h1 ⟨by omega, by omega⟩).mp w.1).1)))]⟩
                            refine g_iconst hc dX13_telling_125 ?_
                            refine g_goto (tgt := 130) hc dX13_telling_126 (by decide) ?_
                            refine g_istore_5 hc dX13_telling_130 rfl ?_
                            refine g_iinc_6 hc dX13_telling_132 rfl ?_
                            refine g_goto (tgt := 71) hc dX13_telling_135 (by decide) ?_
                            refine ih_71 _ _ ?_ ?_ ?_
                            · omega
                            · exact hst9
                            · omega
                          · skip
                            have hb9 := c16
                            refine g_aldn hc dX13_telling_105 rfl ?_
                            refine g_getRk hc lk_X13_78 ca_703 (rc_703_34 hR) dX13_telling_106 ?_
                            refine g_iload hc dX13_telling_109 rfl ?_
                            refine g_ialde hc ca_720 (by decide) (by omega) (by omega) (show I6 720 u = g_fct I lb u from hr8 u (by omega) (by omega)) dX13_telling_111 ?_
                            refine g_aldn hc dX13_telling_112 rfl ?_
                            refine g_getRk hc lk_X13_78 ca_703 (rc_703_34 hR) dX13_telling_113 ?_
                            refine g_iload_n hc dX13_telling_116 rfl ?_
                            refine g_ialde hc ca_720 (by decide) (by omega) (by omega) (show I6 720 s = g_fct I lb s from hr8 s (by omega) (by omega)) dX13_telling_117 ?_
                            refine g_ixor hc dX13_telling_118 ?_
                            refine g_iload hc dX13_telling_119 rfl ?_
                            refine g_iand hc dX13_telling_121 ?_
                            refine g_if_eq (tgt := 129) hc dX13_telling_122 (by decide) (by first | exact hI _ _ | exact hxI2 _ _ | exact hIa _ _ | exact hIb _ _ | exact g_b32 | exact g_and32 | assumption | exact ⟨by omega, by omega⟩) (fun c17 => ?_) (fun c17 => ?_)
                            · skip
                              have hst9 : ((0 : Int) = 1 ∧ g_tls I lb s (g_and (g_thb I lb) (g_xor (g_shl 1 s) (-1))) i = g_all (fun t => decide (¬ (g_bit (g_and (g_thb I lb) (g_xor (g_shl 1 s) (-1))) t ∧ g_and (g_xor (g_fct I lb t) (g_fct I lb s)) i = 0))) (I lb 0 - (u + 1)).toNat (u + 1) ∨ (0 : Int) = 0 ∧ g_tls I lb s (g_and (g_thb I lb) (g_xor (g_shl 1 s) (-1))) i = false) := Or.inr ⟨rfl, by rw [hz1, g_all_f (by omega) (fun z => (of_decide_eq_true z) (⟨(x_oth hn0 h1 ⟨by omega, by omega⟩).mpr ⟨((x_thb (b := lb) hn0).2 u (by omega) (by omega)).mp hb9, by omega⟩, c17⟩))]⟩
                              refine g_iconst hc dX13_telling_129 ?_
                              refine g_istore_5 hc dX13_telling_130 rfl ?_
                              refine g_iinc_6 hc dX13_telling_132 rfl ?_
                              refine g_goto (tgt := 71) hc dX13_telling_135 (by decide) ?_
                              refine ih_71 _ _ ?_ ?_ ?_
                              · omega
                              · exact hst9
                              · omega
                            · skip
                              have hst9 : ((1 : Int) = 1 ∧ g_tls I lb s (g_and (g_thb I lb) (g_xor (g_shl 1 s) (-1))) i = g_all (fun t => decide (¬ (g_bit (g_and (g_thb I lb) (g_xor (g_shl 1 s) (-1))) t ∧ g_and (g_xor (g_fct I lb t) (g_fct I lb s)) i = 0))) (I lb 0 - (u + 1)).toNat (u + 1) ∨ (1 : Int) = 0 ∧ g_tls I lb s (g_and (g_thb I lb) (g_xor (g_shl 1 s) (-1))) i = false) := Or.inl ⟨rfl, by rw [hz1, g_all_t (by omega) (decide_eq_true (show ¬ (g_bit (g_and (g_thb I lb) (g_xor (g_shl 1 s) (-1))) u ∧ g_and (g_xor (g_fct I lb u) (g_fct I lb s)) i = 0) from fun w => c17 w.2))]⟩
                              refine g_iconst hc dX13_telling_125 ?_
                              refine g_goto (tgt := 130) hc dX13_telling_126 (by decide) ?_
                              refine g_istore_5 hc dX13_telling_130 rfl ?_
                              refine g_iinc_6 hc dX13_telling_132 rfl ?_
                              refine g_goto (tgt := 71) hc dX13_telling_135 (by decide) ?_
                              refine ih_71 _ _ ?_ ?_ ?_
                              · omega
                              · exact hst9
                              · omega
                refine lp_71 13 _ _ ?_ ?_ (?_)
                · omega
                · exact Or.inl ⟨rfl, by rw [Int.sub_zero]; rfl⟩
                · omega
              · skip
                have hst9 : x_fw (fun set => g_tls I lb s (g_and (g_thb I lb) (g_xor (g_shl 1 s) (-1))) set) (i + 1) e := h4.no ⟨by omega, by omega⟩ (Or.inl ⟨by omega, by omega⟩)
                refine g_goto (tgt := 146) hc dX13_telling_62 (by decide) ?_
                refine g_iinc_4 hc dX13_telling_146 rfl ?_
                refine g_goto (tgt := 37) hc dX13_telling_149 (by decide) ?_
                refine ih_37 _ _ ?_ ?_ ?_ ?_
                · omega
                · exact hst9
                · omega
                · omega
      refine lp_37 1025 _ _ ?_ ?_ ?_ (?_)
      · omega
      · exact Or.inl ⟨rfl, rfl, fun j a c => by omega⟩
      · omega
      · omega
    · skip
      have hng : ¬ ((0 ≤ s ∧ s < I lb 0) ∧ g_thr I lb s = true) := fun z => c2 z.2
      refine g_iconst hc dX13_telling_21 ?_
      refine g_iret hc hm dX13_telling_22 ?_
      exact x_end (by rw [if_neg hng]) hfI4 hmI4.g hR
set_option maxHeartbeats 4000000 in
set_option maxRecDepth 100000 in
/-- X13_sentence -/
theorem c_X13_sentence (w : g_W) {I : g_I} {J : g_J} {R : g_R} {lb tx : Nat} (hR : g_rf w R lb tx) {M : g_I} (hmM : q_rel I lb M)  : g_Met w g_n M J R yX13_sentence cX13_sentence 6 (some .int) 4 0 0 [(gvr w 703)] (x_rel w (some (gvI (if 0 ≤ I 0 12 then g_sen I lb else -1))) x_a M J lb) := by
  refine g_intro (own := RX13) [some (gvr w 703), none, none, none, none, none] (by decide +kernel) rfl (by decide) (Nat.le_of_ble_eq_true rfl) rfl (fun i v hv => g_args 5 i v hv rfl) (fun x hc hm => ?_)
  have hfM : ∀ (k : Nat) (j : Int), ¬ x_a k j → M k j = M k j := fun _ _ _ => rfl
  have hI := hmM.gi
  have hTb := q_b1 hmM
  have hLv := hmM.lv
  have hC := hmM.cin
  have hL := hC.1
  obtain ⟨hn0, hn1, hLs, hLf⟩ := id hL
  obtain ⟨-, hC1, hC2, hC3, hC4, hC5, hC6, hC7⟩ := id hC
  have hN0 := q_n0 hmM
  refine g_aldn hc dX13_sentence_0 rfl ?_
  refine g_iconst hc dX13_sentence_1 ?_
  refine g_putI' hc lk_X13_102 ca_703 0 rfl dX13_sentence_2 (fun I3 hI3 => ?_)
  have hmI3 : q_rel I lb I3 := by rw [hI3]; exact q_up hmM (by unfold x_a; omega) (by first | exact hI _ _ | exact hmM.g _ _ | exact g_b32 | exact g_and32 | exact g_or32 | exact g_shl32 | assumption | exact ⟨by omega, by omega⟩)
  have hfI3 : ∀ (k : Nat) (j : Int), ¬ x_a k j → I3 k j = M k j := fun k j hk => by rw [hI3]; exact (g_up_n (by unfold x_a at hk; omega)).trans (hfM k j hk)
  refine g_aldn hc dX13_sentence_5 rfl ?_
  refine g_getIe hc lk_X13_52 ca_703 24 rfl (show I3 703 24 = I 0 12 from hmI3.tab) dX13_sentence_6 ?_
  refine g_iconst hc dX13_sentence_9 ?_
  refine g_icmp_ne (tgt := 15) hc dX13_sentence_10 (by decide) (by first | exact hI _ _ | exact hxI2 _ _ | exact hIa _ _ | exact hIb _ _ | exact g_b32 | exact g_and32 | assumption | exact ⟨by omega, by omega⟩) (by first | exact hI _ _ | exact hxI2 _ _ | exact hIa _ _ | exact hIb _ _ | exact g_b32 | exact g_and32 | assumption | exact ⟨by omega, by omega⟩) (fun c1 => ?_) (fun c1 => ?_)
  · skip
    have hTs := q_ts hmM (by omega)
    refine g_aldn hc dX13_sentence_15 rfl ?_
    refine g_V0 hc (c_X13_layFacts w hR hmI3 (by omega)) my_X13_layFacts mv_X13_layFacts ca_703 rfl rfl lm_X13_433 rfl (by decide) (Nat.le_of_ble_eq_true rfl) hm dX13_sentence_16 (fun r4 n4 I4 J4 R4 hp4 => ?_)
    obtain ⟨⟨rfl, rfl, hK4, hX4, rfl, t4, hR⟩, hl4⟩ := hp4
    have hmI4 : q_rel I lb I4 := q_cg hK4 hX4 hmI3
    have hfI4 : ∀ (k : Nat) (j : Int), ¬ x_a k j → I4 k j = M k j := fun k j hk => (hK4 k j hk).trans (hfI3 k j hk)
    have hr9 := hl4
    refine g_aldn hc dX13_sentence_19 rfl ?_
    refine g_V0 hc (c_X13_thereBits w hR hmI4 (by omega)) my_X13_thereBits mv_X13_thereBits ca_703 rfl rfl lm_X13_410 rfl (by decide) (Nat.le_of_ble_eq_true rfl) hm dX13_sentence_20 (fun r5 n5 I5 J5 R5 hp5 => ?_)
    obtain ⟨rfl, rfl, hK5, hX5, rfl, t5, hR⟩ := hp5
    have hmI5 : q_rel I lb I5 := q_cg (fun k j hk => hK5 k j (fun z => hk (x_wa z))) hX5 hmI4
    have hfI5 : ∀ (k : Nat) (j : Int), ¬ x_a k j → I5 k j = M k j := fun k j hk => (hK5 k j (fun z => hk (x_wa z))).trans (hfI4 k j hk)
    have hr8 : (∀ t : Int, 0 ≤ t → t < I lb 0 → I5 720 t = g_fct I lb t) := fun t a c => (hK5 720 t (by unfold x_w; omega)).trans (hr9 t a c)
    refine g_istore_1 hc dX13_sentence_23 rfl ?_
    refine g_iconst hc dX13_sentence_24 ?_
    refine g_istore_2 hc dX13_sentence_25 rfl ?_
    refine g_iconst hc dX13_sentence_26 ?_
    refine g_istore_3 hc dX13_sentence_27 rfl ?_
    have lp_28 : ∀ (fu : Nat) (e i : Int), 0 ≤ i ∧ i ≤ 1024 → x_fw (fun set => g_rea I lb (g_thb I lb) set) i e → (-1 ≤ e ∧ e < 1024) → 1024 - i < (fu : Int) → G w x (x_rel w (some (gvI (if 0 ≤ I 0 12 then g_sen I lb else -1))) x_a M J lb) 0 0 g_n I5 J R5 28 [some (gvr w 703), some (gvI (g_thb I lb)), some (gvI e), some (gvI i), none, none] [] := by
      intro fu
      induction fu with
      | zero => intro e i h3 h4 h7 hfu; exfalso; omega
      | succ fu ih =>
        intro e i h3 h4 h7 hfu
        have ih_28 := ih
        refine g_iload_n hc dX13_sentence_28 rfl ?_
        refine g_sipush hc dX13_sentence_29 (by decide +kernel) ?_
        refine g_icmp_ge (tgt := 126) hc dX13_sentence_32 (by decide) (by first | exact hI _ _ | exact hxI2 _ _ | exact hIa _ _ | exact hIb _ _ | exact g_b32 | exact g_and32 | assumption | exact ⟨by omega, by omega⟩) (by first | exact hI _ _ | exact hxI2 _ _ | exact hIa _ _ | exact hIb _ _ | exact g_b32 | exact g_and32 | assumption | exact ⟨by omega, by omega⟩) (fun c2 => ?_) (fun c2 => ?_)
        · skip
          refine g_iload_n hc dX13_sentence_126 rfl ?_
          refine g_iret hc hm dX13_sentence_127 ?_
          have hfi := (show x_fw (fun set => g_rea I lb (g_thb I lb) set) 1024 e from (show i = 1024 by omega) ▸ h4).fin (fun j _ _ => x_rea_m hL)
          exact x_end (by rw [if_pos (by omega), g_sen, hfi]) hfI5 hmI5.g hR
        · skip
          refine g_iload_n hc dX13_sentence_35 rfl ?_
          refine g_iconst hc dX13_sentence_36 ?_
          refine g_icmp_eq (tgt := 54) hc dX13_sentence_37 (by decide) (by first | exact hI _ _ | exact hxI2 _ _ | exact hIa _ _ | exact hIb _ _ | exact g_b32 | exact g_and32 | assumption | exact ⟨by omega, by omega⟩) (by first | exact hI _ _ | exact hxI2 _ _ | exact hIa _ _ | exact hIb _ _ | exact g_b32 | exact g_and32 | assumption | exact ⟨by omega, by omega⟩) (fun c3 => ?_) (fun c3 => ?_)
          · skip
            have hcc : e = -1 ∨ g_bc i < g_bc e := Or.inl c3
            refine g_iconst hc dX13_sentence_54 ?_
            refine g_istore_4 hc dX13_sentence_55 rfl ?_
            refine g_iconst hc dX13_sentence_57 ?_
            refine g_istore_5 hc dX13_sentence_58 rfl ?_
            have lp_60 : ∀ (fu : Nat) (ok u : Int), 0 ≤ u ∧ u ≤ I lb 0 → (ok = 1 ∧ g_rea I lb (g_thb I lb) i = g_all (fun t => decide (¬ (g_bit (g_thb I lb) t ∧ g_and (g_fct I lb t) i = 0))) (I lb 0 - u).toNat u ∨ ok = 0 ∧ g_rea I lb (g_thb I lb) i = false) → I lb 0 - u < (fu : Int) → G w x (x_rel w (some (gvI (if 0 ≤ I 0 12 then g_sen I lb else -1))) x_a M J lb) 0 0 g_n I5 J R5 60 [some (gvr w 703), some (gvI (g_thb I lb)), some (gvI e), some (gvI i), some (gvI ok), some (gvI u)] [] := by
              intro fu
              induction fu with
              | zero => intro ok u k3 k6 hfu; exfalso; omega
              | succ fu ih =>
                intro ok u k3 k6 hfu
                have ih_60 := ih
                refine g_iload hc dX13_sentence_60 rfl ?_
                refine g_aldn hc dX13_sentence_62 rfl ?_
                refine g_getRk hc lk_X13_46 ca_703 (rc_703_21 hR) dX13_sentence_63 ?_
                refine g_aldn hc dX13_sentence_66 rfl ?_
                refine g_getIe hc lk_X13_52 ca_703 24 rfl (show I5 703 24 = I 0 12 from hmI5.tab) dX13_sentence_67 ?_
                refine g_ialde hc ca_711 (by decide) (by omega) (by omega) (show I5 711 (I 0 12) = I lb 0 from q_lm hmI5 (by omega)) dX13_sentence_70 ?_
                refine g_icmp_ge (tgt := 113) hc dX13_sentence_71 (by decide) (by first | exact hI _ _ | exact hxI2 _ _ | exact hIa _ _ | exact hIb _ _ | exact g_b32 | exact g_and32 | assumption | exact ⟨by omega, by omega⟩) (by first | exact hI _ _ | exact hxI2 _ _ | exact hIa _ _ | exact hIb _ _ | exact g_b32 | exact g_and32 | assumption | exact ⟨by omega, by omega⟩) (fun c4 => ?_) (fun c4 => ?_)
                · skip
                  refine g_iload hc dX13_sentence_113 rfl ?_
                  refine g_if_eq (tgt := 120) hc dX13_sentence_115 (by decide) (by first | exact hI _ _ | exact hxI2 _ _ | exact hIa _ _ | exact hIb _ _ | exact g_b32 | exact g_and32 | assumption | exact ⟨by omega, by omega⟩) (fun c5 => ?_) (fun c5 => ?_)
                  · skip
                    have hpi : ¬ g_rea I lb (g_thb I lb) i = true := by
                      rcases k6 with z9 | z9
                      · omega
                      · rw [z9.2]; decide
                    have hst9 : x_fw (fun set => g_rea I lb (g_thb I lb) set) (i + 1) e := h4.no ⟨by omega, by omega⟩ (Or.inr hpi)
                    refine g_iinc_3 hc dX13_sentence_120 rfl ?_
                    refine g_goto (tgt := 28) hc dX13_sentence_123 (by decide) ?_
                    refine G_sub (L' := [some (gvr w 703), some (gvI (g_thb I lb)), some (gvI e), some (gvI (i + 1)), none, none]) (show g_le _ _ from ⟨rfl, ⟨rfl, ⟨rfl, ⟨rfl, trivial⟩⟩⟩⟩) ?_
                    refine ih_28 _ _ ?_ ?_ ?_ ?_
                    · omega
                    · exact hst9
                    · omega
                    · omega
                  · skip
                    have hpi : g_rea I lb (g_thb I lb) i = true := by
                      rcases k6 with z9 | z9
                      · rw [z9.2, g_all_e (by omega)]
                      · omega
                    have hst9 : x_fw (fun set => g_rea I lb (g_thb I lb) set) (i + 1) i := h4.yes ⟨by omega, by omega⟩ hcc hpi
                    refine g_iload_n hc dX13_sentence_118 rfl ?_
                    refine g_istore_2 hc dX13_sentence_119 rfl ?_
                    refine g_iinc_3 hc dX13_sentence_120 rfl ?_
                    refine g_goto (tgt := 28) hc dX13_sentence_123 (by decide) ?_
                    refine G_sub (L' := [some (gvr w 703), some (gvI (g_thb I lb)), some (gvI i), some (gvI (i + 1)), none, none]) (show g_le _ _ from ⟨rfl, ⟨rfl, ⟨rfl, ⟨rfl, trivial⟩⟩⟩⟩) ?_
                    refine ih_28 _ _ ?_ ?_ ?_ ?_
                    · omega
                    · exact hst9
                    · omega
                    · omega
                · skip
                  refine g_iload hc dX13_sentence_74 rfl ?_
                  refine g_if_eq (tgt := 104) hc dX13_sentence_76 (by decide) (by first | exact hI _ _ | exact hxI2 _ _ | exact hIa _ _ | exact hIb _ _ | exact g_b32 | exact g_and32 | assumption | exact ⟨by omega, by omega⟩) (fun c6 => ?_) (fun c6 => ?_)
                  · skip
                    have hst9 : ((0 : Int) = 1 ∧ g_rea I lb (g_thb I lb) i = g_all (fun t => decide (¬ (g_bit (g_thb I lb) t ∧ g_and (g_fct I lb t) i = 0))) (I lb 0 - (u + 1)).toNat (u + 1) ∨ (0 : Int) = 0 ∧ g_rea I lb (g_thb I lb) i = false) := by
                      rcases k6 with z9 | z9
                      · omega
                      · exact Or.inr ⟨rfl, z9.2⟩
                    refine g_iconst hc dX13_sentence_104 ?_
                    refine g_istore_4 hc dX13_sentence_105 rfl ?_
                    refine g_iinc_5 hc dX13_sentence_107 rfl ?_
                    refine g_goto (tgt := 60) hc dX13_sentence_110 (by decide) ?_
                    refine ih_60 _ _ ?_ ?_ ?_
                    · omega
                    · exact hst9
                    · omega
                  · skip
                    have hz1 : g_rea I lb (g_thb I lb) i = g_all (fun t => decide (¬ (g_bit (g_thb I lb) t ∧ g_and (g_fct I lb t) i = 0))) (I lb 0 - u).toNat u := by
                      rcases k6 with z9 | z9
                      · exact z9.2
                      · omega
                    refine g_iload_n hc dX13_sentence_79 rfl ?_
                    refine g_iload hc dX13_sentence_80 rfl ?_
                    refine g_S2r hc (c_X13_has w) my_X13_has ms_X13_has lm_X13_224 rfl (by decide) (Nat.le_of_ble_eq_true rfl) hm dX13_sentence_82 ?_
                    refine g_ifb_eq (tgt := 100) hc dX13_sentence_85 (by decide)  (fun c7 => ?_) (fun c7 => ?_)
                    · skip
                      have hst9 : ((1 : Int) = 1 ∧ g_rea I lb (g_thb I lb) i = g_all (fun t => decide (¬ (g_bit (g_thb I lb) t ∧ g_and (g_fct I lb t) i = 0))) (I lb 0 - (u + 1)).toNat (u + 1) ∨ (1 : Int) = 0 ∧ g_rea I lb (g_thb I lb) i = false) := Or.inl ⟨rfl, by rw [hz1, g_all_t (by omega) (decide_eq_true (show ¬ (g_bit (g_thb I lb) u ∧ g_and (g_fct I lb u) i = 0) from fun w => c7 w.1))]⟩
                      refine g_iconst hc dX13_sentence_100 ?_
                      refine g_goto (tgt := 105) hc dX13_sentence_101 (by decide) ?_
                      refine g_istore_4 hc dX13_sentence_105 rfl ?_
                      refine g_iinc_5 hc dX13_sentence_107 rfl ?_
                      refine g_goto (tgt := 60) hc dX13_sentence_110 (by decide) ?_
                      refine ih_60 _ _ ?_ ?_ ?_
                      · omega
                      · exact hst9
                      · omega
                    · skip
                      have hb9 := c7
                      refine g_aldn hc dX13_sentence_88 rfl ?_
                      refine g_getRk hc lk_X13_78 ca_703 (rc_703_34 hR) dX13_sentence_89 ?_
                      refine g_iload hc dX13_sentence_92 rfl ?_
                      refine g_ialde hc ca_720 (by decide) (by omega) (by omega) (show I5 720 u = g_fct I lb u from hr8 u (by omega) (by omega)) dX13_sentence_94 ?_
                      refine g_iload_n hc dX13_sentence_95 rfl ?_
                      refine g_iand hc dX13_sentence_96 ?_
                      refine g_if_eq (tgt := 104) hc dX13_sentence_97 (by decide) (by first | exact hI _ _ | exact hxI2 _ _ | exact hIa _ _ | exact hIb _ _ | exact g_b32 | exact g_and32 | assumption | exact ⟨by omega, by omega⟩) (fun c8 => ?_) (fun c8 => ?_)
                      · skip
                        have hst9 : ((0 : Int) = 1 ∧ g_rea I lb (g_thb I lb) i = g_all (fun t => decide (¬ (g_bit (g_thb I lb) t ∧ g_and (g_fct I lb t) i = 0))) (I lb 0 - (u + 1)).toNat (u + 1) ∨ (0 : Int) = 0 ∧ g_rea I lb (g_thb I lb) i = false) := Or.inr ⟨rfl, by rw [hz1, g_all_f (by omega) (fun z => (of_decide_eq_true z) (⟨hb9, c8⟩))]⟩
                        refine g_iconst hc dX13_sentence_104 ?_
                        refine g_istore_4 hc dX13_sentence_105 rfl ?_
                        refine g_iinc_5 hc dX13_sentence_107 rfl ?_
                        refine g_goto (tgt := 60) hc dX13_sentence_110 (by decide) ?_
                        refine ih_60 _ _ ?_ ?_ ?_
                        · omega
                        · exact hst9
                        · omega
                      · skip
                        have hst9 : ((1 : Int) = 1 ∧ g_rea I lb (g_thb I lb) i = g_all (fun t => decide (¬ (g_bit (g_thb I lb) t ∧ g_and (g_fct I lb t) i = 0))) (I lb 0 - (u + 1)).toNat (u + 1) ∨ (1 : Int) = 0 ∧ g_rea I lb (g_thb I lb) i = false) := Or.inl ⟨rfl, by rw [hz1, g_all_t (by omega) (decide_eq_true (show ¬ (g_bit (g_thb I lb) u ∧ g_and (g_fct I lb u) i = 0) from fun w => c8 w.2))]⟩
                        refine g_iconst hc dX13_sentence_100 ?_
                        refine g_goto (tgt := 105) hc dX13_sentence_101 (by decide) ?_
                        refine g_istore_4 hc dX13_sentence_105 rfl ?_
                        refine g_iinc_5 hc dX13_sentence_107 rfl ?_
                        refine g_goto (tgt := 60) hc dX13_sentence_110 (by decide) ?_
                        refine ih_60 _ _ ?_ ?_ ?_
                        · omega
                        · exact hst9
                        · omega
            refine lp_60 13 _ _ ?_ ?_ (?_)
            · omega
            · exact Or.inl ⟨rfl, by rw [Int.sub_zero]; rfl⟩
            · omega
          · skip
            refine g_iload_n hc dX13_sentence_40 rfl ?_
            refine g_S1r hc (c_J6_bitCount_0f7a4 w) my_J6_bitCount_0f7a4 ms_J6_bitCount_0f7a4 lm_X13_413 rfl (by decide) (Nat.le_of_ble_eq_true rfl) hm dX13_sentence_41 ?_
            refine g_iload_n hc dX13_sentence_44 rfl ?_
            refine g_S1r hc (c_J6_bitCount_0f7a4 w) my_J6_bitCount_0f7a4 ms_J6_bitCount_0f7a4 lm_X13_413 rfl (by decide) (Nat.le_of_ble_eq_true rfl) hm dX13_sentence_45 ?_
            refine g_icmp_lt (tgt := 54) hc dX13_sentence_48 (by decide) (by first | exact hI _ _ | exact hxI2 _ _ | exact hIa _ _ | exact hIb _ _ | exact g_b32 | exact g_and32 | assumption | exact ⟨by omega, by omega⟩) (by first | exact hI _ _ | exact hxI2 _ _ | exact hIa _ _ | exact hIb _ _ | exact g_b32 | exact g_and32 | assumption | exact ⟨by omega, by omega⟩) (fun c9 => ?_) (fun c9 => ?_)
            · skip
              have hcc : e = -1 ∨ g_bc i < g_bc e := Or.inr c9
              refine g_iconst hc dX13_sentence_54 ?_
              refine g_istore_4 hc dX13_sentence_55 rfl ?_
              refine g_iconst hc dX13_sentence_57 ?_
              refine g_istore_5 hc dX13_sentence_58 rfl ?_
              have lp_60 : ∀ (fu : Nat) (ok u : Int), 0 ≤ u ∧ u ≤ I lb 0 → (ok = 1 ∧ g_rea I lb (g_thb I lb) i = g_all (fun t => decide (¬ (g_bit (g_thb I lb) t ∧ g_and (g_fct I lb t) i = 0))) (I lb 0 - u).toNat u ∨ ok = 0 ∧ g_rea I lb (g_thb I lb) i = false) → I lb 0 - u < (fu : Int) → G w x (x_rel w (some (gvI (if 0 ≤ I 0 12 then g_sen I lb else -1))) x_a M J lb) 0 0 g_n I5 J R5 60 [some (gvr w 703), some (gvI (g_thb I lb)), some (gvI e), some (gvI i), some (gvI ok), some (gvI u)] [] := by
                intro fu
                induction fu with
                | zero => intro ok u k3 k6 hfu; exfalso; omega
                | succ fu ih =>
                  intro ok u k3 k6 hfu
                  have ih_60 := ih
                  refine g_iload hc dX13_sentence_60 rfl ?_
                  refine g_aldn hc dX13_sentence_62 rfl ?_
                  refine g_getRk hc lk_X13_46 ca_703 (rc_703_21 hR) dX13_sentence_63 ?_
                  refine g_aldn hc dX13_sentence_66 rfl ?_
                  refine g_getIe hc lk_X13_52 ca_703 24 rfl (show I5 703 24 = I 0 12 from hmI5.tab) dX13_sentence_67 ?_
                  refine g_ialde hc ca_711 (by decide) (by omega) (by omega) (show I5 711 (I 0 12) = I lb 0 from q_lm hmI5 (by omega)) dX13_sentence_70 ?_
                  refine g_icmp_ge (tgt := 113) hc dX13_sentence_71 (by decide) (by first | exact hI _ _ | exact hxI2 _ _ | exact hIa _ _ | exact hIb _ _ | exact g_b32 | exact g_and32 | assumption | exact ⟨by omega, by omega⟩) (by first | exact hI _ _ | exact hxI2 _ _ | exact hIa _ _ | exact hIb _ _ | exact g_b32 | exact g_and32 | assumption | exact ⟨by omega, by omega⟩) (fun c10 => ?_) (fun c10 => ?_)
                  · skip
                    refine g_iload hc dX13_sentence_113 rfl ?_
                    refine g_if_eq (tgt := 120) hc dX13_sentence_115 (by decide) (by first | exact hI _ _ | exact hxI2 _ _ | exact hIa _ _ | exact hIb _ _ | exact g_b32 | exact g_and32 | assumption | exact ⟨by omega, by omega⟩) (fun c11 => ?_) (fun c11 => ?_)
                    · skip
                      have hpi : ¬ g_rea I lb (g_thb I lb) i = true := by
                        rcases k6 with z9 | z9
                        · omega
                        · rw [z9.2]; decide
                      have hst9 : x_fw (fun set => g_rea I lb (g_thb I lb) set) (i + 1) e := h4.no ⟨by omega, by omega⟩ (Or.inr hpi)
                      refine g_iinc_3 hc dX13_sentence_120 rfl ?_
                      refine g_goto (tgt := 28) hc dX13_sentence_123 (by decide) ?_
                      refine G_sub (L' := [some (gvr w 703), some (gvI (g_thb I lb)), some (gvI e), some (gvI (i + 1)), none, none]) (show g_le _ _ from ⟨rfl, ⟨rfl, ⟨rfl, ⟨rfl, trivial⟩⟩⟩⟩) ?_
                      refine ih_28 _ _ ?_ ?_ ?_ ?_
                      · omega
                      · exact hst9
                      · omega
                      · omega
                    · skip
                      have hpi : g_rea I lb (g_thb I lb) i = true := by
                        rcases k6 with z9 | z9
                        · rw [z9.2, g_all_e (by omega)]
                        · omega
                      have hst9 : x_fw (fun set => g_rea I lb (g_thb I lb) set) (i + 1) i := h4.yes ⟨by omega, by omega⟩ hcc hpi
                      refine g_iload_n hc dX13_sentence_118 rfl ?_
                      refine g_istore_2 hc dX13_sentence_119 rfl ?_
                      refine g_iinc_3 hc dX13_sentence_120 rfl ?_
                      refine g_goto (tgt := 28) hc dX13_sentence_123 (by decide) ?_
                      refine G_sub (L' := [some (gvr w 703), some (gvI (g_thb I lb)), some (gvI i), some (gvI (i + 1)), none, none]) (show g_le _ _ from ⟨rfl, ⟨rfl, ⟨rfl, ⟨rfl, trivial⟩⟩⟩⟩) ?_
                      refine ih_28 _ _ ?_ ?_ ?_ ?_
                      · omega
                      · exact hst9
                      · omega
                      · omega
                  · skip
                    refine g_iload hc dX13_sentence_74 rfl ?_
                    refine g_if_eq (tgt := 104) hc dX13_sentence_76 (by decide) (by first | exact hI _ _ | exact hxI2 _ _ | exact hIa _ _ | exact hIb _ _ | exact g_b32 | exact g_and32 | assumption | exact ⟨by omega, by omega⟩) (fun c12 => ?_) (fun c12 => ?_)
                    · skip
                      have hst9 : ((0 : Int) = 1 ∧ g_rea I lb (g_thb I lb) i = g_all (fun t => decide (¬ (g_bit (g_thb I lb) t ∧ g_and (g_fct I lb t) i = 0))) (I lb 0 - (u + 1)).toNat (u + 1) ∨ (0 : Int) = 0 ∧ g_rea I lb (g_thb I lb) i = false) := by
                        rcases k6 with z9 | z9
                        · omega
                        · exact Or.inr ⟨rfl, z9.2⟩
                      refine g_iconst hc dX13_sentence_104 ?_
                      refine g_istore_4 hc dX13_sentence_105 rfl ?_
                      refine g_iinc_5 hc dX13_sentence_107 rfl ?_
                      refine g_goto (tgt := 60) hc dX13_sentence_110 (by decide) ?_
                      refine ih_60 _ _ ?_ ?_ ?_
                      · omega
                      · exact hst9
                      · omega
                    · skip
                      have hz1 : g_rea I lb (g_thb I lb) i = g_all (fun t => decide (¬ (g_bit (g_thb I lb) t ∧ g_and (g_fct I lb t) i = 0))) (I lb 0 - u).toNat u := by
                        rcases k6 with z9 | z9
                        · exact z9.2
                        · omega
                      refine g_iload_n hc dX13_sentence_79 rfl ?_
                      refine g_iload hc dX13_sentence_80 rfl ?_
                      refine g_S2r hc (c_X13_has w) my_X13_has ms_X13_has lm_X13_224 rfl (by decide) (Nat.le_of_ble_eq_true rfl) hm dX13_sentence_82 ?_
                      refine g_ifb_eq (tgt := 100) hc dX13_sentence_85 (by decide)  (fun c13 => ?_) (fun c13 => ?_)
                      · skip
                        have hst9 : ((1 : Int) = 1 ∧ g_rea I lb (g_thb I lb) i = g_all (fun t => decide (¬ (g_bit (g_thb I lb) t ∧ g_and (g_fct I lb t) i = 0))) (I lb 0 - (u + 1)).toNat (u + 1) ∨ (1 : Int) = 0 ∧ g_rea I lb (g_thb I lb) i = false) := Or.inl ⟨rfl, by rw [hz1, g_all_t (by omega) (decide_eq_true (show ¬ (g_bit (g_thb I lb) u ∧ g_and (g_fct I lb u) i = 0) from fun w => c13 w.1))]⟩
                        refine g_iconst hc dX13_sentence_100 ?_
                        refine g_goto (tgt := 105) hc dX13_sentence_101 (by decide) ?_
                        refine g_istore_4 hc dX13_sentence_105 rfl ?_
                        refine g_iinc_5 hc dX13_sentence_107 rfl ?_
                        refine g_goto (tgt := 60) hc dX13_sentence_110 (by decide) ?_
                        refine ih_60 _ _ ?_ ?_ ?_
                        · omega
                        · exact hst9
                        · omega
                      · skip
                        have hb9 := c13
                        refine g_aldn hc dX13_sentence_88 rfl ?_
                        refine g_getRk hc lk_X13_78 ca_703 (rc_703_34 hR) dX13_sentence_89 ?_
                        refine g_iload hc dX13_sentence_92 rfl ?_
                        refine g_ialde hc ca_720 (by decide) (by omega) (by omega) (show I5 720 u = g_fct I lb u from hr8 u (by omega) (by omega)) dX13_sentence_94 ?_
                        refine g_iload_n hc dX13_sentence_95 rfl ?_
                        refine g_iand hc dX13_sentence_96 ?_
                        refine g_if_eq (tgt := 104) hc dX13_sentence_97 (by decide) (by first | exact hI _ _ | exact hxI2 _ _ | exact hIa _ _ | exact hIb _ _ | exact g_b32 | exact g_and32 | assumption | exact ⟨by omega, by omega⟩) (fun c14 => ?_) (fun c14 => ?_)
                        · skip
                          have hst9 : ((0 : Int) = 1 ∧ g_rea I lb (g_thb I lb) i = g_all (fun t => decide (¬ (g_bit (g_thb I lb) t ∧ g_and (g_fct I lb t) i = 0))) (I lb 0 - (u + 1)).toNat (u + 1) ∨ (0 : Int) = 0 ∧ g_rea I lb (g_thb I lb) i = false) := Or.inr ⟨rfl, by rw [hz1, g_all_f (by omega) (fun z => (of_decide_eq_true z) (⟨hb9, c14⟩))]⟩
                          refine g_iconst hc dX13_sentence_104 ?_
                          refine g_istore_4 hc dX13_sentence_105 rfl ?_
                          refine g_iinc_5 hc dX13_sentence_107 rfl ?_
                          refine g_goto (tgt := 60) hc dX13_sentence_110 (by decide) ?_
                          refine ih_60 _ _ ?_ ?_ ?_
                          · omega
                          · exact hst9
                          · omega
                        · skip
                          have hst9 : ((1 : Int) = 1 ∧ g_rea I lb (g_thb I lb) i = g_all (fun t => decide (¬ (g_bit (g_thb I lb) t ∧ g_and (g_fct I lb t) i = 0))) (I lb 0 - (u + 1)).toNat (u + 1) ∨ (1 : Int) = 0 ∧ g_rea I lb (g_thb I lb) i = false) := Or.inl ⟨rfl, by rw [hz1, g_all_t (by omega) (decide_eq_true (show ¬ (g_bit (g_thb I lb) u ∧ g_and (g_fct I lb u) i = 0) from fun w => c14 w.2))]⟩
                          refine g_iconst hc dX13_sentence_100 ?_
                          refine g_goto (tgt := 105) hc dX13_sentence_101 (by decide) ?_
                          refine g_istore_4 hc dX13_sentence_105 rfl ?_
                          refine g_iinc_5 hc dX13_sentence_107 rfl ?_
                          refine g_goto (tgt := 60) hc dX13_sentence_110 (by decide) ?_
                          refine ih_60 _ _ ?_ ?_ ?_
                          · omega
                          · exact hst9
                          · omega
              refine lp_60 13 _ _ ?_ ?_ (?_)
              · omega
              · exact Or.inl ⟨rfl, by rw [Int.sub_zero]; rfl⟩
              · omega
            · skip
              have hst9 : x_fw (fun set => g_rea I lb (g_thb I lb) set) (i + 1) e := h4.no ⟨by omega, by omega⟩ (Or.inl ⟨by omega, by omega⟩)
              refine g_goto (tgt := 120) hc dX13_sentence_51 (by decide) ?_
              refine g_iinc_3 hc dX13_sentence_120 rfl ?_
              refine g_goto (tgt := 28) hc dX13_sentence_123 (by decide) ?_
              refine ih_28 _ _ ?_ ?_ ?_ ?_
              · omega
              · exact hst9
              · omega
              · omega
    refine lp_28 1025 _ _ ?_ ?_ ?_ (?_)
    · omega
    · exact Or.inl ⟨rfl, rfl, fun j a c => by omega⟩
    · omega
    · omega
  · skip
    refine g_iconst hc dX13_sentence_13 ?_
    refine g_iret hc hm dX13_sentence_14 ?_
    exact x_end (by rw [if_neg (by omega)]) hfI3 hmI3.g hR
