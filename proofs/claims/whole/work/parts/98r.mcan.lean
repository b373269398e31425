/-- what ODDS move -/
abbrev x_o (k : Nat) (j : Int) : Prop := k = 707 ∨ k = 715 ∨ k = 716 ∨ (k = 703 ∧ (j = 0 ∨ (8 ≤ j ∧ j ≤ 14) ∨ j = 17 ∨ j = 29))
theorem x_to {k : Nat} {j : Int} (h : x_t k j) : x_o k j := by unfold x_t at h; unfold x_o; omega
theorem x_wo {k : Nat} {j : Int} (h : x_w k j) : x_o k j := by unfold x_w at h; unfold x_o; omega
theorem x_no {k : Nat} {j : Int} (h : x_n k j) : x_o k j := by unfold x_n at h; unfold x_o; omega
theorem x_oa {k : Nat} {j : Int} (h : x_o k j) : x_a k j := by unfold x_o at h; unfold x_a; omega
set_option maxHeartbeats 4000000 in
set_option maxRecDepth 100000 in
/-- X13_oddsOf -/
theorem c2_X13_oddsOf (w : g_W) {I : g_I} {J : g_J} {R : g_R} {lb tx : Nat} (hR : g_rf w R lb tx) {M : g_I} (hmM : q_rel I lb M) {s : Int} (h1 : 0 ≤ s ∧ s < I lb 0) : g_Met w g_n M J R yX13_oddsOf cX13_oddsOf 7 (some .int) 37 0 0 [(gvr w 703), (gvI s)] (fun rr nn II JJ RR => x_rel w (some (gvI (g_pts I lb s 0))) x_o M J lb rr nn II JJ RR ∧ 0 ≤ g_pts I lb s 0 ∧ g_pts I lb s 0 ≤ 1000000000) := by
  refine g_intro (own := RX13) [some (gvr w 703), some (gvI s), none, none, none, none, none] (by decide +kernel) rfl (by decide) (Nat.le_of_ble_eq_true rfl) rfl (fun i v hv => g_args 5 i v hv rfl) (fun x hc hm => ?_)
  have hfM : ∀ (k : Nat) (j : Int), ¬ x_o k j → M k j = M k j := fun _ _ _ => rfl
  have hI := hmM.gi
  have hTb := q_b1 hmM
  have hLv := hmM.lv
  have hC := hmM.cin
  have hL := hC.1
  obtain ⟨hn0, hn1, hLs, hLf⟩ := id hL
  obtain ⟨-, hC1, hC2, hC3, hC4, hC5, hC6, hC7⟩ := id hC
  have hTs := q_ts hmM (by omega)
  obtain ⟨hst, hway, hg0, hg1, hg2, hg3, hg4, hg5, hg6⟩ := hLs s h1.1 h1.2
  refine g_aldn hc dX13_oddsOf_0 rfl ?_
  refine g_aldn hc dX13_oddsOf_1 rfl ?_
  refine g_getIe hc lk_X13_52 ca_703 24 rfl (show M 703 24 = I 0 12 from hmM.tab) dX13_oddsOf_2 ?_
  refine g_iload_n hc dX13_oddsOf_5 rfl ?_
  refine g_V2 hc (c_X13_layWay w hR hmM (q_lfS hmM (by omega)) (by omega) (by omega)) my_X13_layWay mv_X13_layWay ca_703 rfl rfl lm_X13_310 rfl (by decide) (Nat.le_of_ble_eq_true rfl) hm dX13_oddsOf_6 (fun r3 n3 I3 J3 R3 hp3 => ?_)
  obtain ⟨⟨rfl, rfl, hK3, hX3, rfl, t3, hR⟩, hwI3⟩ := hp3
  have hmI3 : q_rel I lb I3 := q_cg (fun k j hk => hK3 k j (fun z => hk (x_wa z))) hX3 hmM
  have hfI3 : ∀ (k : Nat) (j : Int), ¬ x_o k j → I3 k j = M k j := fun k j hk => (hK3 k j (fun z => hk (x_wo z))).trans (hfM k j hk)
  refine g_ldc2 (k := 1000000000) hc dX13_oddsOf_9 _ lc_X13_356 (by decide +kernel) ?_
  refine g_lstore_2 hc dX13_oddsOf_12 rfl ?_
  refine g_iconst hc dX13_oddsOf_13 ?_
  refine g_istore_4 hc dX13_oddsOf_14 rfl ?_
  have lp_16 : ∀ (fu : Nat) (p i : Int) (Mm : g_I) (Rm : g_R), 0 ≤ i ∧ i ≤ I (lb + 14) s → p = g_ptn I lb s (fun f => if (0 : Int) = 0 then I 550 (4 + f) else g_shl 1 (I (lb + 43) f) - 1) i.toNat → 0 ≤ p ∧ p ≤ 1000000000 → (∃ tm, g_rf w Rm lb tm) → q_rel I lb Mm → (∀ (k : Nat) (j : Int), ¬ x_o k j → Mm k j = M k j) → x_wy I lb s Mm → I (lb + 14) s - i < (fu : Int) → G w x (fun rr nn II JJ RR => x_rel w (some (gvI (g_pts I lb s 0))) x_o M J lb rr nn II JJ RR ∧ 0 ≤ g_pts I lb s 0 ∧ g_pts I lb s 0 ≤ 1000000000) 0 0 g_n Mm J Rm 16 [some (gvr w 703), some (gvI s), some (gvL p), none, some (gvI i), none, none] [] := by
    intro fu
    induction fu with
    | zero => intro p i Mm Rm h3 h4 h5 hR hmMm hfMm hwMm hfu; exfalso; omega
    | succ fu ih =>
      intro p i Mm Rm h3 h4 h5 hR hmMm hfMm hwMm hfu
      obtain ⟨tm, hR⟩ := hR
      have ih_16 := ih
      refine g_iload hc dX13_oddsOf_16 rfl ?_
      refine g_aldn hc dX13_oddsOf_18 rfl ?_
      refine g_getIe hc lk_X13_307 ca_703 29 rfl (show Mm 703 29 = I (lb + 14) s from hwMm.1) dX13_oddsOf_19 ?_
      refine g_icmp_ge (tgt := 159) hc dX13_oddsOf_22 (by decide) (by first | exact hI _ _ | exact hxI2 _ _ | exact hIa _ _ | exact hIb _ _ | exact g_b32 | exact g_and32 | assumption | exact ⟨by omega, by omega⟩) (by first | exact hI _ _ | exact hxI2 _ _ | exact hIa _ _ | exact hIb _ _ | exact g_b32 | exact g_and32 | assumption | exact ⟨by omega, by omega⟩) (fun c1 => ?_) (fun c1 => ?_)
      · skip
        refine g_lload_n hc dX13_oddsOf_159 rfl ?_
        refine g_l2i hc dX13_oddsOf_160 ?_
        refine g_iret hc hm dX13_oddsOf_161 ?_
        have hE : p = g_pts I lb s 0 := by rw [h4, show i = I (lb + 14) s by omega]; rfl
        exact ⟨x_end hE hfMm hmMm.g hR, by omega, by omega⟩
      · skip
        refine g_aldn hc dX13_oddsOf_25 rfl ?_
        refine g_getRk hc lk_X13_63 ca_703 (rc_703_27 hR) dX13_oddsOf_26 ?_
        refine g_iload hc dX13_oddsOf_29 rfl ?_
        refine g_ialde hc ca_715 (by decide) (by omega) (by omega) (show Mm 715 i = I (lb + 16 + s.toNat) i from (hwMm.2 _ (by omega) (by omega)).1) dX13_oddsOf_31 ?_
        refine g_istore_5 hc dX13_oddsOf_32 rfl ?_
        refine g_aldn hc dX13_oddsOf_34 rfl ?_
        refine g_getRk hc lk_X13_66 ca_703 (rc_703_28 hR) dX13_oddsOf_35 ?_
        refine g_iload hc dX13_oddsOf_38 rfl ?_
        refine g_ialde hc ca_716 (by decide) (by omega) (by omega) (show Mm 716 i = I (lb + 29 + s.toNat) i from (hwMm.2 _ (by omega) (by omega)).2) dX13_oddsOf_40 ?_
        refine g_istore_6 hc dX13_oddsOf_41 rfl ?_
        obtain ⟨⟨hw1, hw2⟩, hw3, hw4⟩ := hway i h3.1 (by omega)
        obtain ⟨hk2, hk1, hy, hit⟩ := hLf _ hw1 hw2
        obtain ⟨hb0, hb1, hb2, hb3, hb4, htg⟩ := hit _ hw3 hw4
        refine g_aldn hc dX13_oddsOf_43 rfl ?_
        refine g_getRk hc lk_X13_56 ca_703 (rc_703_25 hR) dX13_oddsOf_44 ?_
        refine g_iconst hc dX13_oddsOf_47 ?_
        refine g_iload hc dX13_oddsOf_48 rfl ?_
        refine g_imul hc dX13_oddsOf_50 ?_
        refine g_iload hc dX13_oddsOf_51 rfl ?_
        refine g_iadd hc dX13_oddsOf_53 ?_
        refine g_zalde hc ca_713 (by decide) (by omega) (by omega) (show Mm 713 ((4 * (I (lb + 16 + s.toNat) i)) + (I (lb + 29 + s.toNat) i)) = g_b (g_bit (I 550 (4 + (I (lb + 16 + s.toNat) i))) (I (lb + 29 + s.toNat) i)) from hmMm.opn (by omega) (by omega)) dX13_oddsOf_54 ?_
        refine g_ifb_ne (tgt := 60) hc dX13_oddsOf_55 (by decide)  (fun c2 => ?_) (fun c2 => ?_)
        · skip
          have hop := c2
          have hb1 : g_and (g_shr (I 550 (4 + I (lb + 16 + s.toNat) i)) (I (lb + 29 + s.toNat) i)) 1 = 1 := hop
          have hwg := g_wt_ge (m := I 550 (4 + I (lb + 16 + s.toNat) i)) (fun r h0 h9 => (hit r h0 h9).1) hw3 hop (I (lb + 43) (I (lb + 16 + s.toNat) i)).toNat (by omega) (by omega)
          have hwi := g_wt_in (m := I 550 (4 + I (lb + 16 + s.toNat) i)) (fun r h0 h9 => (hit r h0 h9).1) (I (lb + 43) (I (lb + 16 + s.toNat) i)).toNat (by omega)
          have hm15 := q_bc1 (hC7 _ hw1 hw2)
          have hmd := g_mulDiv (p := p) (a := I (lb + 47 + (I (lb + 16 + s.toNat) i * 4 + I (lb + 29 + s.toNat) i).toNat) 0) (c := g_wt I lb (I (lb + 16 + s.toNat) i) (I 550 (4 + I (lb + 16 + s.toNat) i)) (I (lb + 43) (I (lb + 16 + s.toNat) i)).toNat) (by omega) (by omega) (by omega) (by omega)
          have htd := g_tdiv1 (p := p) (c := g_bc (I 550 (4 + I (lb + 16 + s.toNat) i))) (by omega) (by omega)
          have hml := g_mulb (a := p) (b := I (lb + 47 + (I (lb + 16 + s.toNat) i * 4 + I (lb + 29 + s.toNat) i).toNat) 0) (m := 1000000000) (n := 9) (by omega) (by omega)
          refine g_aldn hc dX13_oddsOf_60 rfl ?_
          refine g_getRk hc lk_X13_40 ca_703 (rc_703_19 hR) dX13_oddsOf_61 ?_
          refine g_aldn hc dX13_oddsOf_64 rfl ?_
          refine g_aldn hc dX13_oddsOf_65 rfl ?_
          refine g_getIe hc lk_X13_52 ca_703 24 rfl (show Mm 703 24 = I 0 12 from hmMm.tab) dX13_oddsOf_66 ?_
          refine g_iload hc dX13_oddsOf_69 rfl ?_
          refine g_V2r hc (c_X13_forkAt w) my_X13_forkAt mv_X13_forkAt ca_703 rfl rfl lm_X13_249 rfl (by decide) (Nat.le_of_ble_eq_true rfl) hm dX13_oddsOf_71 ?_
          refine g_iconst hc dX13_oddsOf_74 ?_
          refine g_iadd hc dX13_oddsOf_75 ?_
          refine g_ialde hc ca_709 (by decide) (by omega) (by omega) (show Mm 709 ((((I 0 12) * 18 + (I (lb + 16 + s.toNat) i)) * 5) + 1) = I (lb + 42) (I (lb + 16 + s.toNat) i) from q_kd hmMm (by omega)) dX13_oddsOf_76 ?_
          refine g_iconst hc dX13_oddsOf_77 ?_
          refine g_icmp_ne (tgt := 113) hc dX13_oddsOf_78 (by decide) (by first | exact hI _ _ | exact hxI2 _ _ | exact hIa _ _ | exact hIb _ _ | exact g_b32 | exact g_and32 | assumption | exact ⟨by omega, by omega⟩) (by first | exact hI _ _ | exact hxI2 _ _ | exact hIa _ _ | exact hIb _ _ | exact g_b32 | exact g_and32 | assumption | exact ⟨by omega, by omega⟩) (fun c3 => ?_) (fun c3 => ?_)
          · skip
            refine g_aldn hc dX13_oddsOf_113 rfl ?_
            refine g_getRk hc lk_X13_60 ca_703 (rc_703_26 hR) dX13_oddsOf_114 ?_
            refine g_iconst hc dX13_oddsOf_117 ?_
            refine g_ialde hc ca_714 (by decide) (by omega) (by omega) (show Mm 714 0 = I 550 0 from hmMm.told (by omega)) dX13_oddsOf_118 ?_
            refine g_iconst hc dX13_oddsOf_119 ?_
            refine g_icmp_ne (tgt := 136) hc dX13_oddsOf_120 (by decide) (by first | exact hI _ _ | exact hxI2 _ _ | exact hIa _ _ | exact hIb _ _ | exact g_b32 | exact g_and32 | assumption | exact ⟨by omega, by omega⟩) (by first | exact hI _ _ | exact hxI2 _ _ | exact hIa _ _ | exact hIb _ _ | exact g_b32 | exact g_and32 | assumption | exact ⟨by omega, by omega⟩) (fun c4 => ?_) (fun c4 => ?_)
            · skip
              refine g_aldn hc dX13_oddsOf_136 rfl ?_
              refine g_iload hc dX13_oddsOf_137 rfl ?_
              refine g_V1 hc (c_X13_choice w hR hmMm (by omega)) my_X13_choice mv_X13_choice ca_703 rfl rfl lm_X13_361 rfl (by decide) (Nat.le_of_ble_eq_true rfl) hm dX13_oddsOf_139 (fun r4 n4 I4 J4 R4 hp4 => ?_)
              obtain ⟨rfl, rfl, hK4, hX4, rfl, t4, hR⟩ := hp4
              have hmI4 : q_rel I lb I4 := q_cg (fun k j hk => hK4 k j (fun z => hk (x_ta z))) hX4 hmMm
              have hfI4 : ∀ (k : Nat) (j : Int), ¬ x_o k j → I4 k j = M k j := fun k j hk => (hK4 k j (fun z => hk (x_to z))).trans (hfMm k j hk)
              have hwI4 : x_wy I lb s I4 := x_wy_cg hK4 hwMm
              refine g_iload hc dX13_oddsOf_142 rfl ?_
              refine g_icmp_ne (tgt := 151) hc dX13_oddsOf_144 (by decide) (g_cho32 hk2 (by omega)) (hI _ _) (fun c5 => ?_) (fun c5 => ?_)
              · skip
                refine g_lconst hc dX13_oddsOf_151 0 (by decide +kernel) ?_
                refine g_lstore_2 hc dX13_oddsOf_152 rfl ?_
                refine g_iinc_4 hc dX13_oddsOf_153 rfl ?_
                refine g_goto (tgt := 16) hc dX13_oddsOf_156 (by decide) ?_
                refine G_sub (L' := [some (gvr w 703), some (gvI s), some (gvL 0), none, some (gvI (i + 1)), none, none]) (show g_le _ _ from ⟨rfl, ⟨rfl, ⟨rfl, ⟨rfl, trivial⟩⟩⟩⟩) ?_
                refine ih_16 _ _ _ _ ?_ ?_ ?_ ?_ ?_ ?_ ?_ ?_
                · omega
                · rw [g_ptn_i h3.1, ← h4]; show _ = g_pbh I lb p (I (lb + 16 + s.toNat) i) (I (lb + 29 + s.toNat) i) (if (0 : Int) = 0 then I 550 (4 + I (lb + 16 + s.toNat) i) else _); rw [if_pos rfl, g_pbh, if_neg (by omega), if_neg (by omega), if_neg (by omega), if_neg (by assumption)]
                · omega
                · exact ⟨_, hR⟩
                · exact hmI4
                · exact hfI4
                · exact hwI4
                · omega
              · skip
                refine g_lload_n hc dX13_oddsOf_147 rfl ?_
                refine g_goto (tgt := 152) hc dX13_oddsOf_148 (by decide) ?_
                refine g_lstore_2 hc dX13_oddsOf_152 rfl ?_
                refine g_iinc_4 hc dX13_oddsOf_153 rfl ?_
                refine g_goto (tgt := 16) hc dX13_oddsOf_156 (by decide) ?_
                refine G_sub (L' := [some (gvr w 703), some (gvI s), some (gvL p), none, some (gvI (i + 1)), none, none]) (show g_le _ _ from ⟨rfl, ⟨rfl, ⟨rfl, ⟨rfl, trivial⟩⟩⟩⟩) ?_
                refine ih_16 _ _ _ _ ?_ ?_ ?_ ?_ ?_ ?_ ?_ ?_
                · omega
                · rw [g_ptn_i h3.1, ← h4]; show _ = g_pbh I lb p (I (lb + 16 + s.toNat) i) (I (lb + 29 + s.toNat) i) (if (0 : Int) = 0 then I 550 (4 + I (lb + 16 + s.toNat) i) else _); rw [if_pos rfl, g_pbh, if_neg (by omega), if_neg (by omega), if_neg (by omega), if_pos (by assumption)]
                · omega
                · exact ⟨_, hR⟩
                · exact hmI4
                · exact hfI4
                · exact hwI4
                · omega
            · skip
              refine g_lload_n hc dX13_oddsOf_123 rfl ?_
              refine g_aldn hc dX13_oddsOf_124 rfl ?_
              refine g_iload hc dX13_oddsOf_125 rfl ?_
              refine g_V1r hc (c_X13_openMany w hR hmMm (by omega)) my_X13_openMany mv_X13_openMany ca_703 rfl rfl lm_X13_329 rfl (by decide) (Nat.le_of_ble_eq_true rfl) hm dX13_oddsOf_127 ?_
              refine g_i2l hc dX13_oddsOf_130 (by first | exact hI _ _ | exact hxI2 _ _ | exact hIa _ _ | exact hIb _ _ | exact g_b32 | exact g_and32 | assumption | exact ⟨by omega, by omega⟩) ?_
              refine g_ldiv hc dX13_oddsOf_131 (by exact ⟨by omega, by omega⟩) (by exact ⟨by omega, by omega⟩) (by omega) ?_
              refine g_lstore_2 hc dX13_oddsOf_132 rfl ?_
              refine g_goto (tgt := 153) hc dX13_oddsOf_133 (by decide) ?_
              refine g_iinc_4 hc dX13_oddsOf_153 rfl ?_
              refine g_goto (tgt := 16) hc dX13_oddsOf_156 (by decide) ?_
              refine G_sub (L' := [some (gvr w 703), some (gvI s), some (gvL (p.tdiv (g_bc (I 550 (4 + (I (lb + 16 + s.toNat) i)))))), none, some (gvI (i + 1)), none, none]) (show g_le _ _ from ⟨rfl, ⟨rfl, ⟨rfl, ⟨rfl, trivial⟩⟩⟩⟩) ?_
              refine ih_16 _ _ _ _ ?_ ?_ ?_ ?_ ?_ ?_ ?_ ?_
              · omega
              · rw [g_ptn_i h3.1, ← h4]; show _ = g_pbh I lb p (I (lb + 16 + s.toNat) i) (I (lb + 29 + s.toNat) i) (if (0 : Int) = 0 then I 550 (4 + I (lb + 16 + s.toNat) i) else _); rw [if_pos rfl, g_pbh, if_neg (by omega), if_neg (by omega), if_pos (by omega), if_neg (by omega)]
              · omega
              · exact ⟨_, hR⟩
              · exact hmMm
              · exact hfMm
              · exact hwMm
              · omega
          · skip
            refine g_lload_n hc dX13_oddsOf_81 rfl ?_
            refine g_aldn hc dX13_oddsOf_82 rfl ?_
            refine g_getRk hc lk_X13_43 ca_703 (rc_703_20 hR) dX13_oddsOf_83 ?_
            refine g_aldn hc dX13_oddsOf_86 rfl ?_
            refine g_aldn hc dX13_oddsOf_87 rfl ?_
            refine g_getIe hc lk_X13_52 ca_703 24 rfl (show Mm 703 24 = I 0 12 from hmMm.tab) dX13_oddsOf_88 ?_
            refine g_iload hc dX13_oddsOf_91 rfl ?_
            refine g_iload hc dX13_oddsOf_93 rfl ?_
            refine g_V3r hc (c_X13_branchAt w) my_X13_branchAt mv_X13_branchAt ca_703 rfl rfl lm_X13_262 rfl (by decide) (Nat.le_of_ble_eq_true rfl) hm dX13_oddsOf_95 ?_
            refine g_ialde hc ca_710 (by decide) (by omega) (by omega) (show Mm 710 ((((I 0 12) * 18 + (I (lb + 16 + s.toNat) i)) * 4 + (I (lb + 29 + s.toNat) i)) * 6) = I (lb + 47 + ((I (lb + 16 + s.toNat) i) * 4 + (I (lb + 29 + s.toNat) i)).toNat) 0 from q_b0 hmMm (by omega) (by omega)) dX13_oddsOf_98 ?_
            refine g_i2l hc dX13_oddsOf_99 (by first | exact hI _ _ | exact hxI2 _ _ | exact hIa _ _ | exact hIb _ _ | exact g_b32 | exact g_and32 | assumption | exact ⟨by omega, by omega⟩) ?_
            refine g_lmul hc dX13_oddsOf_100 ?_
            refine g_aldn hc dX13_oddsOf_101 rfl ?_
            refine g_iload hc dX13_oddsOf_102 rfl ?_
            refine g_V1r hc (c_X13_weights w hR hmMm (by omega)) my_X13_weights mv_X13_weights ca_703 rfl rfl lm_X13_358 rfl (by decide) (Nat.le_of_ble_eq_true rfl) hm dX13_oddsOf_104 ?_
            refine g_i2l hc dX13_oddsOf_107 (by first | exact hI _ _ | exact hxI2 _ _ | exact hIa _ _ | exact hIb _ _ | exact g_b32 | exact g_and32 | assumption | exact ⟨by omega, by omega⟩) ?_
            refine g_ldiv hc dX13_oddsOf_108 (by exact ⟨by omega, by omega⟩) (by exact ⟨by omega, by omega⟩) (by omega) ?_
            refine g_lstore_2 hc dX13_oddsOf_109 rfl ?_
            refine g_goto (tgt := 153) hc dX13_oddsOf_110 (by decide) ?_
            refine g_iinc_4 hc dX13_oddsOf_153 rfl ?_
            refine g_goto (tgt := 16) hc dX13_oddsOf_156 (by decide) ?_
            refine G_sub (L' := [some (gvr w 703), some (gvI s), some (gvL ((p * (I (lb + 47 + ((I (lb + 16 + s.toNat) i) * 4 + (I (lb + 29 + s.toNat) i)).toNat) 0)).tdiv (g_wt I lb (I (lb + 16 + s.toNat) i) (I 550 (4 + (I (lb + 16 + s.toNat) i))) (I (lb + 43) (I (lb + 16 + s.toNat) i)).toNat))), none, some (gvI (i + 1)), none, none]) (show g_le _ _ from ⟨rfl, ⟨rfl, ⟨rfl, ⟨rfl, trivial⟩⟩⟩⟩) ?_
            refine ih_16 _ _ _ _ ?_ ?_ ?_ ?_ ?_ ?_ ?_ ?_
            · omega
            · rw [g_ptn_i h3.1, ← h4]; show _ = g_pbh I lb p (I (lb + 16 + s.toNat) i) (I (lb + 29 + s.toNat) i) (if (0 : Int) = 0 then I 550 (4 + I (lb + 16 + s.toNat) i) else _); rw [if_pos rfl, g_pbh, if_neg (by omega), if_pos (by omega), if_neg (by omega)]
            · omega
            · exact ⟨_, hR⟩
            · exact hmMm
            · exact hfMm
            · exact hwMm
            · omega
        · skip
          have hno := c2
          refine g_iconst hc dX13_oddsOf_58 ?_
          refine g_iret hc hm dX13_oddsOf_59 ?_
          have hz : g_pts I lb s 0 = 0 := g_ptn_z (i := (i + 1).toNat) (by rw [g_ptn_i h3.1]; show g_pbh I lb _ (I (lb + 16 + s.toNat) i) (I (lb + 29 + s.toNat) i) (if (0 : Int) = 0 then I 550 (4 + I (lb + 16 + s.toNat) i) else _) = 0; rw [if_pos rfl, g_pbh, if_pos (by have := @g_and1 (g_shr (I 550 (4 + I (lb + 16 + s.toNat) i)) (I (lb + 29 + s.toNat) i)); have hno2 : ¬ g_and (g_shr (I 550 (4 + I (lb + 16 + s.toNat) i)) (I (lb + 29 + s.toNat) i)) 1 = 1 := hno; omega)]) _ (by omega)
          exact ⟨x_end hz.symm hfMm hmMm.g hR, by omega, by omega⟩
  refine lp_16 7 _ _ _ _ ?_ ?_ ?_ ?_ ?_ ?_ ?_ (?_)
  · omega
  · rfl
  · omega
  · exact ⟨_, hR⟩
  · exact hmI3
  · exact hfI3
  · exact hwI3
  · omega
/-- the picture with all open -/
def g_ful (I : g_I) (lb : Nat) : g_I := fun k j => if k = 550 ∧ 4 ≤ j ∧ j < 4 + I lb 1 then g_shl 1 (I (lb + 43) (j - 4)) - 1 else I k j
section GFUL
variable {I : g_I} {b : Nat}
theorem g_ful_k {k : Nat} (h : k ≠ 550) : g_ful I b k = I k := funext fun j => if_neg (fun z => h z.1)
theorem g_ful_lo {j : Int} (h : j < 4) : g_ful I b 550 j = I 550 j := if_neg (fun z => by omega)
theorem g_ful_f {f : Int} (h : 0 ≤ f ∧ f < I b 1) : g_ful I b 550 (4 + f) = g_shl 1 (I (b + 43) f) - 1 := by
  unfold g_ful
  rw [if_pos ⟨rfl, by omega, by omega⟩, show 4 + f - 4 = f by omega]
theorem g_chs_cg {rank rank' : Int → Int} {mask : Int} : ∀ n : Nat, (∀ r : Int, 0 ≤ r → r < n → rank' r = rank r) → g_chs rank' mask n = g_chs rank mask n
  | 0, _ => rfl
  | n + 1, h => by
    have ih := g_chs_cg (rank := rank) (rank' := rank') (mask := mask) n (fun r a c => h r a (by omega))
    rw [g_chs, g_chs, ih, h n (by omega) (by omega)]
theorem g_pbh_ful (hb : (4 ≤ b ∧ b + 128 ≤ 388) ∨ b = 555) (hL : g_lok I b) {p f r m : Int} (hf : 0 ≤ f ∧ f < I b 1) (hr : 0 ≤ r ∧ r < I (b + 43) f) (ht : I 550 1 < 6) : g_pbh (g_ful I b) b p f r m = g_pbh I b p f r m := by
  have hn := hL.2.1
  have hk := (hL.2.2.2 f hf.1 hf.2).1
  have e : ∀ o : Nat, o < 128 → g_ful I b (b + o) = I (b + o) := fun o ho => g_ful_k (by omega)
  have e47 : ∀ r : Int, 0 ≤ r → r < 4 → g_ful I b (b + 47 + (f * 4 + r).toNat) = I (b + 47 + (f * 4 + r).toNat) := fun r a c => by rw [Nat.add_assoc]; exact e _ (by omega)
  have e0 : ∀ j : Int, j < 4 → g_ful I b 550 j = I 550 j := fun j hj => g_ful_lo hj
  have ew : g_wt (g_ful I b) b f m (I (b + 43) f).toNat = g_wt I b f m (I (b + 43) f).toNat := x_sum_eq _ (fun i i0 i1 => by
    show (if _ then g_ful I b (b + 47 + (f * 4 + i).toNat) 0 else 0) = _
    rw [e47 i i0 (by omega)])
  have er : ∀ i : Int, 0 ≤ i → i < I (b + 43) f → g_rnk (g_ful I b) b f i (g_bc m) = g_rnk I b f i (g_bc m) := fun i i0 i1 => by
    unfold g_rnk
    rw [e0 0 (by omega), e0 1 (by omega)]
    by_cases z1 : I 550 0 = 2
    · rw [if_pos z1, if_pos z1]
    · rw [if_neg z1, if_neg z1]
      by_cases z2 : ¬ I 550 0 = 0 ∨ I 550 1 = -1
      · rw [if_pos z2, if_pos z2]
      · rw [if_neg z2, if_neg z2]
        unfold g_tw
        rw [g_ful_k (k := 517 + 3 * (I 550 1).toNat) (by omega), g_ful_k (k := 517 + 3 * (I 550 1).toNat + 1) (by omega)]
        congr 1
        funext k
        unfold g_lt8
        rw [e47 i i0 (by omega), e 41 (by omega)]
  have ec : g_cho (g_ful I b) b f m = g_cho I b f m := by
    unfold g_cho
    rw [e 43 (by omega), g_chs_cg (I (b + 43) f).toNat (fun i i0 i1 => er i i0 (by omega))]
  unfold g_pbh
  rw [e 42 (by omega), e 43 (by omega), ew, ec, e47 r hr.1 (by omega), e0 0 (by omega)]
theorem g_pts_ful (hb : (4 ≤ b ∧ b + 128 ≤ 388) ∨ b = 555) (hL : g_lok I b) {s : Int} (hs : 0 ≤ s ∧ s < I b 0) (ht : I 550 1 < 6) : g_pts (g_ful I b) b s 0 = g_pts I b s 1 := by
  have hn := hL.1
  have hst := (hL.2.2.1 s hs.1 hs.2)
  have e : ∀ o : Nat, o < 128 → g_ful I b (b + o) = I (b + o) := fun o ho => g_ful_k (by omega)
  have e16 : g_ful I b (b + 16 + s.toNat) = I (b + 16 + s.toNat) := by rw [Nat.add_assoc]; exact e _ (by omega)
  have e29 : g_ful I b (b + 29 + s.toNat) = I (b + 29 + s.toNat) := by rw [Nat.add_assoc]; exact e _ (by omega)
  have key : ∀ n : Nat, (n : Int) ≤ I (b + 14) s → g_ptn (g_ful I b) b s (fun f => if (0 : Int) = 0 then g_ful I b 550 (4 + f) else g_shl 1 (g_ful I b (b + 43) f) - 1) n = g_ptn I b s (fun f => if (1 : Int) = 0 then I 550 (4 + f) else g_shl 1 (I (b + 43) f) - 1) n := by
    intro n
    induction n with
    | zero => intro _; rw [g_ptn, g_ptn]
    | succ n ih =>
      intro hl
      obtain ⟨⟨w1, w2⟩, w3, w4⟩ := hst.2.1 n (by omega) (by omega)
      rw [g_ptn, g_ptn, ih (by omega), e16, e29, g_pbh_ful hb hL ⟨w1, w2⟩ ⟨w3, w4⟩ ht]
      rw [if_pos rfl, if_neg (by decide), g_ful_f ⟨w1, w2⟩]
  unfold g_pts
  rw [e 14 (by omega)]
  exact key _ (by omega)
theorem g_ful32 (hL : g_lok I b) (h : ∀ k j, g32 (I k j)) : ∀ k j, g32 (g_ful I b k j) := by
  intro k j
  unfold g_ful
  split
  · rename_i hc
    have := x_full (hL.2.2.2 (j - 4) (by omega) (by omega)).1
    exact ⟨by omega, by omega⟩
  · exact h _ _
end GFUL
theorem q_ful {I M M' : g_I} {lb : Nat} (h : q_rel I lb M) (h3 : ∀ t : Int, 0 ≤ t → t < 72 → M' 713 t = 1) (hgm : ∀ k j, g32 (M' k j)) (hf : ∀ (k : Nat) (j : Int), ¬ x_b6 k j → M' k j = M k j) (h4 : ∀ j, M' 714 j = M 714 j) : q_rel (g_ful I lb) lb M' := by
  have hL := q_lok h
  obtain ⟨r0, r1, r2, r3, r4⟩ := h.row
  refine q_rel_mv h (fun k _ c => g_ful_k c) (g_ful32 hL h.gi) hgm ⟨by rw [g_ful_lo (by decide)]; exact r0, by rw [g_ful_lo (by decide)]; exact r1, by rw [g_ful_lo (by decide)]; exact r2, by rw [g_ful_lo (by decide)]; exact r3, fun f f0 f1 => ?_⟩ (fun k k0 k1 => by rw [g_ful_lo (by omega), h4]; exact h.told ⟨k0, k1⟩) (fun f f0 f1 r r0 r1 => ?_) hf
  · have hk := (hL.2.2.2 f f0 f1).1
    rw [g_ful_f ⟨f0, f1⟩]
    exact ⟨(x_full hk).1, by omega⟩
  · have hk := (hL.2.2.2 f f0 f1).1
    have hn := hL.2.1
    rw [g_ful_f ⟨f0, f1⟩, h3 _ (by omega) (by omega), g_b1 ((x_full hk).2 r r0 r1)]
theorem x_pos2 {I : g_I} {b : Nat} (hn : 0 ≤ I b 0 ∧ I b 0 ≤ 12) {s : Int} (h : 0 ≤ s ∧ s < I b 0) : g_bit (g_pos2 I b) s ↔ g_cbe I b s = true := by
  have := g_ors_bit (f := fun s => if g_cbe I b s = true then g_shl 1 s else 0) (p := fun k => g_cbe I b (k : Int)) (n := (I b 0).toNat) (by omega) (fun k _ => rfl) (k := s.toNat) (by omega)
  rw [show ((s.toNat : Nat) : Int) = s by omega] at this
  exact this
abbrev x_c (k : Nat) (j : Int) : Prop := x_a k j ∨ k = 713
set_option maxHeartbeats 4000000 in
set_option maxRecDepth 100000 in
/-- X13_can -/
theorem c_X13_can (w : g_W) {I : g_I} {J : g_J} {R : g_R} {lb tx : Nat} (hR : g_rf w R lb tx) {M : g_I} (hmM : q_rel I lb M) {k : Int} (g1 : g32 k) (hz3 : q_01 M 713) : g_Met w g_n M J R yX13_can cX13_can 6 (some .int) 38 0 0 [(gvr w 703), (gvI k)] (fun rr nn II JJ RR => x_rel w (some (gvI ((if (0 ≤ I 0 12 ∧ 0 ≤ k ∧ k ≤ 1) then (if k = 0 then g_pos2 I lb else g_lkl I lb) else -1)))) x_a M J lb rr nn II JJ RR ∧ ∀ t : Int, II 713 t = M 713 t) := by
  refine g_intro (own := RX13) [some (gvr w 703), some (gvI k), none, none, none, none] (by decide +kernel) rfl (by decide) (Nat.le_of_ble_eq_true rfl) rfl (fun i v hv => g_args 4 i v hv rfl) (fun x hc hm => ?_)
  have hfM : ∀ (k : Nat) (j : Int), ¬ x_a k j → M k j = M k j := fun _ _ _ => rfl
  have hI := hmM.gi
  have hTb := q_b1 hmM
  have hLv := hmM.lv
  have hC := hmM.cin
  have hL := hC.1
  obtain ⟨hn0, hn1, hLs, hLf⟩ := id hL
  obtain ⟨-, hC1, hC2, hC3, hC4, hC5, hC6, hC7⟩ := id hC
  have hN0 := q_n0 hmM
  have hck9 := hmM.clu.1.1
  obtain ⟨P9, hP9⟩ : ∃ P9, P9 = (fun rr nn II JJ RR => x_rel w (some (gvI ((if (0 ≤ I 0 12 ∧ 0 ≤ k ∧ k ≤ 1) then (if k = 0 then g_pos2 I lb else g_lkl I lb) else -1)))) x_a M J lb rr nn II JJ RR ∧ ∀ t : Int, II 713 t = M 713 t) := ⟨_, rfl⟩
  rw [← hP9]
  refine g_aldn hc dX13_can_0 rfl ?_
  refine g_iconst hc dX13_can_1 ?_
  refine g_putI' hc lk_X13_102 ca_703 0 rfl dX13_can_2 (fun I3 hI3 => ?_)
  have hmI3 : q_rel I lb I3 := by rw [hI3]; exact q_up hmM (by unfold x_a; omega) (by first | exact hI _ _ | exact hmM.g _ _ | exact g_b32 | exact g_and32 | exact g_or32 | exact g_shl32 | assumption | exact ⟨by omega, by omega⟩)
  have hfI3 : ∀ (k : Nat) (j : Int), ¬ x_a k j → I3 k j = M k j := fun k j hk => by rw [hI3]; exact (g_up_n (by unfold x_a at hk; omega)).trans (hfM k j hk)
  refine g_aldn hc dX13_can_5 rfl ?_
  refine g_getIe hc lk_X13_52 ca_703 24 rfl (show I3 703 24 = I 0 12 from hmI3.tab) dX13_can_6 ?_
  refine g_iconst hc dX13_can_9 ?_
  refine g_icmp_eq (tgt := 23) hc dX13_can_10 (by decide) (by first | exact hI _ _ | exact hxI2 _ _ | exact hIa _ _ | exact hIb _ _ | exact g_b32 | exact g_and32 | assumption | exact ⟨by omega, by omega⟩) (by first | exact hI _ _ | exact hxI2 _ _ | exact hIa _ _ | exact hIb _ _ | exact g_b32 | exact g_and32 | assumption | exact ⟨by omega, by omega⟩) (fun c1 => ?_) (fun c1 => ?_)
  · skip
    have hng : ¬ (0 ≤ I 0 12 ∧ 0 ≤ k ∧ k ≤ 1) := fun z => by omega
    refine g_iconst hc dX13_can_23 ?_
    refine g_iret hc hm dX13_can_24 ?_
    rw [hP9]
    exact ⟨x_end (by rw [if_neg hng]) hfI3 hmI3.g hR, fun t => hfI3 713 t (by unfold x_a; omega)⟩
  · skip
    refine g_iload_n hc dX13_can_13 rfl ?_
    refine g_i2l hc dX13_can_14 (by first | exact hI _ _ | exact hxI2 _ _ | exact hIa _ _ | exact hIb _ _ | exact g_b32 | exact g_and32 | assumption | exact ⟨by omega, by omega⟩) ?_
    refine g_lconst hc dX13_can_15 0 (by decide +kernel) ?_
    refine g_lconst hc dX13_can_16 1 (by decide +kernel) ?_
    refine g_S3r hc (c_X13_isIn w (by first | exact hI _ _ | exact hmM.g _ _ | exact g_b32 | exact g_and32 | exact g_or32 | exact g_shl32 | assumption | exact ⟨by omega, by omega⟩) (by first | exact hI _ _ | exact hmM.g _ _ | exact g_b32 | exact g_and32 | exact g_or32 | exact g_shl32 | assumption | exact ⟨by omega, by omega⟩) (by first | exact hI _ _ | exact hmM.g _ _ | exact g_b32 | exact g_and32 | exact g_or32 | exact g_shl32 | assumption | exact ⟨by omega, by omega⟩)) my_X13_isIn ms_X13_isIn lm_X13_231 rfl (by decide) (Nat.le_of_ble_eq_true rfl) hm dX13_can_17 ?_
    refine g_ifb_ne (tgt := 25) hc dX13_can_20 (by decide)  (fun c2 => ?_) (fun c2 => ?_)
    · skip
      have hpg : (0 ≤ I 0 12 ∧ 0 ≤ k ∧ k ≤ 1) := by omega
      have hTs := q_ts hmM (by omega)
      refine g_iconst hc dX13_can_25 ?_
      refine g_istore_2 hc dX13_can_26 rfl ?_
      refine g_iconst hc dX13_can_27 ?_
      refine g_istore_3 hc dX13_can_28 rfl ?_
      have lp_29 : ∀ (fu : Nat) (a i : Int) (Mm : g_I) (Rm : g_R), 0 ≤ i ∧ i ≤ I lb 0 → a = g_ors (fun s => if g_cbe I lb s = true then g_shl 1 s else 0) i.toNat → (∃ tm, g_rf w Rm lb tm) → q_rel I lb Mm → (∀ (k : Nat) (j : Int), ¬ x_a k j → Mm k j = M k j) → I lb 0 - i < (fu : Int) → G w x P9 0 0 g_n Mm J Rm 29 [some (gvr w 703), some (gvI k), some (gvI a), some (gvI i), none, none] [] := by
        intro fu
        induction fu with
        | zero => intro a i Mm Rm h3 h4 hR hmMm hfMm hfu; exfalso; omega
        | succ fu ih =>
          intro a i Mm Rm h3 h4 hR hmMm hfMm hfu
          obtain ⟨tm, hR⟩ := hR
          have ih_29 := ih
          refine g_iload_n hc dX13_can_29 rfl ?_
          refine g_aldn hc dX13_can_30 rfl ?_
          refine g_getRk hc lk_X13_46 ca_703 (rc_703_21 hR) dX13_can_31 ?_
          refine g_aldn hc dX13_can_34 rfl ?_
          refine g_getIe hc lk_X13_52 ca_703 24 rfl (show Mm 703 24 = I 0 12 from hmMm.tab) dX13_can_35 ?_
          refine g_ialde hc ca_711 (by decide) (by omega) (by omega) (show Mm 711 (I 0 12) = I lb 0 from q_lm hmMm (by omega)) dX13_can_38 ?_
          refine g_icmp_ge (tgt := 106) hc dX13_can_39 (by decide) (by first | exact hI _ _ | exact hxI2 _ _ | exact hIa _ _ | exact hIb _ _ | exact g_b32 | exact g_and32 | assumption | exact ⟨by omega, by omega⟩) (by first | exact hI _ _ | exact hxI2 _ _ | exact hIa _ _ | exact hIb _ _ | exact g_b32 | exact g_and32 | assumption | exact ⟨by omega, by omega⟩) (fun c3 => ?_) (fun c3 => ?_)
          · skip
            refine g_iload_n hc dX13_can_106 rfl ?_
            refine g_if_ne (tgt := 112) hc dX13_can_107 (by decide) (by first | exact hI _ _ | exact hxI2 _ _ | exact hIa _ _ | exact hIb _ _ | exact g_b32 | exact g_and32 | assumption | exact ⟨by omega, by omega⟩) (fun c4 => ?_) (fun c4 => ?_)
            · skip
              have hbits : a = g_pos2 I lb := by rw [h4, g_pos2, show I lb 0 = i by omega]
              have hgMm := hmMm.g
              have hmB := hmMm
              have hfB := hfMm
              have hfMm : ∀ (a : Nat) (c : Int), ¬ x_c a c → Mm a c = M a c := fun a c hk => hfB a c (fun y => hk (Or.inl y))
              refine g_iconst hc dX13_can_112 ?_
              refine g_istore_3 hc dX13_can_113 rfl ?_
              have lp_114 : ∀ (fu : Nat) (i : Int) (Mk : g_I), 0 ≤ i ∧ i ≤ 72 → (∀ t : Int, 0 ≤ t → t < i → Mk 724 t = M 713 t) → (∀ t : Int, 0 ≤ t → t < i → Mk 713 t = 1) → (∀ t : Int, t < 0 ∨ i ≤ t → Mk 713 t = M 713 t) → (∀ (k : Nat) (j : Int), g32 (Mk k j)) → (∀ (k : Nat) (j : Int), ¬ x_c k j → Mk k j = M k j) → 72 - i < (fu : Int) → G w x P9 0 0 g_n Mk J Rm 114 [some (gvr w 703), some (gvI k), some (gvI a), some (gvI i), none, none] [] := by
                intro fu
                induction fu with
                | zero => intro i Mk h3 hj1 hj2 hj3 hgMk hfMk hfu; exfalso; omega
                | succ fu ih =>
                  intro i Mk h3 hj1 hj2 hj3 hgMk hfMk hfu
                  have ih_114 := ih
                  refine g_iload_n hc dX13_can_114 rfl ?_
                  refine g_bipush hc dX13_can_115 (by decide +kernel) ?_
                  refine g_icmp_ge (tgt := 145) hc dX13_can_117 (by decide) (by first | exact hI _ _ | exact hxI2 _ _ | exact hIa _ _ | exact hIb _ _ | exact g_b32 | exact g_and32 | assumption | exact ⟨by omega, by omega⟩) (by first | exact hI _ _ | exact hxI2 _ _ | exact hIa _ _ | exact hIb _ _ | exact g_b32 | exact g_and32 | assumption | exact ⟨by omega, by omega⟩) (fun c5 => ?_) (fun c5 => ?_)
                  · skip
                    obtain ⟨F, hF⟩ : ∃ F, F = g_ful I lb := ⟨_, rfl⟩
                    have hmMk : q_rel F lb Mk := by rw [hF]; exact q_ful hmM (fun t t0 t1 => hj2 t t0 (by omega)) hgMk (fun a c hk => hfMk a c (by unfold x_b6 at hk; unfold x_c; omega)) (fun t => hfMk 714 t (by unfold x_c x_a; omega))
                    have hF0 : F 0 12 = I 0 12 := by rw [hF, g_ful_k (by decide)]
                    have hlbr := q_lbr hmM
                    have hFl : F lb = I lb := by rw [hF, g_ful_k (by omega)]
                    have hpt : ∀ s : Int, 0 ≤ s → s < I lb 0 → g_pts F lb s 0 = g_pts I lb s 1 := fun s s0 s1 => by rw [hF]; exact g_pts_ful hlbr hL ⟨s0, s1⟩ (by omega)
                    have hRk : ∃ tm, g_rf w Rm lb tm := ⟨_, hR⟩
                    have hkMk := hj1
                    have hoMk := hj3
                    refine g_iconst hc dX13_can_145 ?_
                    refine g_istore_3 hc dX13_can_146 rfl ?_
                    refine g_iconst hc dX13_can_147 ?_
                    refine g_istore_4 hc dX13_can_148 rfl ?_
                    refine g_iconst hc dX13_can_150 ?_
                    refine g_istore_5 hc dX13_can_151 rfl ?_
                    have lp_153 : ∀ (fu : Nat) (e p i : Int) (Mf : g_I) (Rf : g_R), 0 ≤ i ∧ i ≤ I lb 0 → e = (g_lkn I lb i.toNat).1 → p = (g_lkn I lb i.toNat).2 → (-1 ≤ e ∧ e < 12) ∧ g32 p → (∀ k j, g32 (Mf k j)) → (∀ t : Int, 0 ≤ t → t < 72 → Mf 724 t = M 713 t) → (∀ t : Int, t < 0 ∨ 72 ≤ t → Mf 713 t = M 713 t) → (∃ tm, g_rf w Rf lb tm) → q_rel F lb Mf → (∀ (k : Nat) (j : Int), ¬ x_c k j → Mf k j = M k j) → I lb 0 - i < (fu : Int) → G w x P9 0 0 g_n Mf J Rf 153 [some (gvr w 703), some (gvI k), some (gvI a), some (gvI e), some (gvI p), some (gvI i)] [] := by
                      intro fu
                      induction fu with
                      | zero => intro e p i Mf Rf h3 h4 h5 h7 hgMf hkMf hoMf hR hmMf hfMf hfu; exfalso; omega
                      | succ fu ih =>
                        intro e p i Mf Rf h3 h4 h5 h7 hgMf hkMf hoMf hR hmMf hfMf hfu
                        obtain ⟨tm, hR⟩ := hR
                        have ih_153 := ih
                        refine g_iload hc dX13_can_153 rfl ?_
                        refine g_aldn hc dX13_can_155 rfl ?_
                        refine g_getRk hc lk_X13_46 ca_703 (rc_703_21 hR) dX13_can_156 ?_
                        refine g_aldn hc dX13_can_159 rfl ?_
                        refine g_getIe hc lk_X13_52 ca_703 24 rfl (show Mf 703 24 = I 0 12 from hmMf.tab.trans hF0) dX13_can_160 ?_
                        refine g_ialde hc ca_711 (by decide) (by omega) (by omega) (show Mf 711 (I 0 12) = I lb 0 from by rw [← hF0]; exact (q_lm hmMf (by omega)).trans (by rw [hFl])) dX13_can_163 ?_
                        refine g_icmp_ge (tgt := 212) hc dX13_can_164 (by decide) (by first | exact hI _ _ | exact hxI2 _ _ | exact hIa _ _ | exact hIb _ _ | exact g_b32 | exact g_and32 | assumption | exact ⟨by omega, by omega⟩) (by first | exact hI _ _ | exact hxI2 _ _ | exact hIa _ _ | exact hIb _ _ | exact g_b32 | exact g_and32 | assumption | exact ⟨by omega, by omega⟩) (fun c6 => ?_) (fun c6 => ?_)
                        · skip
                          have hfin : e = g_lkl I lb := by rw [h4, g_lkl, show I lb 0 = i by omega]
                          refine g_iconst hc dX13_can_212 ?_
                          refine g_istore_5 hc dX13_can_213 rfl ?_
                          have lp_215 : ∀ (fu : Nat) (i : Int) (Mr : g_I), 0 ≤ i ∧ i ≤ 72 → (∀ t : Int, 0 ≤ t → t < i → Mr 713 t = M 713 t) → (∀ t : Int, 0 ≤ t → t < 72 → Mr 724 t = M 713 t) → (∀ t : Int, t < 0 ∨ 72 ≤ t → Mr 713 t = M 713 t) → (∀ (k : Nat) (j : Int), g32 (Mr k j)) → (∀ (k : Nat) (j : Int), ¬ x_c k j → Mr k j = M k j) → 72 - i < (fu : Int) → G w x P9 0 0 g_n Mr J Rf 215 [some (gvr w 703), some (gvI k), some (gvI a), some (gvI e), some (gvI p), some (gvI i)] [] := by
                            intro fu
                            induction fu with
                            | zero => intro i Mr h3 hj1r hkMr hoMr hgMr hfMr hfu; exfalso; omega
                            | succ fu ih =>
                              intro i Mr h3 hj1r hkMr hoMr hgMr hfMr hfu
                              have ih_215 := ih
                              refine g_iload hc dX13_can_215 rfl ?_
                              refine g_bipush hc dX13_can_217 (by decide +kernel) ?_
                              refine g_icmp_ge (tgt := 242) hc dX13_can_219 (by decide) (by first | exact hI _ _ | exact hxI2 _ _ | exact hIa _ _ | exact hIb _ _ | exact g_b32 | exact g_and32 | assumption | exact ⟨by omega, by omega⟩) (by first | exact hI _ _ | exact hxI2 _ _ | exact hIa _ _ | exact hIb _ _ | exact g_b32 | exact g_and32 | assumption | exact ⟨by omega, by omega⟩) (fun c7 => ?_) (fun c7 => ?_)
                              · skip
                                refine g_iload_n hc dX13_can_242 rfl ?_
                                refine g_iret hc hm dX13_can_243 ?_
                                have hall : ∀ t : Int, Mr 713 t = M 713 t := fun t => by
                                  by_cases z : 0 ≤ t ∧ t < 72
                                  · exact hj1r t z.1 (by omega)
                                  · exact hoMr t (by omega)
                                rw [hP9]
                                exact ⟨x_end (by rw [if_pos hpg, if_neg (by omega)]; exact hfin) (fun a c hk => by
                                  by_cases z : a = 713
                                  · rw [z]; exact hall c
                                  · exact hfMr a c (fun y => by rcases y with y | y; exact hk y; exact z y)) hgMr hR, hall⟩
                              · skip
                                refine g_aldn hc dX13_can_222 rfl ?_
                                refine g_getRk hc lk_X13_56 ca_703 (rc_703_25 hR) dX13_can_223 ?_
                                refine g_iload hc dX13_can_226 rfl ?_
                                refine g_aldn hc dX13_can_228 rfl ?_
                                refine g_getRk hc lk_X13_90 ca_703 (rc_703_39 hR) dX13_can_229 ?_
                                refine g_iload hc dX13_can_232 rfl ?_
                                refine g_zalde hc ca_724 (by decide) (by omega) (by omega) (show Mr 724 i = M 713 i from hkMr i (by omega) (by omega)) dX13_can_234 ?_
                                refine g_zast' hc ca_713 (by decide) (by omega) (by omega) (hz3 i) dX13_can_235 (fun I4 hI4 => ?_)
                                have hgI4 : ∀ (a : Nat) (c : Int), g32 (I4 a c) := by rw [hI4]; exact x_up32 hgMr (hmM.g _ _)
                                have hfI4 : ∀ (a : Nat) (c : Int), ¬ x_c a c → I4 a c = M a c := fun a c hk => by rw [hI4, g_up_n (by unfold x_c x_a at hk; omega)]; exact hfMr a c hk
                                have hk1 : (∀ t : Int, 0 ≤ t → t < (i + 1) → I4 713 t = M 713 t) := fun t t0 t1 => by
                                  rw [hI4]
                                  by_cases e : t = i
                                  · rw [e, g_up_s]
                                  · rw [g_up_i e]; exact hj1r t t0 (by omega)
                                have hk2 : (∀ t : Int, 0 ≤ t → t < 72 → I4 724 t = M 713 t) := fun t t0 t1 => by rw [hI4, g_up_k (by decide)]; exact hkMr t t0 t1
                                have hk3 : (∀ t : Int, t < 0 ∨ 72 ≤ t → I4 713 t = M 713 t) := fun t t0 => by rw [hI4, g_up_i (by omega)]; exact hoMr t t0
                                refine g_iinc_5 hc dX13_can_236 rfl ?_
                                refine g_goto (tgt := 215) hc dX13_can_239 (by decide) ?_
                                refine ih_215 _ _ ?_ ?_ ?_ ?_ ?_ ?_ ?_
                                · omega
                                · exact hk1
                                · exact hk2
                                · exact hk3
                                · exact hgI4
                                · exact hfI4
                                · omega
                          refine lp_215 73 _ _ ?_ ?_ ?_ ?_ ?_ ?_ (?_)
                          · omega
                          · intro t t0 t1; omega
                          · exact hkMf
                          · exact hoMf
                          · exact hgMf
                          · exact hfMf
                          · omega
                        · skip
                          refine g_iload_n hc dX13_can_167 rfl ?_
                          refine g_iload hc dX13_can_168 rfl ?_
                          refine g_S2r hc (c_X13_has w) my_X13_has ms_X13_has lm_X13_224 rfl (by decide) (Nat.le_of_ble_eq_true rfl) hm dX13_can_170 ?_
                          refine g_ifb_eq (tgt := 206) hc dX13_can_173 (by decide)  (fun c8 => ?_) (fun c8 => ?_)
                          · skip
                            have hnk : ¬ (g_cbe I lb i = true ∧ (e = -1 ∨ p < g_pts I lb i 1)) := fun z => c8 (by rw [hbits]; exact (x_pos2 (s := i) hn0 ⟨by omega, by omega⟩).mpr z.1)
                            refine g_iinc_5 hc dX13_can_206 rfl ?_
                            refine g_goto (tgt := 153) hc dX13_can_209 (by decide) ?_
                            refine ih_153 _ _ _ _ _ ?_ ?_ ?_ ?_ ?_ ?_ ?_ ?_ ?_ ?_ ?_
                            · omega
                            · rw [g_lkn_i h3.1, ← h4, ← h5, if_neg hnk]; exact h4
                            · rw [g_lkn_i h3.1, ← h4, ← h5, if_neg hnk]; exact h5
                            · exact h7
                            · exact hgMf
                            · exact hkMf
                            · exact hoMf
                            · exact ⟨_, hR⟩
                            · exact hmMf
                            · exact hfMf
                            · omega
                          · skip
                            have hcb := (x_pos2 (s := i) hn0 ⟨by omega, by omega⟩).mp (by rw [← hbits]; exact c8)
                            have hpt9 := hpt i (by omega) (by omega)
                            refine g_iload_n hc dX13_can_176 rfl ?_
                            refine g_iconst hc dX13_can_177 ?_
                            refine g_icmp_eq (tgt := 195) hc dX13_can_178 (by decide) (by first | exact hI _ _ | exact hxI2 _ _ | exact hIa _ _ | exact hIb _ _ | exact g_b32 | exact g_and32 | assumption | exact ⟨by omega, by omega⟩) (by first | exact hI _ _ | exact hxI2 _ _ | exact hIa _ _ | exact hIb _ _ | exact g_b32 | exact g_and32 | assumption | exact ⟨by omega, by omega⟩) (fun c9 => ?_) (fun c9 => ?_)
                            · skip
                              have htk : g_cbe I lb i = true ∧ (e = -1 ∨ p < g_pts I lb i 1) := ⟨hcb, Or.inl c9⟩
                              refine g_iload hc dX13_can_195 rfl ?_
                              refine g_istore_3 hc dX13_can_197 rfl ?_
                              refine g_aldn hc dX13_can_198 rfl ?_
                              refine g_iload hc dX13_can_199 rfl ?_
                              refine g_V1 hc (c2_X13_oddsOf w hR hmMf (by rw [hFl]; omega)) my_X13_oddsOf mv_X13_oddsOf ca_703 rfl rfl lm_X13_364 rfl (by decide) (Nat.le_of_ble_eq_true rfl) hm dX13_can_201 (fun r5 n5 I5 J5 R5 hp5 => ?_)
                              obtain ⟨⟨rfl, rfl, hK5, hX5, rfl, t5, hR⟩, hl5⟩ := hp5
                              have hmI5 : q_rel F lb I5 := q_cg (fun k j hk => hK5 k j (fun z => hk (x_oa z))) hX5 hmMf
                              have hfI5 : ∀ (k : Nat) (j : Int), ¬ x_c k j → I5 k j = M k j := fun k j hk => (hK5 k j (fun z => hk (Or.inl (x_oa z)))).trans (hfMf k j hk)
                              have hwI5 : ∀ t : Int, I5 713 t = Mf 713 t ∧ I5 724 t = Mf 724 t := fun t => ⟨hK5 713 t (by unfold x_o; omega), hK5 724 t (by unfold x_o; omega)⟩
                              have hkI5 : ∀ t : Int, 0 ≤ t → t < 72 → I5 724 t = M 713 t := fun t t0 t1 => by rw [(hwI5 t).2]; exact hkMf t t0 t1
                              have hoI5 : ∀ t : Int, t < 0 ∨ 72 ≤ t → I5 713 t = M 713 t := fun t t0 => by rw [(hwI5 t).1]; exact hoMf t t0
                              have hgp := hl5
                              have hgp : g32 (g_pts F lb i 0) := ⟨by omega, by omega⟩
                              refine g_istore_4 hc dX13_can_204 rfl ?_
                              refine g_iinc_5 hc dX13_can_206 rfl ?_
                              refine g_goto (tgt := 153) hc dX13_can_209 (by decide) ?_
                              refine ih_153 _ _ _ _ _ ?_ ?_ ?_ ?_ ?_ ?_ ?_ ?_ ?_ ?_ ?_
                              · omega
                              · rw [g_lkn_i h3.1, ← h4, ← h5, if_pos htk]
                              · rw [g_lkn_i h3.1, ← h4, ← h5, if_pos htk]; dsimp only; exact hpt i (by omega) (by omega)
                              · exact ⟨by omega, hgp⟩
                              · exact hmI5.g
                              · exact hkI5
                              · exact hoI5
                              · exact ⟨_, hR⟩
                              · exact hmI5
                              · exact hfI5
                              · omega
                            · skip
                              refine g_aldn hc dX13_can_181 rfl ?_
                              refine g_iload hc dX13_can_182 rfl ?_
                              refine g_V1 hc (c2_X13_oddsOf w hR hmMf (by rw [hFl]; omega)) my_X13_oddsOf mv_X13_oddsOf ca_703 rfl rfl lm_X13_364 rfl (by decide) (Nat.le_of_ble_eq_true rfl) hm dX13_can_184 (fun r6 n6 I6 J6 R6 hp6 => ?_)
                              obtain ⟨⟨rfl, rfl, hK6, hX6, rfl, t6, hR⟩, hl6⟩ := hp6
                              have hmI6 : q_rel F lb I6 := q_cg (fun k j hk => hK6 k j (fun z => hk (x_oa z))) hX6 hmMf
                              have hfI6 : ∀ (k : Nat) (j : Int), ¬ x_c k j → I6 k j = M k j := fun k j hk => (hK6 k j (fun z => hk (Or.inl (x_oa z)))).trans (hfMf k j hk)
                              have hwI6 : ∀ t : Int, I6 713 t = Mf 713 t ∧ I6 724 t = Mf 724 t := fun t => ⟨hK6 713 t (by unfold x_o; omega), hK6 724 t (by unfold x_o; omega)⟩
                              have hkI6 : ∀ t : Int, 0 ≤ t → t < 72 → I6 724 t = M 713 t := fun t t0 t1 => by rw [(hwI6 t).2]; exact hkMf t t0 t1
                              have hoI6 : ∀ t : Int, t < 0 ∨ 72 ≤ t → I6 713 t = M 713 t := fun t t0 => by rw [(hwI6 t).1]; exact hoMf t t0
                              have hgp := hl6
                              have hgp : g32 (g_pts F lb i 0) := ⟨by omega, by omega⟩
                              refine g_iload hc dX13_can_187 rfl ?_
                              refine g_icmp_gt (tgt := 195) hc dX13_can_189 (by decide) hgp h7.2 (fun c10 => ?_) (fun c10 => ?_)
                              · skip
                                have htk : g_cbe I lb i = true ∧ (e = -1 ∨ p < g_pts I lb i 1) := ⟨hcb, Or.inr (by omega)⟩
                                refine g_iload hc dX13_can_195 rfl ?_
                                refine g_istore_3 hc dX13_can_197 rfl ?_
                                refine g_aldn hc dX13_can_198 rfl ?_
                                refine g_iload hc dX13_can_199 rfl ?_
                                refine g_V1 hc (c2_X13_oddsOf w hR hmI6 (by rw [hFl]; omega)) my_X13_oddsOf mv_X13_oddsOf ca_703 rfl rfl lm_X13_364 rfl (by decide) (Nat.le_of_ble_eq_true rfl) hm dX13_can_201 (fun r7 n7 I7 J7 R7 hp7 => ?_)
                                obtain ⟨⟨rfl, rfl, hK7, hX7, rfl, t7, hR⟩, hl7⟩ := hp7
                                have hmI7 : q_rel F lb I7 := q_cg (fun k j hk => hK7 k j (fun z => hk (x_oa z))) hX7 hmI6
                                have hfI7 : ∀ (k : Nat) (j : Int), ¬ x_c k j → I7 k j = M k j := fun k j hk => (hK7 k j (fun z => hk (Or.inl (x_oa z)))).trans (hfI6 k j hk)
                                have hwI7 : ∀ t : Int, I7 713 t = I6 713 t ∧ I7 724 t = I6 724 t := fun t => ⟨hK7 713 t (by unfold x_o; omega), hK7 724 t (by unfold x_o; omega)⟩
                                have hkI7 : ∀ t : Int, 0 ≤ t → t < 72 → I7 724 t = M 713 t := fun t t0 t1 => by rw [(hwI7 t).2]; exact hkI6 t t0 t1
                                have hoI7 : ∀ t : Int, t < 0 ∨ 72 ≤ t → I7 713 t = M 713 t := fun t t0 => by rw [(hwI7 t).1]; exact hoI6 t t0
                                have hgp := hl7
                                have hgp : g32 (g_pts F lb i 0) := ⟨by omega, by omega⟩
                                refine g_istore_4 hc dX13_can_204 rfl ?_
                                refine g_iinc_5 hc dX13_can_206 rfl ?_
                                refine g_goto (tgt := 153) hc dX13_can_209 (by decide) ?_
                                refine ih_153 _ _ _ _ _ ?_ ?_ ?_ ?_ ?_ ?_ ?_ ?_ ?_ ?_ ?_
                                · omega
                                · rw [g_lkn_i h3.1, ← h4, ← h5, if_pos htk]
                                · rw [g_lkn_i h3.1, ← h4, ← h5, if_pos htk]; dsimp only; exact hpt i (by omega) (by omega)
                                · exact ⟨by omega, hgp⟩
                                · exact hmI7.g
                                · exact hkI7
                                · exact hoI7
                                · exact ⟨_, hR⟩
                                · exact hmI7
                                · exact hfI7
                                · omega
                              · skip
                                have hnk : ¬ (g_cbe I lb i = true ∧ (e = -1 ∨ p < g_pts I lb i 1)) := fun z => by rcases z.2 with y | y <;> omega
                                refine g_goto (tgt := 206) hc dX13_can_192 (by decide) ?_
                                refine g_iinc_5 hc dX13_can_206 rfl ?_
                                refine g_goto (tgt := 153) hc dX13_can_209 (by decide) ?_
                                refine ih_153 _ _ _ _ _ ?_ ?_ ?_ ?_ ?_ ?_ ?_ ?_ ?_ ?_ ?_
                                · omega
                                · rw [g_lkn_i h3.1, ← h4, ← h5, if_neg hnk]; exact h4
                                · rw [g_lkn_i h3.1, ← h4, ← h5, if_neg hnk]; exact h5
                                · exact h7
                                · exact hmI6.g
                                · exact hkI6
                                · exact hoI6
                                · exact ⟨_, hR⟩
                                · exact hmI6
                                · exact hfI6
                                · omega
                    refine lp_153 13 _ _ _ _ _ ?_ ?_ ?_ ?_ ?_ ?_ ?_ ?_ ?_ ?_ (?_)
                    · omega
                    · rfl
                    · rfl
                    · exact ⟨by omega, by decide, by decide⟩
                    · exact hgMk
                    · exact fun t t0 t1 => hj1 t t0 (by omega)
                    · exact fun t t0 => hj3 t (by omega)
                    · exact ⟨_, hR⟩
                    · exact hmMk
                    · exact hfMk
                    · omega
                  · skip
                    refine g_aldn hc dX13_can_120 rfl ?_
                    refine g_getRk hc lk_X13_90 ca_703 (rc_703_39 hR) dX13_can_121 ?_
                    refine g_iload_n hc dX13_can_124 rfl ?_
                    refine g_aldn hc dX13_can_125 rfl ?_
                    refine g_getRk hc lk_X13_56 ca_703 (rc_703_25 hR) dX13_can_126 ?_
                    refine g_iload_n hc dX13_can_129 rfl ?_
                    refine g_zalde hc ca_713 (by decide) (by omega) (by omega) (show Mk 713 i = M 713 i from hj3 i (by omega)) dX13_can_130 ?_
                    refine g_zast' hc ca_724 (by decide) (by omega) (by omega) (hz3 i) dX13_can_131 (fun I8 hI8 => ?_)
                    have hgI8 : ∀ (a : Nat) (c : Int), g32 (I8 a c) := by rw [hI8]; exact x_up32 hgMk (hmM.g _ _)
                    have hfI8 : ∀ (a : Nat) (c : Int), ¬ x_c a c → I8 a c = M a c := fun a c hk => by rw [hI8, g_up_n (by unfold x_c x_a at hk; omega)]; exact hfMk a c hk
                    have hk1 : (∀ t : Int, 0 ≤ t → t < (i + 1) → I8 724 t = M 713 t) := fun t t0 t1 => by
                      rw [hI8]
                      by_cases e : t = i
                      · rw [e, g_up_s]
                      · rw [g_up_i e]; exact hj1 t t0 (by omega)
                    have hk2 : (∀ t : Int, 0 ≤ t → t < i → I8 713 t = 1) := fun t t0 t1 => by rw [hI8, g_up_k (by decide)]; exact hj2 t t0 t1
                    have hk3 : (∀ t : Int, t < 0 ∨ i ≤ t → I8 713 t = M 713 t) := fun t t0 => by rw [hI8, g_up_k (by decide)]; exact hj3 t t0
                    refine g_aldn hc dX13_can_132 rfl ?_
                    refine g_getRk hc lk_X13_56 ca_703 (rc_703_25 hR) dX13_can_133 ?_
                    refine g_iload_n hc dX13_can_136 rfl ?_
                    refine g_iconst hc dX13_can_137 ?_
                    refine g_zast' hc ca_713 (by decide) (by omega) (by omega) (Or.inr rfl) dX13_can_138 (fun I9 hI9 => ?_)
                    have hgI9 : ∀ (a : Nat) (c : Int), g32 (I9 a c) := by rw [hI9]; exact x_up32 hgI8 (show g32 _ from ⟨by decide, by decide⟩)
                    have hfI9 : ∀ (a : Nat) (c : Int), ¬ x_c a c → I9 a c = M a c := fun a c hk => by rw [hI9, g_up_n (by unfold x_c x_a at hk; omega)]; exact hfI8 a c hk
                    have hl1 : (∀ t : Int, 0 ≤ t → t < (i + 1) → I9 724 t = M 713 t) := fun t t0 t1 => by rw [hI9, g_up_k (by decide)]; exact hk1 t t0 t1
                    have hl2 : (∀ t : Int, 0 ≤ t → t < (i + 1) → I9 713 t = 1) := fun t t0 t1 => by
                      rw [hI9]
                      by_cases e : t = i
                      · rw [e, g_up_s]
                      · rw [g_up_i e]; exact hk2 t t0 (by omega)
                    have hl3 : (∀ t : Int, t < 0 ∨ (i + 1) ≤ t → I9 713 t = M 713 t) := fun t t0 => by rw [hI9, g_up_i (by omega)]; exact hk3 t (by omega)
                    refine g_iinc_3 hc dX13_can_139 rfl ?_
                    refine g_goto (tgt := 114) hc dX13_can_142 (by decide) ?_
                    refine ih_114 _ _ ?_ ?_ ?_ ?_ ?_ ?_ ?_
                    · omega
                    · exact hl1
                    · exact hl2
                    · exact hl3
                    · exact hgI9
                    · exact hfI9
                    · omega
              refine lp_114 73 _ _ ?_ ?_ ?_ ?_ ?_ ?_ (?_)
              · omega
              · intro t t0 t1; omega
              · intro t t0 t1; omega
              · intro t t0; exact hfB 713 t (by unfold x_a; omega)
              · exact hgMm
              · exact hfMm
              · omega
            · skip
              refine g_iload_n hc dX13_can_110 rfl ?_
              refine g_iret hc hm dX13_can_111 ?_
              rw [hP9]
              exact ⟨x_end (by rw [if_pos hpg, if_pos (by omega), h4, g_pos2, show I lb 0 = i by omega]) hfMm hmMm.g hR, fun t => hfMm 713 t (by unfold x_a; omega)⟩
          · skip
            refine g_iconst hc dX13_can_42 ?_
            refine g_istore_4 hc dX13_can_43 rfl ?_
            refine g_iconst hc dX13_can_45 ?_
            refine g_istore_5 hc dX13_can_46 rfl ?_
            have lp_48 : ∀ (fu : Nat) (z u : Int) (Mm : g_I) (Rm : g_R), 0 ≤ u ∧ u ≤ I 697 4 → (z = 1 ∧ g_cbe I lb i = g_all (fun c => g_hlb I lb c i) (I 697 4 - u).toNat u ∨ z = 0 ∧ g_cbe I lb i = false) → (∃ tm, g_rf w Rm lb tm) → q_rel I lb Mm → (∀ (k : Nat) (j : Int), ¬ x_a k j → Mm k j = M k j) → I 697 4 - u < (fu : Int) → G w x P9 0 0 g_n Mm J Rm 48 [some (gvr w 703), some (gvI k), some (gvI a), some (gvI i), some (gvI z), some (gvI u)] [] := by
              intro fu
              induction fu with
              | zero => intro z u Mm Rm k3 k6 hR hmMm hfMm hfu; exfalso; omega
              | succ fu ih =>
                intro z u Mm Rm k3 k6 hR hmMm hfMm hfu
                obtain ⟨tm, hR⟩ := hR
                have ih_48 := ih
                refine g_iload hc dX13_can_48 rfl ?_
                refine g_aldn hc dX13_can_50 rfl ?_
                refine g_getIe hc lk_X13_295 ca_703 38 rfl (show Mm 703 38 = I 697 4 from hmMm.clu.2.1) dX13_can_51 ?_
                refine g_icmp_ge (tgt := 85) hc dX13_can_54 (by decide) (by first | exact hI _ _ | exact hxI2 _ _ | exact hIa _ _ | exact hIb _ _ | exact g_b32 | exact g_and32 | assumption | exact ⟨by omega, by omega⟩) (by first | exact hI _ _ | exact hxI2 _ _ | exact hIa _ _ | exact hIb _ _ | exact g_b32 | exact g_and32 | assumption | exact ⟨by omega, by omega⟩) (fun c11 => ?_) (fun c11 => ?_)
                · skip
                  refine g_iload_n hc dX13_can_85 rfl ?_
                  refine g_iload hc dX13_can_86 rfl ?_
                  refine g_if_eq (tgt := 97) hc dX13_can_88 (by decide) (by first | exact hI _ _ | exact hxI2 _ _ | exact hIa _ _ | exact hIb _ _ | exact g_b32 | exact g_and32 | assumption | exact ⟨by omega, by omega⟩) (fun c12 => ?_) (fun c12 => ?_)
                  · skip
                    have hcb : ¬ g_cbe I lb i = true := by
                      rcases k6 with z9 | z9
                      · omega
                      · rw [z9.2]; exact Bool.false_ne_true
                    refine g_iconst hc dX13_can_97 ?_
                    refine g_ior hc dX13_can_98 ?_
                    refine g_istore_2 hc dX13_can_99 rfl ?_
                    refine g_iinc_3 hc dX13_can_100 rfl ?_
                    refine g_goto (tgt := 29) hc dX13_can_103 (by decide) ?_
                    refine G_sub (L' := [some (gvr w 703), some (gvI k), some (gvI (g_or a 0)), some (gvI (i + 1)), none, none]) (show g_le _ _ from ⟨rfl, ⟨rfl, ⟨rfl, ⟨rfl, trivial⟩⟩⟩⟩) ?_
                    refine ih_29 _ _ _ _ ?_ ?_ ?_ ?_ ?_ ?_
                    · omega
                    · rw [g_ors_i h3.1, ← h4]; first | rw [if_pos hcb] | rw [if_neg hcb]
                    · exact ⟨_, hR⟩
                    · exact hmMm
                    · exact hfMm
                    · omega
                  · skip
                    have hcb : g_cbe I lb i = true := by
                      rcases k6 with z9 | z9
                      · rw [z9.2, g_all_e (by omega)]
                      · omega
                    refine g_iconst hc dX13_can_91 ?_
                    refine g_iload_n hc dX13_can_92 rfl ?_
                    refine g_ishl hc dX13_can_93 ?_
                    refine g_goto (tgt := 98) hc dX13_can_94 (by decide) ?_
                    refine g_ior hc dX13_can_98 ?_
                    refine g_istore_2 hc dX13_can_99 rfl ?_
                    refine g_iinc_3 hc dX13_can_100 rfl ?_
                    refine g_goto (tgt := 29) hc dX13_can_103 (by decide) ?_
                    refine G_sub (L' := [some (gvr w 703), some (gvI k), some (gvI (g_or a (g_shl 1 i))), some (gvI (i + 1)), none, none]) (show g_le _ _ from ⟨rfl, ⟨rfl, ⟨rfl, ⟨rfl, trivial⟩⟩⟩⟩) ?_
                    refine ih_29 _ _ _ _ ?_ ?_ ?_ ?_ ?_ ?_
                    · omega
                    · rw [g_ors_i h3.1, ← h4]; first | rw [if_pos hcb] | rw [if_neg hcb]
                    · exact ⟨_, hR⟩
                    · exact hmMm
                    · exact hfMm
                    · omega
                · skip
                  refine g_iload hc dX13_can_57 rfl ?_
                  refine g_if_eq (tgt := 76) hc dX13_can_59 (by decide) (by first | exact hI _ _ | exact hxI2 _ _ | exact hIa _ _ | exact hIb _ _ | exact g_b32 | exact g_and32 | assumption | exact ⟨by omega, by omega⟩) (fun c13 => ?_) (fun c13 => ?_)
                  · skip
                    have hst9 : ((0 : Int) = 1 ∧ g_cbe I lb i = g_all (fun c => g_hlb I lb c i) (I 697 4 - (u + 1)).toNat (u + 1) ∨ (0 : Int) = 0 ∧ g_cbe I lb i = false) := by
                      rcases k6 with z9 | z9
                      · omega
                      · exact Or.inr ⟨rfl, z9.2⟩
                    refine g_iconst hc dX13_can_76 ?_
                    refine g_istore_4 hc dX13_can_77 rfl ?_
                    refine g_iinc_5 hc dX13_can_79 rfl ?_
                    refine g_goto (tgt := 48) hc dX13_can_82 (by decide) ?_
                    refine ih_48 _ _ _ _ ?_ ?_ ?_ ?_ ?_ ?_
                    · omega
                    · exact hst9
                    · exact ⟨_, hR⟩
                    · exact hmMm
                    · exact hfMm
                    · omega
                  · skip
                    have hz1 : g_cbe I lb i = g_all (fun c => g_hlb I lb c i) (I 697 4 - u).toNat u := by
                      rcases k6 with z9 | z9
                      · exact z9.2
                      · omega
                    refine g_aldn hc dX13_can_62 rfl ?_
                    refine g_iload_n hc dX13_can_63 rfl ?_
                    refine g_iload hc dX13_can_64 rfl ?_
                    refine g_V2 hc (c_X13_isSo w hR hmMm (by omega) (by omega)) my_X13_isSo mv_X13_isSo ca_703 rfl rfl lm_X13_440 rfl (by decide) (Nat.le_of_ble_eq_true rfl) hm dX13_can_66 (fun r10 n10 I10 J10 R10 hp10 => ?_)
                    obtain ⟨rfl, rfl, hK10, hX10, rfl, t10, hR⟩ := hp10
                    have hmI10 : q_rel I lb I10 := q_cg (fun k j hk => hK10 k j (fun z => hk (x_wa z))) hX10 hmMm
                    have hfI10 : ∀ (k : Nat) (j : Int), ¬ x_a k j → I10 k j = M k j := fun k j hk => (hK10 k j (fun z => hk (x_wa z))).trans (hfMm k j hk)
                    refine g_ifb_eq (tgt := 76) hc dX13_can_69 (by decide)  (fun c14 => ?_) (fun c14 => ?_)
                    · skip
                      have hst9 : ((0 : Int) = 1 ∧ g_cbe I lb i = g_all (fun c => g_hlb I lb c i) (I 697 4 - (u + 1)).toNat (u + 1) ∨ (0 : Int) = 0 ∧ g_cbe I lb i = false) := Or.inr ⟨rfl, by rw [hz1]; exact g_all_f (by omega) c14⟩
                      refine g_iconst hc dX13_can_76 ?_
                      refine g_istore_4 hc dX13_can_77 rfl ?_
                      refine g_iinc_5 hc dX13_can_79 rfl ?_
                      refine g_goto (tgt := 48) hc dX13_can_82 (by decide) ?_
                      refine ih_48 _ _ _ _ ?_ ?_ ?_ ?_ ?_ ?_
                      · omega
                      · exact hst9
                      · exact ⟨_, hR⟩
                      · exact hmI10
                      · exact hfI10
                      · omega
                    · skip
                      have hst9 : ((1 : Int) = 1 ∧ g_cbe I lb i = g_all (fun c => g_hlb I lb c i) (I 697 4 - (u + 1)).toNat (u + 1) ∨ (1 : Int) = 0 ∧ g_cbe I lb i = false) := Or.inl ⟨rfl, by rw [hz1]; exact g_all_t (by omega) c14⟩
                      refine g_iconst hc dX13_can_72 ?_
                      refine g_goto (tgt := 77) hc dX13_can_73 (by decide) ?_
                      refine g_istore_4 hc dX13_can_77 rfl ?_
                      refine g_iinc_5 hc dX13_can_79 rfl ?_
                      refine g_goto (tgt := 48) hc dX13_can_82 (by decide) ?_
                      refine ih_48 _ _ _ _ ?_ ?_ ?_ ?_ ?_ ?_
                      · omega
                      · exact hst9
                      · exact ⟨_, hR⟩
                      · exact hmI10
                      · exact hfI10
                      · omega
            refine lp_48 13 _ _ _ _ ?_ ?_ ?_ ?_ ?_ (?_)
            · omega
            · exact Or.inl ⟨rfl, by rw [Int.sub_zero]; rfl⟩
            · exact ⟨_, hR⟩
            · exact hmMm
            · exact hfMm
            · omega
      refine lp_29 13 _ _ _ _ ?_ ?_ ?_ ?_ ?_ (?_)
      · omega
      · rfl
      · exact ⟨_, hR⟩
      · exact hmI3
      · exact hfI3
      · omega
    · skip
      have hng : ¬ (0 ≤ I 0 12 ∧ 0 ≤ k ∧ k ≤ 1) := fun z => by omega
      refine g_iconst hc dX13_can_23 ?_
      refine g_iret hc hm dX13_can_24 ?_
      rw [hP9]
      exact ⟨x_end (by rw [if_neg hng]) hfI3 hmI3.g hR, fun t => hfI3 713 t (by unfold x_a; omega)⟩
