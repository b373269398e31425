set_option maxHeartbeats 4000000 in
set_option maxRecDepth 100000 in
/-- X9_reckon -/
theorem c_X9_reckon (w : g_W) {I : g_I} {J : g_J} {R : g_R} {lb tx : Nat} (hR : g_rf w R lb tx) (hI : ∀ k j, g32 (I k j)) {t : Nat} (ht : g_taste t) (hT : g_tok I t) (hLt : ∀ k : Int, 0 ≤ k → k < 8 → -1000000 ≤ I 554 k ∧ I 554 k ≤ 1000000) : g_Met w g_n I J R yX9_reckon cX9_reckon 6 (some .int) 2 0 0 [(gvr w t), (gvr w 554)] (fun r n2 I2 J2 R2 => g_pgen (some (gvI (g_rk (I (t + 1)) (I 554) (I t 2).toNat 0 [] false))) (fun k _ => k = t + 2) I J R r n2 I2 J2 R2 ∧ -1000300 ≤ (g_rk (I (t + 1)) (I 554) (I t 2).toNat 0 [] false) ∧ (g_rk (I (t + 1)) (I 554) (I t 2).toNat 0 [] false) ≤ 1000300) := by
  refine g_intro (own := RX9) [some (gvr w t), some (gvr w 554), none, none, none, none] (by decide +kernel) rfl (by decide) (Nat.le_of_ble_eq_true rfl) rfl (fun i v hv => g_args 4 i v hv rfl) (fun x hc hm => ?_)
  obtain ⟨hT1, hT2⟩ := hT
  have hsI : ∀ (k : Nat) (j : Int), k ≠ t + 2 → I k j = I k j := fun _ _ _ => rfl
  have hxI := hI
  have ht5 : 517 ≤ t ∧ t ≤ 535 := by unfold g_taste at ht; omega
  refine g_iconst hc dX9_reckon_0 ?_
  refine g_istore_2 hc dX9_reckon_1 rfl ?_
  refine g_iconst hc dX9_reckon_2 ?_
  refine g_istore_3 hc dX9_reckon_3 rfl ?_
  refine g_iconst hc dX9_reckon_4 ?_
  refine g_istore_4 hc dX9_reckon_5 rfl ?_
  have lp_7 : ∀ (fu : Nat) (top z i : Int) (I2 : g_I), 0 ≤ i ∧ i ≤ I t 2 → 0 ≤ top ∧ top ≤ 64 → z = 0 ∨ z = 1 → (∀ (k : Nat) (j : Int), k ≠ t + 2 → I2 k j = I k j) → (∀ k j, g32 (I2 k j)) → (∀ j : Int, 0 ≤ j → j < top → -(1000000 + i) ≤ I2 (t + 2) j ∧ I2 (t + 2) j ≤ 1000000 + i) → (g_rk (I (t + 1)) (I 554) (I t 2).toNat 0 [] false) = g_rk (I (t + 1)) (I 554) (I t 2 - i).toNat i (g_stk (I2 (t + 2)) top.toNat) (decide (z = 1)) → I t 2 - i < (fu : Int) → G w x (fun r n2 I2 J2 R2 => g_pgen (some (gvI (g_rk (I (t + 1)) (I 554) (I t 2).toNat 0 [] false))) (fun k _ => k = t + 2) I J R r n2 I2 J2 R2 ∧ -1000300 ≤ (g_rk (I (t + 1)) (I 554) (I t 2).toNat 0 [] false) ∧ (g_rk (I (t + 1)) (I 554) (I t 2).toNat 0 [] false) ≤ 1000300) 0 0 g_n I2 J R 7 [some (gvr w t), some (gvr w 554), some (gvI top), some (gvI z), some (gvI i), none] [] := by
    intro fu
    induction fu with
    | zero => intro top z i I2 h3 h4 h5 hsI2 hxI2 h8 h9 hfu; exfalso; omega
    | succ fu ih =>
      intro top z i I2 h3 h4 h5 hsI2 hxI2 h8 h9 hfu
      have ih_7 := ih
      refine g_iload hc dX9_reckon_7 rfl ?_
      refine g_aldn hc dX9_reckon_9 rfl ?_
      refine g_getIe hc lk_X9_16 (ta_0 ht) 2 rfl (hsI2 _ _ (by omega)) dX9_reckon_10 ?_
      refine g_icmp_ge (tgt := 213) hc dX9_reckon_13 (by decide) (by first | exact hI _ _ | exact hxI2 _ _ | exact hIa _ _ | exact hIb _ _ | exact g_b32 | exact g_and32 | assumption | exact ⟨by omega, by omega⟩) (by first | exact hI _ _ | exact hxI2 _ _ | exact hIa _ _ | exact hIb _ _ | exact g_b32 | exact g_and32 | assumption | exact ⟨by omega, by omega⟩) (fun c1 => ?_) (fun c1 => ?_)
      · skip
        refine g_iconst hc dX9_reckon_213 ?_
        refine g_iret hc hm dX9_reckon_214 ?_
        have hg : (g_rk (I (t + 1)) (I 554) (I t 2).toNat 0 [] false) = 0 := by rw [h9, g_rk_e (by omega)]
        exact ⟨⟨by rw [hg], rfl, fun k j hk => hsI2 k j hk, hxI2, rfl, rfl⟩, by rw [hg]; decide⟩
      · skip
        have hSi := hT2 i h3.1 (by omega)
        have hS32 := hI (t + 1) i
        refine g_aldn hc dX9_reckon_16 rfl ?_
        refine g_getRk hc lk_X9_9 (ta_0 ht) (rt_0 hR ht) dX9_reckon_17 ?_
        refine g_iload hc dX9_reckon_20 rfl ?_
        refine g_ialde hc (ta_1 ht) (by decide) (by omega) (by omega) (hsI2 _ _ (by omega)) dX9_reckon_22 ?_
        refine g_istore_5 hc dX9_reckon_23 rfl ?_
        refine g_iload_n hc dX9_reckon_25 rfl ?_
        refine g_if_eq (tgt := 45) hc dX9_reckon_26 (by decide) (by first | exact hI _ _ | exact hxI2 _ _ | exact hIa _ _ | exact hIb _ _ | exact g_b32 | exact g_and32 | assumption | exact ⟨by omega, by omega⟩) (fun c2 => ?_) (fun c2 => ?_)
        · skip
          refine g_iload hc dX9_reckon_45 rfl ?_
          refine g_if_lt (tgt := 91) hc dX9_reckon_47 (by decide) (by first | exact hI _ _ | exact hxI2 _ _ | exact hIa _ _ | exact hIb _ _ | exact g_b32 | exact g_and32 | assumption | exact ⟨by omega, by omega⟩) (fun c3 => ?_) (fun c3 => ?_)
          · skip
            have hneg : ¬ 0 ≤ I (t + 1) i := by omega
            refine g_iload_n hc dX9_reckon_91 rfl ?_
            refine g_if_ne (tgt := 97) hc dX9_reckon_92 (by decide) (by first | exact hI _ _ | exact hxI2 _ _ | exact hIa _ _ | exact hIb _ _ | exact g_b32 | exact g_and32 | assumption | exact ⟨by omega, by omega⟩) (fun c4 => ?_) (fun c4 => ?_)
            · skip
              refine g_iload hc dX9_reckon_97 rfl ?_
              refine g_bipush hc dX9_reckon_99 (by decide +kernel) ?_
              refine g_icmp_ne (tgt := 113) hc dX9_reckon_101 (by decide) (by first | exact hI _ _ | exact hxI2 _ _ | exact hIa _ _ | exact hIb _ _ | exact g_b32 | exact g_and32 | assumption | exact ⟨by omega, by omega⟩) (by first | exact hI _ _ | exact hxI2 _ _ | exact hIa _ _ | exact hIb _ _ | exact g_b32 | exact g_and32 | assumption | exact ⟨by omega, by omega⟩) (fun c5 => ?_) (fun c5 => ?_)
              · skip
                have htop : 0 < top := by omega
                have h8t := h8 (top - 1) (by omega) (by omega)
                have hst := g_stk_c (W := I2 (t + 2)) htop
                refine g_iload hc dX9_reckon_113 rfl ?_
                refine g_bipush hc dX9_reckon_115 (by decide +kernel) ?_
                refine g_icmp_ne (tgt := 141) hc dX9_reckon_117 (by decide) (by first | exact hI _ _ | exact hxI2 _ _ | exact hIa _ _ | exact hIb _ _ | exact g_b32 | exact g_and32 | assumption | exact ⟨by omega, by omega⟩) (by first | exact hI _ _ | exact hxI2 _ _ | exact hIa _ _ | exact hIb _ _ | exact g_b32 | exact g_and32 | assumption | exact ⟨by omega, by omega⟩) (fun c6 => ?_) (fun c6 => ?_)
                · skip
                  refine g_iload hc dX9_reckon_141 rfl ?_
                  refine g_bipush hc dX9_reckon_143 (by decide +kernel) ?_
                  refine g_icmp_ne (tgt := 169) hc dX9_reckon_145 (by decide) (by first | exact hI _ _ | exact hxI2 _ _ | exact hIa _ _ | exact hIb _ _ | exact g_b32 | exact g_and32 | assumption | exact ⟨by omega, by omega⟩) (by first | exact hI _ _ | exact hxI2 _ _ | exact hIa _ _ | exact hIb _ _ | exact g_b32 | exact g_and32 | assumption | exact ⟨by omega, by omega⟩) (fun c7 => ?_) (fun c7 => ?_)
                  · skip
                    refine g_iload_n hc dX9_reckon_169 rfl ?_
                    refine g_iconst hc dX9_reckon_170 ?_
                    refine g_icmp_le (tgt := 207) hc dX9_reckon_171 (by decide) (by first | exact hI _ _ | exact hxI2 _ _ | exact hIa _ _ | exact hIb _ _ | exact g_b32 | exact g_and32 | assumption | exact ⟨by omega, by omega⟩) (by first | exact hI _ _ | exact hxI2 _ _ | exact hIa _ _ | exact hIb _ _ | exact g_b32 | exact g_and32 | assumption | exact ⟨by omega, by omega⟩) (fun c8 => ?_) (fun c8 => ?_)
                    · skip
                      have htop1 : top = 1 := by omega
                      have hG : g_rk (I (t + 1)) (I 554) (I t 2 - i).toNat i (g_stk (I2 (t + 2)) top.toNat) (decide (z = 1)) = g_rk (I (t + 1)) (I 554) (I t 2 - (i + 1)).toNat (i + 1) (g_stk (I2 (t + 2)) top.toNat) (decide (z = 1)) := by
                        rw [show decide (z = 1) = false from decide_eq_false (by omega)]; rw [hst, g_stk_n (by omega : top - 1 ≤ 0)]; exact g_rk_one (by omega) (by omega) (by assumption) (by assumption) (by assumption)
                      refine g_iinc_4 hc dX9_reckon_207 rfl ?_
                      refine g_goto (tgt := 7) hc dX9_reckon_210 (by decide) ?_
                      refine G_sub (L' := [some (gvr w t), some (gvr w 554), some (gvI top), some (gvI z), some (gvI (i + 1)), none]) (show g_le _ _ from ⟨rfl, ⟨rfl, ⟨rfl, ⟨rfl, ⟨rfl, trivial⟩⟩⟩⟩⟩) ?_
                      refine ih_7 _ _ _ _ ?_ ?_ ?_ ?_ ?_ ?_ ?_ ?_
                      · omega
                      · omega
                      · omega
                      · first | exact hsI2 | exact hsI2
                      · first | exact hxI2 | exact hxI2
                      · first | exact hbdI2 | (intro j hj1 hj2; have := h8 j hj1 (by omega); omega)
                      · rw [h9]; first | exact hA | exact hB | exact hC | exact hD | exact hE | exact hF | exact hG
                      · omega
                    · skip
                      have h8u := h8 (top + -1 - 1) (by omega) (by omega)
                      have h8v := h8 (top + -1) (by omega) (by omega)
                      have e2 : top + -1 = top - 1 := by omega
                      have hst2 := g_stk_c (W := I2 (t + 2)) (n := top - 1) (by omega)
                      refine g_iinc_2 hc dX9_reckon_174 rfl ?_
                      refine g_aldn hc dX9_reckon_177 rfl ?_
                      refine g_getRk hc lk_X9_13 (ta_0 ht) (rt_1 hR ht) dX9_reckon_178 ?_
                      refine g_iload_n hc dX9_reckon_181 rfl ?_
                      refine g_iconst hc dX9_reckon_182 ?_
                      refine g_isub hc dX9_reckon_183 ?_
                      refine g_iload hc dX9_reckon_184 rfl ?_
                      refine g_ineg hc dX9_reckon_186 ?_
                      refine g_aldn hc dX9_reckon_187 rfl ?_
                      refine g_getRk hc lk_X9_13 (ta_0 ht) (rt_1 hR ht) dX9_reckon_188 ?_
                      refine g_iload_n hc dX9_reckon_191 rfl ?_
                      refine g_iconst hc dX9_reckon_192 ?_
                      refine g_isub hc dX9_reckon_193 ?_
                      refine g_iald hc (ta_2 ht) (by decide) (by omega) (by omega) dX9_reckon_194 ?_
                      refine g_i2l hc dX9_reckon_195 (by first | exact hI _ _ | exact hxI2 _ _ | exact hIa _ _ | exact hIb _ _ | exact g_b32 | exact g_and32 | assumption | exact ⟨by omega, by omega⟩) ?_
                      refine g_aldn hc dX9_reckon_196 rfl ?_
                      refine g_getRk hc lk_X9_13 (ta_0 ht) (rt_1 hR ht) dX9_reckon_197 ?_
                      refine g_iload_n hc dX9_reckon_200 rfl ?_
                      refine g_iald hc (ta_2 ht) (by decide) (by omega) (by omega) dX9_reckon_201 ?_
                      refine g_i2l hc dX9_reckon_202 (by first | exact hI _ _ | exact hxI2 _ _ | exact hIa _ _ | exact hIb _ _ | exact g_b32 | exact g_and32 | assumption | exact ⟨by omega, by omega⟩) ?_
                      refine g_S3r hc (c_X9_joined w (by omega) (by omega) (by omega)) my_X9_joined ms_X9_joined lm_X9_24 rfl (by decide) (Nat.le_of_ble_eq_true rfl) hm dX9_reckon_203 ?_
                      obtain ⟨I3, hI3⟩ : ∃ I3, I3 = g_up I2 (t + 2) ((top + (-1)) - 1) (g_jn (-(I (t + 1) i)) (I2 (t + 2) ((top + (-1)) - 1)) (I2 (t + 2) (top + (-1)))) := ⟨_, rfl⟩
                      have hsI3 : ∀ (k : Nat) (j : Int), k ≠ t + 2 → I3 k j = I k j := fun k j hk => by
                        rw [hI3, g_up_k (by omega)]
                        exact hsI2 k j hk
                      have hxI3 : ∀ k j, g32 (I3 k j) := by rw [hI3]; exact g_up32 hxI2 (by have hj := g_jn_in (s := -(I (t + 1) i)) (l := I2 (t + 2) (top + -1 - 1)) (r := I2 (t + 2) (top + -1)); exact ⟨by omega, by omega⟩)
                      refine g_iaste (I2 := I3) hc (ta_2 ht) (by decide) (by omega) (by omega) hI3.symm dX9_reckon_206 ?_
                      have hjn := g_jn_in (s := -(I (t + 1) i)) (l := I2 (t + 2) (top + -1 - 1)) (r := I2 (t + 2) (top + -1))
                      have hbdI3 : ∀ j : Int, 0 ≤ j → j < top + -1 → -(1000000 + (i + 1)) ≤ I3 (t + 2) j ∧ I3 (t + 2) j ≤ 1000000 + (i + 1) := fun j hj1 hj2 => by
                        rw [hI3]; unfold g_up; split
                        · omega
                        · have := h8 j hj1 (by omega); omega
                      have hE : g_rk (I (t + 1)) (I 554) (I t 2 - i).toNat i (g_stk (I2 (t + 2)) top.toNat) (decide (z = 1)) = g_rk (I (t + 1)) (I 554) (I t 2 - (i + 1)).toNat (i + 1) (g_stk (I3 (t + 2)) (top + -1).toNat) (decide (z = 1)) := by
                        rw [show decide (z = 1) = false from decide_eq_false (by omega)]; rw [hst, hst2, g_rk_bin (by omega) (by omega) (by assumption) (by assumption) (by assumption), hI3, g_stk_up2 (by omega)]; simp only [e2]
                      refine g_iinc_4 hc dX9_reckon_207 rfl ?_
                      refine g_goto (tgt := 7) hc dX9_reckon_210 (by decide) ?_
                      refine G_sub (L' := [some (gvr w t), some (gvr w 554), some (gvI (top + (-1))), some (gvI z), some (gvI (i + 1)), none]) (show g_le _ _ from ⟨rfl, ⟨rfl, ⟨rfl, ⟨rfl, ⟨rfl, trivial⟩⟩⟩⟩⟩) ?_
                      refine ih_7 _ _ _ _ ?_ ?_ ?_ ?_ ?_ ?_ ?_ ?_
                      · omega
                      · omega
                      · omega
                      · first | exact hsI3 | exact hsI2
                      · first | exact hxI3 | exact hxI2
                      · first | exact hbdI3 | (intro j hj1 hj2; have := h8 j hj1 (by omega); omega)
                      · rw [h9]; first | exact hA | exact hB | exact hC | exact hD | exact hE | exact hF | exact hG
                      · omega
                  · skip
                    refine g_aldn hc dX9_reckon_148 rfl ?_
                    refine g_getRk hc lk_X9_13 (ta_0 ht) (rt_1 hR ht) dX9_reckon_149 ?_
                    refine g_iload_n hc dX9_reckon_152 rfl ?_
                    refine g_iconst hc dX9_reckon_153 ?_
                    refine g_isub hc dX9_reckon_154 ?_
                    refine g_iconst hc dX9_reckon_155 ?_
                    refine g_aldn hc dX9_reckon_156 rfl ?_
                    refine g_getRk hc lk_X9_13 (ta_0 ht) (rt_1 hR ht) dX9_reckon_157 ?_
                    refine g_iload_n hc dX9_reckon_160 rfl ?_
                    refine g_iconst hc dX9_reckon_161 ?_
                    refine g_isub hc dX9_reckon_162 ?_
                    refine g_iald hc (ta_2 ht) (by decide) (by omega) (by omega) dX9_reckon_163 ?_
                    refine g_isub hc dX9_reckon_164 ?_
                    obtain ⟨I4, hI4⟩ : ∃ I4, I4 = g_up I2 (t + 2) (top - 1) (1 - (I2 (t + 2) (top - 1))) := ⟨_, rfl⟩
                    have hsI4 : ∀ (k : Nat) (j : Int), k ≠ t + 2 → I4 k j = I k j := fun k j hk => by
                      rw [hI4, g_up_k (by omega)]
                      exact hsI2 k j hk
                    have hxI4 : ∀ k j, g32 (I4 k j) := by rw [hI4]; exact g_up32 hxI2 (by exact ⟨by omega, by omega⟩)
                    refine g_iaste (I2 := I4) hc (ta_2 ht) (by decide) (by omega) (by omega) hI4.symm dX9_reckon_165 ?_
                    have hbdI4 : ∀ j : Int, 0 ≤ j → j < top → -(1000000 + (i + 1)) ≤ I4 (t + 2) j ∧ I4 (t + 2) j ≤ 1000000 + (i + 1) := fun j hj1 hj2 => by
                      rw [hI4]; unfold g_up; split
                      · omega
                      · have := h8 j hj1 (by omega); omega
                    have hD : g_rk (I (t + 1)) (I 554) (I t 2 - i).toNat i (g_stk (I2 (t + 2)) top.toNat) (decide (z = 1)) = g_rk (I (t + 1)) (I 554) (I t 2 - (i + 1)).toNat (i + 1) (g_stk (I4 (t + 2)) top.toNat) (decide (z = 1)) := by
                      rw [show decide (z = 1) = false from decide_eq_false (by omega)]; rw [hst, g_rk_not (by omega) (by assumption), hI4, g_stk_up2 htop]
                    refine g_goto (tgt := 207) hc dX9_reckon_166 (by decide) ?_
                    refine g_iinc_4 hc dX9_reckon_207 rfl ?_
                    refine g_goto (tgt := 7) hc dX9_reckon_210 (by decide) ?_
                    refine G_sub (L' := [some (gvr w t), some (gvr w 554), some (gvI top), some (gvI z), some (gvI (i + 1)), none]) (show g_le _ _ from ⟨rfl, ⟨rfl, ⟨rfl, ⟨rfl, ⟨rfl, trivial⟩⟩⟩⟩⟩) ?_
                    refine ih_7 _ _ _ _ ?_ ?_ ?_ ?_ ?_ ?_ ?_ ?_
                    · omega
                    · omega
                    · omega
                    · first | exact hsI4 | exact hsI2
                    · first | exact hxI4 | exact hxI2
                    · first | exact hbdI4 | (intro j hj1 hj2; have := h8 j hj1 (by omega); omega)
                    · rw [h9]; first | exact hA | exact hB | exact hC | exact hD | exact hE | exact hF | exact hG
                    · omega
                · skip
                  refine g_iinc_2 hc dX9_reckon_120 rfl ?_
                  refine g_aldn hc dX9_reckon_123 rfl ?_
                  refine g_getRk hc lk_X9_13 (ta_0 ht) (rt_1 hR ht) dX9_reckon_124 ?_
                  refine g_iload_n hc dX9_reckon_127 rfl ?_
                  refine g_iald hc (ta_2 ht) (by decide) (by omega) (by omega) dX9_reckon_128 ?_
                  refine g_if_ne (tgt := 136) hc dX9_reckon_129 (by decide) (by first | exact hI _ _ | exact hxI2 _ _ | exact hIa _ _ | exact hIb _ _ | exact g_b32 | exact g_and32 | assumption | exact ⟨by omega, by omega⟩) (fun c9 => ?_) (fun c9 => ?_)
                  · skip
                    have hC : g_rk (I (t + 1)) (I 554) (I t 2 - i).toNat i (g_stk (I2 (t + 2)) top.toNat) (decide (z = 1)) = g_rk (I (t + 1)) (I 554) (I t 2 - (i + 1)).toNat (i + 1) (g_stk (I2 (t + 2)) (top + -1).toNat) (decide ((0 : Int) = 1)) := by
                      rw [show decide (z = 1) = false from decide_eq_false (by omega)]; rw [hst, g_rk_test (by omega) (by assumption), show top - 1 = top + -1 by omega, decide_eq_false (by assumption)]; rfl
                    refine g_iconst hc dX9_reckon_136 ?_
                    refine g_istore_3 hc dX9_reckon_137 rfl ?_
                    refine g_goto (tgt := 207) hc dX9_reckon_138 (by decide) ?_
                    refine g_iinc_4 hc dX9_reckon_207 rfl ?_
                    refine g_goto (tgt := 7) hc dX9_reckon_210 (by decide) ?_
                    refine G_sub (L' := [some (gvr w t), some (gvr w 554), some (gvI (top + (-1))), some (gvI 0), some (gvI (i + 1)), none]) (show g_le _ _ from ⟨rfl, ⟨rfl, ⟨rfl, ⟨rfl, ⟨rfl, trivial⟩⟩⟩⟩⟩) ?_
                    refine ih_7 _ _ _ _ ?_ ?_ ?_ ?_ ?_ ?_ ?_ ?_
                    · omega
                    · omega
                    · omega
                    · first | exact hsI2 | exact hsI2
                    · first | exact hxI2 | exact hxI2
                    · first | exact hbdI2 | (intro j hj1 hj2; have := h8 j hj1 (by omega); omega)
                    · rw [h9]; first | exact hA | exact hB | exact hC | exact hD | exact hE | exact hF | exact hG
                    · omega
                  · skip
                    have hC : g_rk (I (t + 1)) (I 554) (I t 2 - i).toNat i (g_stk (I2 (t + 2)) top.toNat) (decide (z = 1)) = g_rk (I (t + 1)) (I 554) (I t 2 - (i + 1)).toNat (i + 1) (g_stk (I2 (t + 2)) (top + -1).toNat) (decide ((1 : Int) = 1)) := by
                      rw [show decide (z = 1) = false from decide_eq_false (by omega)]; rw [hst, g_rk_test (by omega) (by assumption), show top - 1 = top + -1 by omega, decide_eq_true (by assumption)]; rfl
                    refine g_iconst hc dX9_reckon_132 ?_
                    refine g_goto (tgt := 137) hc dX9_reckon_133 (by decide) ?_
                    refine g_istore_3 hc dX9_reckon_137 rfl ?_
                    refine g_goto (tgt := 207) hc dX9_reckon_138 (by decide) ?_
                    refine g_iinc_4 hc dX9_reckon_207 rfl ?_
                    refine g_goto (tgt := 7) hc dX9_reckon_210 (by decide) ?_
                    refine G_sub (L' := [some (gvr w t), some (gvr w 554), some (gvI (top + (-1))), some (gvI 1), some (gvI (i + 1)), none]) (show g_le _ _ from ⟨rfl, ⟨rfl, ⟨rfl, ⟨rfl, ⟨rfl, trivial⟩⟩⟩⟩⟩) ?_
                    refine ih_7 _ _ _ _ ?_ ?_ ?_ ?_ ?_ ?_ ?_ ?_
                    · omega
                    · omega
                    · omega
                    · first | exact hsI2 | exact hsI2
                    · first | exact hxI2 | exact hxI2
                    · first | exact hbdI2 | (intro j hj1 hj2; have := h8 j hj1 (by omega); omega)
                    · rw [h9]; first | exact hA | exact hB | exact hC | exact hD | exact hE | exact hF | exact hG
                    · omega
              · skip
                have htop : 0 < top := by omega
                have h8t := h8 (top - 1) (by omega) (by omega)
                refine g_aldn hc dX9_reckon_104 rfl ?_
                refine g_getRk hc lk_X9_13 (ta_0 ht) (rt_1 hR ht) dX9_reckon_105 ?_
                refine g_iload_n hc dX9_reckon_108 rfl ?_
                refine g_iconst hc dX9_reckon_109 ?_
                refine g_isub hc dX9_reckon_110 ?_
                refine g_iald hc (ta_2 ht) (by decide) (by omega) (by omega) dX9_reckon_111 ?_
                refine g_iret hc hm dX9_reckon_112 ?_
                have hg : (g_rk (I (t + 1)) (I 554) (I t 2).toNat 0 [] false) = I2 (t + 2) (top - 1) := by rw [h9, show decide (z = 1) = false from decide_eq_false (by omega), g_stk_c htop, g_rk_give (by omega) (by assumption)]
                exact ⟨⟨by rw [hg], rfl, fun k j hk => hsI2 k j hk, hxI2, rfl, rfl⟩, by rw [hg]; omega⟩
            · skip
              refine g_iconst hc dX9_reckon_95 ?_
              refine g_iret hc hm dX9_reckon_96 ?_
              refine ⟨⟨by rw [h9, show decide (z = 1) = false from decide_eq_false (by omega), show top = 0 by omega]; rw [show g_stk (I2 (t + 2)) (0 : Int).toNat = [] from rfl, g_rk_nil (by omega) hneg], rfl, fun k j hk => hsI2 k j hk, hxI2, rfl, rfl⟩, ?_⟩
              rw [h9, show decide (z = 1) = false from decide_eq_false (by omega), show top = 0 by omega]; rw [show g_stk (I2 (t + 2)) (0 : Int).toNat = [] from rfl, g_rk_nil (by omega) hneg]; decide
          · skip
            refine g_iload_n hc dX9_reckon_50 rfl ?_
            refine g_bipush hc dX9_reckon_51 (by decide +kernel) ?_
            refine g_icmp_ge (tgt := 207) hc dX9_reckon_53 (by decide) (by first | exact hI _ _ | exact hxI2 _ _ | exact hIa _ _ | exact hIb _ _ | exact g_b32 | exact g_and32 | assumption | exact ⟨by omega, by omega⟩) (by first | exact hI _ _ | exact hxI2 _ _ | exact hIa _ _ | exact hIb _ _ | exact g_b32 | exact g_and32 | assumption | exact ⟨by omega, by omega⟩) (fun c10 => ?_) (fun c10 => ?_)
            · skip
              have hF : g_rk (I (t + 1)) (I 554) (I t 2 - i).toNat i (g_stk (I2 (t + 2)) top.toNat) (decide (z = 1)) = g_rk (I (t + 1)) (I 554) (I t 2 - (i + 1)).toNat (i + 1) (g_stk (I2 (t + 2)) top.toNat) (decide (z = 1)) := by
                rw [show decide (z = 1) = false from decide_eq_false (by omega)]; exact g_rk_full (by omega) (by omega) (by rw [g_stk_len]; omega)
              refine g_iinc_4 hc dX9_reckon_207 rfl ?_
              refine g_goto (tgt := 7) hc dX9_reckon_210 (by decide) ?_
              refine G_sub (L' := [some (gvr w t), some (gvr w 554), some (gvI top), some (gvI z), some (gvI (i + 1)), none]) (show g_le _ _ from ⟨rfl, ⟨rfl, ⟨rfl, ⟨rfl, ⟨rfl, trivial⟩⟩⟩⟩⟩) ?_
              refine ih_7 _ _ _ _ ?_ ?_ ?_ ?_ ?_ ?_ ?_ ?_
              · omega
              · omega
              · omega
              · first | exact hsI2 | exact hsI2
              · first | exact hxI2 | exact hxI2
              · first | exact hbdI2 | (intro j hj1 hj2; have := h8 j hj1 (by omega); omega)
              · rw [h9]; first | exact hA | exact hB | exact hC | exact hD | exact hE | exact hF | exact hG
              · omega
            · skip
              refine g_aldn hc dX9_reckon_56 rfl ?_
              refine g_getRk hc lk_X9_13 (ta_0 ht) (rt_1 hR ht) dX9_reckon_57 ?_
              refine g_iload_n hc dX9_reckon_60 rfl ?_
              refine g_iload hc dX9_reckon_61 rfl ?_
              refine g_sipush hc dX9_reckon_63 (by decide +kernel) ?_
              refine g_icmp_ge (tgt := 74) hc dX9_reckon_66 (by decide) (by first | exact hI _ _ | exact hxI2 _ _ | exact hIa _ _ | exact hIb _ _ | exact g_b32 | exact g_and32 | assumption | exact ⟨by omega, by omega⟩) (by first | exact hI _ _ | exact hxI2 _ _ | exact hIa _ _ | exact hIb _ _ | exact g_b32 | exact g_and32 | assumption | exact ⟨by omega, by omega⟩) (fun c11 => ?_) (fun c11 => ?_)
              · skip
                refine g_aldn hc dX9_reckon_74 rfl ?_
                refine g_iload hc dX9_reckon_75 rfl ?_
                refine g_sipush hc dX9_reckon_77 (by decide +kernel) ?_
                refine g_isub hc dX9_reckon_80 ?_
                refine g_S2r hc (c_X9_letterAt w hR hxI2 (by omega)) my_X9_letterAt ms_X9_letterAt lm_X9_20 rfl (by decide) (Nat.le_of_ble_eq_true rfl) hm dX9_reckon_81 ?_
                rw [hsI2 554 _ (by omega)]
                have hl8 := hLt ((I (t + 1) i) - 10000) (by omega) (by omega)
                obtain ⟨I5, hI5⟩ : ∃ I5, I5 = g_up I2 (t + 2) top (I 554 ((I (t + 1) i) - 10000)) := ⟨_, rfl⟩
                have hsI5 : ∀ (k : Nat) (j : Int), k ≠ t + 2 → I5 k j = I k j := fun k j hk => by
                  rw [hI5, g_up_k (by omega)]
                  exact hsI2 k j hk
                have hxI5 : ∀ k j, g32 (I5 k j) := by rw [hI5]; exact g_up32 hxI2 (by first | exact hI _ _ | exact ⟨by omega, by omega⟩)
                refine g_iaste (I2 := I5) hc (ta_2 ht) (by decide) (by omega) (by omega) hI5.symm dX9_reckon_84 ?_
                have hbdI5 : ∀ j : Int, 0 ≤ j → j < top + 1 → -(1000000 + (i + 1)) ≤ I5 (t + 2) j ∧ I5 (t + 2) j ≤ 1000000 + (i + 1) := fun j hj1 hj2 => by
                  rw [hI5]; unfold g_up; split
                  · omega
                  · have := h8 j hj1 (by omega); omega
                have hB : g_rk (I (t + 1)) (I 554) (I t 2 - i).toNat i (g_stk (I2 (t + 2)) top.toNat) (decide (z = 1)) = g_rk (I (t + 1)) (I 554) (I t 2 - (i + 1)).toNat (i + 1) (g_stk (I5 (t + 2)) (top + 1).toNat) (decide (z = 1)) := by
                  rw [show decide (z = 1) = false from decide_eq_false (by omega)]; rw [g_rk_push (by omega) (by omega) (by rw [g_stk_len]; omega), hI5, g_stk_up h4.1]; first | rw [if_neg (by omega)] | rw [if_pos (by omega)]
                refine g_iinc_2 hc dX9_reckon_85 rfl ?_
                refine g_goto (tgt := 207) hc dX9_reckon_88 (by decide) ?_
                refine g_iinc_4 hc dX9_reckon_207 rfl ?_
                refine g_goto (tgt := 7) hc dX9_reckon_210 (by decide) ?_
                refine G_sub (L' := [some (gvr w t), some (gvr w 554), some (gvI (top + 1)), some (gvI z), some (gvI (i + 1)), none]) (show g_le _ _ from ⟨rfl, ⟨rfl, ⟨rfl, ⟨rfl, ⟨rfl, trivial⟩⟩⟩⟩⟩) ?_
                refine ih_7 _ _ _ _ ?_ ?_ ?_ ?_ ?_ ?_ ?_ ?_
                · omega
                · omega
                · omega
                · first | exact hsI5 | exact hsI2
                · first | exact hxI5 | exact hxI2
                · first | exact hbdI5 | (intro j hj1 hj2; have := h8 j hj1 (by omega); omega)
                · rw [h9]; first | exact hA | exact hB | exact hC | exact hD | exact hE | exact hF | exact hG
                · omega
              · skip
                refine g_iload hc dX9_reckon_69 rfl ?_
                refine g_goto (tgt := 84) hc dX9_reckon_71 (by decide) ?_
                obtain ⟨I6, hI6⟩ : ∃ I6, I6 = g_up I2 (t + 2) top (I (t + 1) i) := ⟨_, rfl⟩
                have hsI6 : ∀ (k : Nat) (j : Int), k ≠ t + 2 → I6 k j = I k j := fun k j hk => by
                  rw [hI6, g_up_k (by omega)]
                  exact hsI2 k j hk
                have hxI6 : ∀ k j, g32 (I6 k j) := by rw [hI6]; exact g_up32 hxI2 (by first | exact hI _ _ | exact ⟨by omega, by omega⟩)
                refine g_iaste (I2 := I6) hc (ta_2 ht) (by decide) (by omega) (by omega) hI6.symm dX9_reckon_84 ?_
                have hbdI6 : ∀ j : Int, 0 ≤ j → j < top + 1 → -(1000000 + (i + 1)) ≤ I6 (t + 2) j ∧ I6 (t + 2) j ≤ 1000000 + (i + 1) := fun j hj1 hj2 => by
                  rw [hI6]; unfold g_up; split
                  · omega
                  · have := h8 j hj1 (by omega); omega
                have hB : g_rk (I (t + 1)) (I 554) (I t 2 - i).toNat i (g_stk (I2 (t + 2)) top.toNat) (decide (z = 1)) = g_rk (I (t + 1)) (I 554) (I t 2 - (i + 1)).toNat (i + 1) (g_stk (I6 (t + 2)) (top + 1).toNat) (decide (z = 1)) := by
                  rw [show decide (z = 1) = false from decide_eq_false (by omega)]; rw [g_rk_push (by omega) (by omega) (by rw [g_stk_len]; omega), hI6, g_stk_up h4.1]; first | rw [if_neg (by omega)] | rw [if_pos (by omega)]
                refine g_iinc_2 hc dX9_reckon_85 rfl ?_
                refine g_goto (tgt := 207) hc dX9_reckon_88 (by decide) ?_
                refine g_iinc_4 hc dX9_reckon_207 rfl ?_
                refine g_goto (tgt := 7) hc dX9_reckon_210 (by decide) ?_
                refine G_sub (L' := [some (gvr w t), some (gvr w 554), some (gvI (top + 1)), some (gvI z), some (gvI (i + 1)), none]) (show g_le _ _ from ⟨rfl, ⟨rfl, ⟨rfl, ⟨rfl, ⟨rfl, trivial⟩⟩⟩⟩⟩) ?_
                refine ih_7 _ _ _ _ ?_ ?_ ?_ ?_ ?_ ?_ ?_ ?_
                · omega
                · omega
                · omega
                · first | exact hsI6 | exact hsI2
                · first | exact hxI6 | exact hxI2
                · first | exact hbdI6 | (intro j hj1 hj2; have := h8 j hj1 (by omega); omega)
                · rw [h9]; first | exact hA | exact hB | exact hC | exact hD | exact hE | exact hF | exact hG
                · omega
        · skip
          refine g_iload hc dX9_reckon_29 rfl ?_
          refine g_bipush hc dX9_reckon_31 (by decide +kernel) ?_
          refine g_icmp_eq (tgt := 40) hc dX9_reckon_33 (by decide) (by first | exact hI _ _ | exact hxI2 _ _ | exact hIa _ _ | exact hIb _ _ | exact g_b32 | exact g_and32 | assumption | exact ⟨by omega, by omega⟩) (by first | exact hI _ _ | exact hxI2 _ _ | exact hIa _ _ | exact hIb _ _ | exact g_b32 | exact g_and32 | assumption | exact ⟨by omega, by omega⟩) (fun c12 => ?_) (fun c12 => ?_)
          · skip
            have hA : g_rk (I (t + 1)) (I 554) (I t 2 - i).toNat i (g_stk (I2 (t + 2)) top.toNat) (decide (z = 1)) = g_rk (I (t + 1)) (I 554) (I t 2 - (i + 1)).toNat (i + 1) (g_stk (I2 (t + 2)) top.toNat) (decide ((0 : Int) = 1)) := by
              rw [show decide (z = 1) = true from decide_eq_true (by omega), g_rk_skip (by omega), decide_eq_false (by simpa using (by assumption : I (t + 1) i = -59))]; rfl
            refine g_iconst hc dX9_reckon_40 ?_
            refine g_istore_3 hc dX9_reckon_41 rfl ?_
            refine g_goto (tgt := 207) hc dX9_reckon_42 (by decide) ?_
            refine g_iinc_4 hc dX9_reckon_207 rfl ?_
            refine g_goto (tgt := 7) hc dX9_reckon_210 (by decide) ?_
            refine G_sub (L' := [some (gvr w t), some (gvr w 554), some (gvI top), some (gvI 0), some (gvI (i + 1)), none]) (show g_le _ _ from ⟨rfl, ⟨rfl, ⟨rfl, ⟨rfl, ⟨rfl, trivial⟩⟩⟩⟩⟩) ?_
            refine ih_7 _ _ _ _ ?_ ?_ ?_ ?_ ?_ ?_ ?_ ?_
            · omega
            · omega
            · omega
            · first | exact hsI2 | exact hsI2
            · first | exact hxI2 | exact hxI2
            · first | exact hbdI2 | (intro j hj1 hj2; have := h8 j hj1 (by omega); omega)
            · rw [h9]; first | exact hA | exact hB | exact hC | exact hD | exact hE | exact hF | exact hG
            · omega
          · skip
            have hA : g_rk (I (t + 1)) (I 554) (I t 2 - i).toNat i (g_stk (I2 (t + 2)) top.toNat) (decide (z = 1)) = g_rk (I (t + 1)) (I 554) (I t 2 - (i + 1)).toNat (i + 1) (g_stk (I2 (t + 2)) top.toNat) (decide ((1 : Int) = 1)) := by
              rw [show decide (z = 1) = true from decide_eq_true (by omega), g_rk_skip (by omega), decide_eq_true (by assumption)]; rfl
            refine g_iconst hc dX9_reckon_36 ?_
            refine g_goto (tgt := 41) hc dX9_reckon_37 (by decide) ?_
            refine g_istore_3 hc dX9_reckon_41 rfl ?_
            refine g_goto (tgt := 207) hc dX9_reckon_42 (by decide) ?_
            refine g_iinc_4 hc dX9_reckon_207 rfl ?_
            refine g_goto (tgt := 7) hc dX9_reckon_210 (by decide) ?_
            refine G_sub (L' := [some (gvr w t), some (gvr w 554), some (gvI top), some (gvI 1), some (gvI (i + 1)), none]) (show g_le _ _ from ⟨rfl, ⟨rfl, ⟨rfl, ⟨rfl, ⟨rfl, trivial⟩⟩⟩⟩⟩) ?_
            refine ih_7 _ _ _ _ ?_ ?_ ?_ ?_ ?_ ?_ ?_ ?_
            · omega
            · omega
            · omega
            · first | exact hsI2 | exact hsI2
            · first | exact hxI2 | exact hxI2
            · first | exact hbdI2 | (intro j hj1 hj2; have := h8 j hj1 (by omega); omega)
            · rw [h9]; first | exact hA | exact hB | exact hC | exact hD | exact hE | exact hF | exact hG
            · omega
  refine lp_7 (I t 2 + 1).toNat _ _ _ _ ?_ ?_ ?_ ?_ ?_ ?_ ?_ (?_)
  · omega
  · omega
  · omega
  · exact hsI
  · exact hxI
  · intro j hj1 hj2; omega
  · rw [Int.sub_zero]; rfl
  · omega
