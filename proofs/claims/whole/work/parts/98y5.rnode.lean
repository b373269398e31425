set_option maxHeartbeats 4000000 in
set_option maxRecDepth 100000 in
/-- X13_readNode -/
theorem c_X13_readNode (w : g_W) {J : g_J} {R : g_R} {lb : Nat} (hR : g_rf w R lb 704) {N : g_I} {n : Int} {Lf : Int → Int} (he : y_env N 704 240 0 n Lf) {b k : Nat} {dep ah bh a d : Int} {X : g_I} {lv : Int → Int} (hb : g_life b) (hk : k ≤ 6) (hdk : dep = 6 - (k : Int)) (hIH : ∀ j : Nat, k = j + 1 → C_zn w b j) (ha0 : 0 ≤ a ∧ a ≤ n) (hX0 : l_ok b X) (hXs0 : X 1 1 = n ∧ X 2 = q_by N 704 0 ∧ X 1 2 = a ∧ X 1 3 = -1) (hah : ah = if dep = 0 then -1 else X 545 (dep - 1)) (hbh : bh = if dep = 0 then -1 else X 546 (dep - 1)) (hZ : z_Z X b N dep (-1) 0 lv) (hE : z_E X b dep) : g_Met w g_n (y_M N a (-1) d) J R yX13_readNode cX13_readNode 7 (some .int) (6 + 2 * k) 0 0 [(gvr w 703), (gvI ah), (gvI bh), (gvI dep)] (z_nd n d X b N J R dep lv (m_node b k X)) := by
  refine g_intro (own := RX13) [some (gvr w 703), some (gvI ah), some (gvI bh), some (gvI dep), none, none, none] (by decide +kernel) rfl (by decide) (Nat.le_of_ble_eq_true rfl) rfl (fun i v hv => g_args 3 i v hv rfl) (fun x hc hm => ?_)
  have hXb0 := hX0.2.2.2.2.1
  have he0 := he
  have he5 := he.2.2.1
  have hgN := he.2.2.2.2.1
  obtain ⟨hX01, hX02, hX03, hX04⟩ := hXs0
  have hBx : q_by N 704 0 = X 2 := hX02.symm
  have hBm := hBx
  have hfr : z_fr N N := fun _ _ _ => rfl
  have hdd := hZ.1.2.2.1
  have hx0 := hZ.1.1
  have hx1 := hZ.1.2.1
  have he1 := hE.2.1
  obtain ⟨p, hp⟩ : ∃ p, p = g_pos (X 2) n a := ⟨_, rfl⟩
  have hp2 : g_pos (X 2) n (X 1 2) = p := by rw [hX03]; exact hp.symm
  have hpin := g_pos_in (B := X 2) (len := n) (a := a) (by omega)
  have hpp : g_pos (X 2) n p = p := by rw [hp]; exact g_pos_pos (by omega)
  have h5r := hX0.2.2.2.2.2.1 (dep - 1)
  have h6r := hX0.2.2.2.2.2.2.1 (dep - 1)
  have hah9 : -1 ≤ ah ∧ ah < 20 := by rw [hah]; split <;> omega
  have hbh9 : -1 ≤ bh ∧ bh < 4 := by rw [hbh]; split <;> omega
  have hsgr := z_sgm (B := X 2) (n := n) (a := a) hXb0
  obtain ⟨Y, hYd⟩ : ∃ Y, Y = m_node b k X := ⟨_, rfl⟩
  rw [← hYd]
  refine g_aldn hc dX13_readNode_0 rfl ?_
  refine g_V0r hc (z_look w hR he hBm (by omega) (by omega)) my_X13_look mv_X13_look ca_703 rfl rfl lm_X13_144 rfl (by omega) (Nat.le_of_ble_eq_true rfl) hm dX13_readNode_1 ?_
  refine g_istore_4 hc dX13_readNode_4 rfl ?_
  refine g_iload hc dX13_readNode_6 rfl ?_
  refine g_bipush hc dX13_readNode_8 (by decide +kernel) ?_
  refine g_icmp_ne (tgt := 152) hc dX13_readNode_10 (by decide) (by first | assumption | with_reducible exact z_sg32 hXb | with_reducible exact z_sg32 hXb0 | with_reducible exact g_and32 | with_reducible exact g_or32 | exact ⟨by omega, by omega⟩) (by first | assumption | with_reducible exact z_sg32 hXb | with_reducible exact z_sg32 hXb0 | with_reducible exact g_and32 | with_reducible exact g_or32 | exact ⟨by omega, by omega⟩) (fun c1 => ?_) (fun c1 => ?_)
  · skip
    have hs1 : ¬ g_sgn (X 2) n a = 108 := c1
    refine g_iload hc dX13_readNode_152 rfl ?_
    refine g_bipush hc dX13_readNode_154 (by decide +kernel) ?_
    refine g_icmp_ne (tgt := 176) hc dX13_readNode_156 (by decide) (by first | assumption | with_reducible exact z_sg32 hXb | with_reducible exact z_sg32 hXb0 | with_reducible exact g_and32 | with_reducible exact g_or32 | exact ⟨by omega, by omega⟩) (by first | assumption | with_reducible exact z_sg32 hXb | with_reducible exact z_sg32 hXb0 | with_reducible exact g_and32 | with_reducible exact g_or32 | exact ⟨by omega, by omega⟩) (fun c2 => ?_) (fun c2 => ?_)
    · skip
      have hs3 : ¬ g_sgn (X 2) n a = 102 := c2
      refine g_aldn hc dX13_readNode_176 rfl ?_
      refine g_V0r hc (d_fails w hR he (by omega) (by omega)) my_X13_fails mv_X13_fails ca_703 rfl rfl lm_X13_140 rfl (by omega) (Nat.le_of_ble_eq_true rfl) hm dX13_readNode_177 ?_
      refine g_pop hc dX13_readNode_180 rfl ?_
      refine g_iconst hc dX13_readNode_181 ?_
      refine g_iret hc hm dX13_readNode_182 ?_
      have hq9 : Y.2 1 3 = g_pos (X 2) n a := by rw [hYd, ← hp]; exact z_nodeE hb hdk hX0 hX01 hX04 hp2 (by rw [hX03]; omega) (by rw [hX03]; omega)
      exact ⟨rfl, rfl, rfl, -1, (g_pos (X 2) n a), N, rfl, by rw [hq9, g_q1, if_pos rfl], by omega, ⟨by omega, by omega⟩, hgN, hfr, fun z => by rw [hq9] at z; omega⟩
    · skip
      have hs3 : g_sgn (X 2) n a = 102 := c2
      refine g_iload_n hc dX13_readNode_159 rfl ?_
      refine g_bipush hc dX13_readNode_160 (by decide +kernel) ?_
      refine g_icmp_eq (tgt := 176) hc dX13_readNode_162 (by decide) (by first | assumption | with_reducible exact z_sg32 hXb | with_reducible exact z_sg32 hXb0 | with_reducible exact g_and32 | with_reducible exact g_or32 | exact ⟨by omega, by omega⟩) (by first | assumption | with_reducible exact z_sg32 hXb | with_reducible exact z_sg32 hXb0 | with_reducible exact g_and32 | with_reducible exact g_or32 | exact ⟨by omega, by omega⟩) (fun c3 => ?_) (fun c3 => ?_)
      · skip
        have hd6 : dep = 6 := c3
        refine g_aldn hc dX13_readNode_176 rfl ?_
        refine g_V0r hc (d_fails w hR he (by omega) (by omega)) my_X13_fails mv_X13_fails ca_703 rfl rfl lm_X13_140 rfl (by omega) (Nat.le_of_ble_eq_true rfl) hm dX13_readNode_177 ?_
        refine g_pop hc dX13_readNode_180 rfl ?_
        refine g_iconst hc dX13_readNode_181 ?_
        refine g_iret hc hm dX13_readNode_182 ?_
        have hq9 : Y.2 1 3 = g_pos (X 2) n a := by rw [hYd, ← hp]; exact z_nodeE hb hdk hX0 hX01 hX04 hp2 (by rw [hX03]; omega) (by rw [hX03]; omega)
        exact ⟨rfl, rfl, rfl, -1, (g_pos (X 2) n a), N, rfl, by rw [hq9, g_q1, if_pos rfl], by omega, ⟨by omega, by omega⟩, hgN, hfr, fun z => by rw [hq9] at z; omega⟩
      · skip
        have hd6 : ¬ dep = 6 := c3
        refine g_aldn hc dX13_readNode_165 rfl ?_
        refine g_getRk hc lk_X13_49 ca_703 (rc_703_22 hR) dX13_readNode_166 ?_
        refine g_iconst hc dX13_readNode_169 ?_
        refine g_ialde hc ca_712 (by decide) (by omega) (by omega) (show (y_M N (g_pos (X 2) n a) (-1) d) 712 3 = X b 1 from (congrFun (y_M_k (by decide)) _).trans (hZ.1.2.2.2.2.1)) dX13_readNode_170 ?_
        refine g_bipush hc dX13_readNode_171 (by decide +kernel) ?_
        refine g_icmp_ne (tgt := 183) hc dX13_readNode_173 (by decide) (by first | assumption | with_reducible exact z_sg32 hXb | with_reducible exact z_sg32 hXb0 | with_reducible exact g_and32 | with_reducible exact g_or32 | exact ⟨by omega, by omega⟩) (by first | assumption | with_reducible exact z_sg32 hXb | with_reducible exact z_sg32 hXb0 | with_reducible exact g_and32 | with_reducible exact g_or32 | exact ⟨by omega, by omega⟩) (fun c4 => ?_) (fun c4 => ?_)
        · skip
          refine g_aldn hc dX13_readNode_183 rfl ?_
          refine g_getRk hc lk_X13_49 ca_703 (rc_703_22 hR) dX13_readNode_184 ?_
          refine g_iconst hc dX13_readNode_187 ?_
          refine g_ialde hc ca_712 (by decide) (by omega) (by omega) (show (y_M N (g_pos (X 2) n a) (-1) d) 712 3 = X b 1 from (congrFun (y_M_k (by decide)) _).trans (hZ.1.2.2.2.2.1)) dX13_readNode_188 ?_
          refine g_istore_5 hc dX13_readNode_189 rfl ?_
          refine g_aldn hc dX13_readNode_191 rfl ?_
          refine g_iconst hc dX13_readNode_192 ?_
          refine g_iload hc dX13_readNode_193 rfl ?_
          refine g_V2r hc (c_X13_forkAt w) my_X13_forkAt mv_X13_forkAt ca_703 rfl rfl lm_X13_249 rfl (by omega) (Nat.le_of_ble_eq_true rfl) hm dX13_readNode_195 ?_
          refine g_istore_6 hc dX13_readNode_198 rfl ?_
          refine g_aldn hc dX13_readNode_200 rfl ?_
          refine g_getRk hc lk_X13_49 ca_703 (rc_703_22 hR) dX13_readNode_201 ?_
          refine g_iconst hc dX13_readNode_204 ?_
          refine g_dup2 hc dX13_readNode_205 rfl rfl ?_
          refine g_ialde hc ca_712 (by decide) (by omega) (by omega) (show (y_M N (g_pos (X 2) n a) (-1) d) 712 3 = X b 1 from (congrFun (y_M_k (by decide)) _).trans (hZ.1.2.2.2.2.1)) dX13_readNode_206 ?_
          refine g_iconst hc dX13_readNode_207 ?_
          refine g_iadd hc dX13_readNode_208 ?_
          obtain ⟨N3, hN3⟩ : ∃ N3, N3 = g_up N 712 3 ((X b 1) + 1) := ⟨_, rfl⟩
          refine g_iaste (I2 := (y_M N3 (g_pos (X 2) n a) (-1) d)) hc ca_712 (by decide) (by omega) (by omega) ((y_M_p (by omega)).trans (by rw [hN3])) dX13_readNode_209 ?_
          have hfr : z_fr N N3 := fun k j hk => by
            rw [hN3]
            exact (g_up_n (by unfold z_sc at hk; omega)).trans (hfr k j hk)
          have hgN : ∀ k j, g32 (N3 k j) := by rw [hN3]; exact x_up32 hgN (by first | assumption | exact ⟨by omega, by omega⟩)
          have hq5 : ∀ (k : Nat) (j : Int), ¬ ((k = 709 ∧ (3 * 18 + X b 1) * 5 ≤ j ∧ j < (3 * 18 + X b 1) * 5 + 5) ∨ (k = 712 ∧ j = 3)) → N3 k j = N k j := fun k j hk => by rw [hN3]; exact (g_up_n (by omega)).trans (rfl)
          have h11 : N3 712 3 = X b 1 + 1 := by rw [hN3, g_up_s]
          refine g_aldn hc dX13_readNode_210 rfl ?_
          refine g_getRk hc lk_X13_40 ca_703 (rc_703_19 hR) dX13_readNode_211 ?_
          refine g_iload hc dX13_readNode_214 rfl ?_
          refine g_bipush hc dX13_readNode_216 (by decide +kernel) ?_
          obtain ⟨N4, hN4⟩ : ∃ N4, N4 = g_up N3 709 ((3 * 18 + (X b 1)) * 5) 20 := ⟨_, rfl⟩
          refine g_iaste (I2 := (y_M N4 (g_pos (X 2) n a) (-1) d)) hc ca_709 (by decide) (by omega) (by omega) ((y_M_p (by omega)).trans (by rw [hN4])) dX13_readNode_218 ?_
          have hfr : z_fr N N4 := fun k j hk => by
            rw [hN4]
            exact (g_up_n (by unfold z_sc at hk; omega)).trans (hfr k j hk)
          have hgN : ∀ k j, g32 (N4 k j) := by rw [hN4]; exact x_up32 hgN (by first | assumption | exact ⟨by omega, by omega⟩)
          have hq5 : ∀ (k : Nat) (j : Int), ¬ ((k = 709 ∧ (3 * 18 + X b 1) * 5 ≤ j ∧ j < (3 * 18 + X b 1) * 5 + 5) ∨ (k = 712 ∧ j = 3)) → N4 k j = N k j := fun k j hk => by rw [hN4]; exact (g_up_n (by omega)).trans (hq5 k j hk)
          have h11 : N4 712 3 = X b 1 + 1 := by rw [hN4, g_up_k (by decide)]; exact h11
          have hw0 : N4 709 ((3 * 18 + X b 1) * 5 + 0) = 20 := by rw [hN4, Int.add_zero, g_up_s]
          refine g_aldn hc dX13_readNode_219 rfl ?_
          refine g_getRk hc lk_X13_40 ca_703 (rc_703_19 hR) dX13_readNode_220 ?_
          refine g_iload hc dX13_readNode_223 rfl ?_
          refine g_iconst hc dX13_readNode_225 ?_
          refine g_iadd hc dX13_readNode_226 ?_
          refine g_iconst hc dX13_readNode_227 ?_
          obtain ⟨N5, hN5⟩ : ∃ N5, N5 = g_up N4 709 (((3 * 18 + (X b 1)) * 5) + 1) 0 := ⟨_, rfl⟩
          refine g_iaste (I2 := (y_M N5 (g_pos (X 2) n a) (-1) d)) hc ca_709 (by decide) (by omega) (by omega) ((y_M_p (by omega)).trans (by rw [hN5])) dX13_readNode_228 ?_
          have hfr : z_fr N N5 := fun k j hk => by
            rw [hN5]
            exact (g_up_n (by unfold z_sc at hk; omega)).trans (hfr k j hk)
          have hgN : ∀ k j, g32 (N5 k j) := by rw [hN5]; exact x_up32 hgN (by first | assumption | exact ⟨by omega, by omega⟩)
          have hq5 : ∀ (k : Nat) (j : Int), ¬ ((k = 709 ∧ (3 * 18 + X b 1) * 5 ≤ j ∧ j < (3 * 18 + X b 1) * 5 + 5) ∨ (k = 712 ∧ j = 3)) → N5 k j = N k j := fun k j hk => by rw [hN5]; exact (g_up_n (by omega)).trans (hq5 k j hk)
          have h11 : N5 712 3 = X b 1 + 1 := by rw [hN5, g_up_k (by decide)]; exact h11
          have hw0 : N5 709 ((3 * 18 + X b 1) * 5 + 0) = 20 := by rw [hN5, g_up_i (by omega)]; exact hw0
          have hw1 : N5 709 ((3 * 18 + X b 1) * 5 + 1) = 0 := by rw [hN5, g_up_s]
          refine g_aldn hc dX13_readNode_229 rfl ?_
          refine g_getRk hc lk_X13_40 ca_703 (rc_703_19 hR) dX13_readNode_230 ?_
          refine g_iload hc dX13_readNode_233 rfl ?_
          refine g_iconst hc dX13_readNode_235 ?_
          refine g_iadd hc dX13_readNode_236 ?_
          refine g_iconst hc dX13_readNode_237 ?_
          obtain ⟨N6, hN6⟩ : ∃ N6, N6 = g_up N5 709 (((3 * 18 + (X b 1)) * 5) + 2) 0 := ⟨_, rfl⟩
          refine g_iaste (I2 := (y_M N6 (g_pos (X 2) n a) (-1) d)) hc ca_709 (by decide) (by omega) (by omega) ((y_M_p (by omega)).trans (by rw [hN6])) dX13_readNode_238 ?_
          have hfr : z_fr N N6 := fun k j hk => by
            rw [hN6]
            exact (g_up_n (by unfold z_sc at hk; omega)).trans (hfr k j hk)
          have hgN : ∀ k j, g32 (N6 k j) := by rw [hN6]; exact x_up32 hgN (by first | assumption | exact ⟨by omega, by omega⟩)
          have hq5 : ∀ (k : Nat) (j : Int), ¬ ((k = 709 ∧ (3 * 18 + X b 1) * 5 ≤ j ∧ j < (3 * 18 + X b 1) * 5 + 5) ∨ (k = 712 ∧ j = 3)) → N6 k j = N k j := fun k j hk => by rw [hN6]; exact (g_up_n (by omega)).trans (hq5 k j hk)
          have h11 : N6 712 3 = X b 1 + 1 := by rw [hN6, g_up_k (by decide)]; exact h11
          have hw0 : N6 709 ((3 * 18 + X b 1) * 5 + 0) = 20 := by rw [hN6, g_up_i (by omega)]; exact hw0
          have hw1 : N6 709 ((3 * 18 + X b 1) * 5 + 1) = 0 := by rw [hN6, g_up_i (by omega)]; exact hw1
          have hw2 : N6 709 ((3 * 18 + X b 1) * 5 + 2) = 0 := by rw [hN6, g_up_s]
          refine g_aldn hc dX13_readNode_239 rfl ?_
          refine g_getRk hc lk_X13_40 ca_703 (rc_703_19 hR) dX13_readNode_240 ?_
          refine g_iload hc dX13_readNode_243 rfl ?_
          refine g_iconst hc dX13_readNode_245 ?_
          refine g_iadd hc dX13_readNode_246 ?_
          refine g_iload_n hc dX13_readNode_247 rfl ?_
          obtain ⟨N7, hN7⟩ : ∃ N7, N7 = g_up N6 709 (((3 * 18 + (X b 1)) * 5) + 3) ah := ⟨_, rfl⟩
          refine g_iaste (I2 := (y_M N7 (g_pos (X 2) n a) (-1) d)) hc ca_709 (by decide) (by omega) (by omega) ((y_M_p (by omega)).trans (by rw [hN7])) dX13_readNode_248 ?_
          have hfr : z_fr N N7 := fun k j hk => by
            rw [hN7]
            exact (g_up_n (by unfold z_sc at hk; omega)).trans (hfr k j hk)
          have hgN : ∀ k j, g32 (N7 k j) := by rw [hN7]; exact x_up32 hgN (by first | assumption | exact ⟨by omega, by omega⟩)
          have hq5 : ∀ (k : Nat) (j : Int), ¬ ((k = 709 ∧ (3 * 18 + X b 1) * 5 ≤ j ∧ j < (3 * 18 + X b 1) * 5 + 5) ∨ (k = 712 ∧ j = 3)) → N7 k j = N k j := fun k j hk => by rw [hN7]; exact (g_up_n (by omega)).trans (hq5 k j hk)
          have h11 : N7 712 3 = X b 1 + 1 := by rw [hN7, g_up_k (by decide)]; exact h11
          have hw0 : N7 709 ((3 * 18 + X b 1) * 5 + 0) = 20 := by rw [hN7, g_up_i (by omega)]; exact hw0
          have hw1 : N7 709 ((3 * 18 + X b 1) * 5 + 1) = 0 := by rw [hN7, g_up_i (by omega)]; exact hw1
          have hw2 : N7 709 ((3 * 18 + X b 1) * 5 + 2) = 0 := by rw [hN7, g_up_i (by omega)]; exact hw2
          have hw3 : N7 709 ((3 * 18 + X b 1) * 5 + 3) = ah := by rw [hN7, g_up_s]
          refine g_aldn hc dX13_readNode_249 rfl ?_
          refine g_getRk hc lk_X13_40 ca_703 (rc_703_19 hR) dX13_readNode_250 ?_
          refine g_iload hc dX13_readNode_253 rfl ?_
          refine g_iconst hc dX13_readNode_255 ?_
          refine g_iadd hc dX13_readNode_256 ?_
          refine g_iload_n hc dX13_readNode_257 rfl ?_
          obtain ⟨N8, hN8⟩ : ∃ N8, N8 = g_up N7 709 (((3 * 18 + (X b 1)) * 5) + 4) bh := ⟨_, rfl⟩
          refine g_iaste (I2 := (y_M N8 (g_pos (X 2) n a) (-1) d)) hc ca_709 (by decide) (by omega) (by omega) ((y_M_p (by omega)).trans (by rw [hN8])) dX13_readNode_258 ?_
          have hfr : z_fr N N8 := fun k j hk => by
            rw [hN8]
            exact (g_up_n (by unfold z_sc at hk; omega)).trans (hfr k j hk)
          have hgN : ∀ k j, g32 (N8 k j) := by rw [hN8]; exact x_up32 hgN (by first | assumption | exact ⟨by omega, by omega⟩)
          have hq5 : ∀ (k : Nat) (j : Int), ¬ ((k = 709 ∧ (3 * 18 + X b 1) * 5 ≤ j ∧ j < (3 * 18 + X b 1) * 5 + 5) ∨ (k = 712 ∧ j = 3)) → N8 k j = N k j := fun k j hk => by rw [hN8]; exact (g_up_n (by omega)).trans (hq5 k j hk)
          have h11 : N8 712 3 = X b 1 + 1 := by rw [hN8, g_up_k (by decide)]; exact h11
          have hw0 : N8 709 ((3 * 18 + X b 1) * 5 + 0) = 20 := by rw [hN8, g_up_i (by omega)]; exact hw0
          have hw1 : N8 709 ((3 * 18 + X b 1) * 5 + 1) = 0 := by rw [hN8, g_up_i (by omega)]; exact hw1
          have hw2 : N8 709 ((3 * 18 + X b 1) * 5 + 2) = 0 := by rw [hN8, g_up_i (by omega)]; exact hw2
          have hw3 : N8 709 ((3 * 18 + X b 1) * 5 + 3) = ah := by rw [hN8, g_up_i (by omega)]; exact hw3
          have hw4 : N8 709 ((3 * 18 + X b 1) * 5 + 4) = bh := by rw [hN8, g_up_s]
          have he : y_env N8 704 240 0 n Lf := z_env_fr he0 hfr hgN
          have hBm : q_by N8 704 0 = X 2 := z_by_fr hfr hBx
          have hus5 : ∀ j : Int, 0 ≤ j → j < 2 → N8 709 ((3 * 18 + X b 1) * 5 + j) = g_st 5 j := fun j j0 j1 => by
            obtain ⟨-, -, -, ⟨y0, y1, -⟩, -⟩ := z_rng0
            have : j = 0 ∨ j = 1 := by omega
            rcases this with rfl | rfl
            · rw [y0]; exact hw0
            · rw [y1]; exact hw1
          refine g_aldn hc dX13_readNode_259 rfl ?_
          refine g_dup hc dX13_readNode_260 rfl ?_
          refine g_getIe hc lk_X13_125 ca_703 10 rfl (y_M_a) dX13_readNode_261 ?_
          refine g_iconst hc dX13_readNode_264 ?_
          refine g_iadd hc dX13_readNode_265 ?_
          refine g_putIe (I2 := (y_M N8 ((g_pos (X 2) n a) + 1) (-1) d)) hc lk_X13_125 ca_703 10 rfl y_M_pa dX13_readNode_266 ?_
          refine g_aldn hc dX13_readNode_269 rfl ?_
          refine g_aldn hc dX13_readNode_270 rfl ?_
          refine g_getRk hc lk_X13_40 ca_703 (rc_703_19 hR) dX13_readNode_271 ?_
          refine g_iload hc dX13_readNode_274 rfl ?_
          refine g_ldcS (i := 1) (tx := "yk") hc (by decide) dX13_readNode_276 ?_
          refine g_ldcS (i := 7) (tx := "10") hc (by decide) dX13_readNode_278 ?_
          refine g_ldcT (i := 8) (tx := "h1") hc (by decide) dX13_readNode_280 ?_
          obtain ⟨XL, hXL⟩ : ∃ XL, XL = m_adv (m_sk X) := ⟨_, rfl⟩
          obtain ⟨Y1, hY1⟩ : ∃ Y1, Y1 = m_items 542 2 1 3 4 5 XL := ⟨_, rfl⟩
          obtain ⟨⟨l1, l2, l3, l4⟩, l5, l6, -⟩ := z_nodeX hb hX0 hX01 hX04 hp2 (by rw [hX03]; omega) hXL
          obtain ⟨j, hkj⟩ : ∃ j : Nat, k = j + 1 := ⟨k - 1, by omega⟩
          obtain ⟨W, hW⟩ : ∃ W, W = m_wn 40 (m_fk2 b dep (X b 1) Y1) := ⟨_, rfl⟩
          obtain ⟨YF, hYF⟩ : ∃ YF, YF = m_frl (m_node b j) b dep (X b 1) 4 0 W := ⟨_, rfl⟩
          obtain ⟨n1, n2, n3, n4, n5, n6, n7⟩ := z_nodeF hb hkj hk hdk hX0 hX01 hX04 hp2 (by rw [hX03]; exact hs3) rfl (by omega) hXL hY1 hW hYF
          refine g_V5 hc (r_fork w hR he (row := (3 * 18 + X b 1) * 5) (a := g_pos (X 2) n a + 1) (by omega) (by omega) hb l5 l1 (l2.trans hBm.symm) (l3.trans (by rw [hp])) l4 hus5) my_X13_readItems mv_X13_readItems ca_703 rfl rfl lm_X13_245 rfl (by omega) (Nat.le_of_ble_eq_true rfl) hm dX13_readNode_283 (fun ri ni Iiz Ji Ri hpi => ?_)
          obtain ⟨rfl, rfl, rfl, rfl, ai, Ni, rfl, hai, hfi, hgi, hti⟩ := hpi
          rw [← hY1] at hti ⊢
          have hfr : z_fr N Ni := fun k j hk => (hfi k j (by unfold z_sc at hk; omega)).trans (hfr k j hk)
          have hgN := hgi
          have he : y_env Ni 704 240 0 n Lf := z_env_fr he0 hfr hgN
          have hBm : q_by Ni 704 0 = X 2 := z_by_fr hfr hBx
          have hqi : ∀ (k : Nat) (j : Int), ¬ ((k = 709 ∧ (3 * 18 + X b 1) * 5 ≤ j ∧ j < (3 * 18 + X b 1) * 5 + 5) ∨ (k = 712 ∧ j = 3)) → Ni k j = N k j := fun k j hk => (hfi k j (by omega)).trans (hq5 k j hk)
          refine g_aldn hc dX13_readNode_286 rfl ?_
          refine g_getIe hc lk_X13_134 ca_703 11 rfl (y_M_q) dX13_readNode_287 ?_
          refine g_iconst hc dX13_readNode_290 ?_
          refine g_icmp_eq (tgt := 296) hc dX13_readNode_291 (by decide) (by first | assumption | with_reducible exact z_sg32 hXb | with_reducible exact z_sg32 hXb0 | with_reducible exact g_and32 | with_reducible exact g_or32 | exact ⟨by omega, by omega⟩) (by first | assumption | with_reducible exact z_sg32 hXb | with_reducible exact z_sg32 hXb0 | with_reducible exact g_and32 | with_reducible exact g_or32 | exact ⟨by omega, by omega⟩) (fun c5 => ?_) (fun c5 => ?_)
          · skip
            have hq1 : Y1 1 3 = -1 := c5
            obtain ⟨hai2, hti2⟩ := hti hq1
            have hpi := g_pos_in (B := X 2) (len := n) (a := ai) (by omega)
            obtain ⟨n8, n9⟩ := n7 hq1
            rw [hq1]
            skip
            refine g_aldn hc dX13_readNode_296 rfl ?_
            refine g_V0r hc (z_look w hR he hBm (by omega) (by omega)) my_X13_look mv_X13_look ca_703 rfl rfl lm_X13_144 rfl (by omega) (Nat.le_of_ble_eq_true rfl) hm dX13_readNode_297 ?_
            refine g_bipush hc dX13_readNode_300 (by decide +kernel) ?_
            refine g_icmp_eq (tgt := 312) hc dX13_readNode_302 (by decide) (by first | assumption | with_reducible exact z_sg32 hXb | with_reducible exact z_sg32 hXb0 | with_reducible exact g_and32 | with_reducible exact g_or32 | exact ⟨by omega, by omega⟩) (by first | assumption | with_reducible exact z_sg32 hXb | with_reducible exact z_sg32 hXb0 | with_reducible exact g_and32 | with_reducible exact g_or32 | exact ⟨by omega, by omega⟩) (fun c6 => ?_) (fun c6 => ?_)
            · skip
              have hs4 : g_sgn (X 2) n ai = 40 := c6
              obtain ⟨w1, w2, w3, w4⟩ := n9 (by rw [← hai2]; exact hs4)
              refine g_aldn hc dX13_readNode_312 rfl ?_
              refine g_dup hc dX13_readNode_313 rfl ?_
              refine g_getIe hc lk_X13_125 ca_703 10 rfl (y_M_a) dX13_readNode_314 ?_
              refine g_iconst hc dX13_readNode_317 ?_
              refine g_iadd hc dX13_readNode_318 ?_
              refine g_putIe (I2 := (y_M Ni ((g_pos (X 2) n ai) + 1) (-1) d)) hc lk_X13_125 ca_703 10 rfl y_M_pa dX13_readNode_319 ?_
              refine g_aldn hc dX13_readNode_322 rfl ?_
              refine g_iload hc dX13_readNode_323 rfl ?_
              refine g_iload_n hc dX13_readNode_325 rfl ?_
              have hlt1 : g_pos (X 2) n ai < n := by
                by_cases z : g_pos (X 2) n ai < n
                · exact z
                · unfold g_sgn at hs4; rw [if_neg z] at hs4; omega
              have hvi : ∀ c : Int, c = 3 ∨ c = 4 → Ni 709 ((3 * 18 + X b 1) * 5 + c) = N8 709 ((3 * 18 + X b 1) * 5 + c) := fun c hc => hfi _ _ (by omega)
              obtain ⟨⟨z1, z2, z3⟩, z4, z5, z6⟩ := z_nodeF2 (Ni := Ni) hb (by omega) l5 hZ hE rfl hY1 hq1 n3 hW hqi hti2 (((hvi 3 (by decide)).trans hw3).trans hah) (((hvi 4 (by decide)).trans hw4).trans hbh) ((hfi 712 3 (by omega)).trans h11)
              refine g_V2 hc (c_X13_readBranches w hR he (k := j) (a := g_pos (X 2) n ai + 1) (d := d) hb (by omega) (by omega) (hIH j hkj) ⟨by omega, by omega⟩ n4 ⟨w1, w2.trans hBm.symm, w3.trans (by rw [hai2]), w4⟩ z1 z2 z3 z5 z6) my_X13_readBranches mv_X13_readBranches ca_703 rfl rfl lm_X13_258 rfl (by omega) (Nat.le_of_ble_eq_true rfl) hm dX13_readNode_326 (fun ro no Ioz Jo Ro hpo => ?_)
              obtain ⟨rfl, rfl, rfl, rfl, a3, N3, rfl, ha3, hg3, hf3, ht3⟩ := hpo
              rw [← hYF] at ht3 ⊢
              have hfr : z_fr N N3 := fun k j hk => (hf3 k j hk).trans (hfr k j hk)
              have hgN := hg3
              refine g_bipush hc dX13_readNode_329 (by decide +kernel) ?_
              refine g_iload hc dX13_readNode_331 rfl ?_
              refine g_iadd hc dX13_readNode_333 ?_
              refine g_iret hc hm dX13_readNode_334 ?_
              have hYE : Y = (100 + X b 1, YF) := hYd.trans n1
              have hq9 : Y.2 = YF := by rw [hYE]
              exact ⟨rfl, rfl, rfl, 100 + X b 1, a3, N3, rfl, by rw [hq9], by omega, ⟨by omega, by omega⟩, hgN, hfr, fun z => by
                rw [hq9] at z
                obtain ⟨t1, lm, m, t2, t3, t4⟩ := ht3 z
                refine ⟨by rw [hYE], by rw [hq9]; exact t1, ?_⟩
                rw [hq9]
                exact z_nodeF3 rfl (by omega) z4 t2 t3 t4⟩
            · skip
              have hs4 : ¬ g_sgn (X 2) n ai = 40 := c6
              refine g_aldn hc dX13_readNode_305 rfl ?_
              refine g_V0r hc (d_fails w hR he (by omega) (by omega)) my_X13_fails mv_X13_fails ca_703 rfl rfl lm_X13_140 rfl (by omega) (Nat.le_of_ble_eq_true rfl) hm dX13_readNode_306 ?_
              refine g_pop hc dX13_readNode_309 rfl ?_
              refine g_iconst hc dX13_readNode_310 ?_
              refine g_iret hc hm dX13_readNode_311 ?_
              have hq9 : Y.2 1 3 = g_pos (X 2) n ai := by rw [hYd, n1]; exact (n8 (by rw [← hai2]; exact hs4)).trans (by rw [hai2])
              exact ⟨rfl, rfl, rfl, -1, (g_pos (X 2) n ai), Ni, rfl, by rw [hq9, g_q1, if_pos rfl], by omega, ⟨by omega, by omega⟩, hgN, hfr, fun z => by rw [hq9] at z; omega⟩
          · skip
            have hq1 : ¬ Y1 1 3 = -1 := c5
            refine g_iconst hc dX13_readNode_294 ?_
            refine g_iret hc hm dX13_readNode_295 ?_
            have hq9 : Y.2 1 3 = Y1 1 3 := by rw [hYd, n1]; exact n6 hq1
            exact ⟨rfl, rfl, rfl, -1, ai, Ni, rfl, by rw [hq9], by omega, ⟨by omega, by omega⟩, hgN, hfr, fun z => by rw [hq9] at z; omega⟩
        · exfalso; omega
  · skip
    have hs1 : g_sgn (X 2) n a = 108 := c1
    refine g_aldn hc dX13_readNode_13 rfl ?_
    refine g_getRk hc lk_X13_46 ca_703 (rc_703_21 hR) dX13_readNode_14 ?_
    refine g_iconst hc dX13_readNode_17 ?_
    refine g_ialde hc ca_711 (by decide) (by omega) (by omega) (show (y_M N (g_pos (X 2) n a) (-1) d) 711 3 = X b 0 from (congrFun (y_M_k (by decide)) _).trans (hZ.1.2.2.2.1)) dX13_readNode_18 ?_
    refine g_bipush hc dX13_readNode_19 (by decide +kernel) ?_
    refine g_icmp_ge (tgt := 152) hc dX13_readNode_21 (by decide) (by first | assumption | with_reducible exact z_sg32 hXb | with_reducible exact z_sg32 hXb0 | with_reducible exact g_and32 | with_reducible exact g_or32 | exact ⟨by omega, by omega⟩) (by first | assumption | with_reducible exact z_sg32 hXb | with_reducible exact z_sg32 hXb0 | with_reducible exact g_and32 | with_reducible exact g_or32 | exact ⟨by omega, by omega⟩) (fun c7 => ?_) (fun c7 => ?_)
    · skip
      have hs2 : ¬ X b 0 < 12 := by omega
      refine g_iload hc dX13_readNode_152 rfl ?_
      refine g_bipush hc dX13_readNode_154 (by decide +kernel) ?_
      refine g_icmp_ne (tgt := 176) hc dX13_readNode_156 (by decide) (by first | assumption | with_reducible exact z_sg32 hXb | with_reducible exact z_sg32 hXb0 | with_reducible exact g_and32 | with_reducible exact g_or32 | exact ⟨by omega, by omega⟩) (by first | assumption | with_reducible exact z_sg32 hXb | with_reducible exact z_sg32 hXb0 | with_reducible exact g_and32 | with_reducible exact g_or32 | exact ⟨by omega, by omega⟩) (fun c8 => ?_) (fun c8 => ?_)
      · skip
        have hs3 : ¬ g_sgn (X 2) n a = 102 := c8
        refine g_aldn hc dX13_readNode_176 rfl ?_
        refine g_V0r hc (d_fails w hR he (by omega) (by omega)) my_X13_fails mv_X13_fails ca_703 rfl rfl lm_X13_140 rfl (by omega) (Nat.le_of_ble_eq_true rfl) hm dX13_readNode_177 ?_
        refine g_pop hc dX13_readNode_180 rfl ?_
        refine g_iconst hc dX13_readNode_181 ?_
        refine g_iret hc hm dX13_readNode_182 ?_
        have hq9 : Y.2 1 3 = g_pos (X 2) n a := by rw [hYd, ← hp]; exact z_nodeE hb hdk hX0 hX01 hX04 hp2 (by rw [hX03]; omega) (by rw [hX03]; omega)
        exact ⟨rfl, rfl, rfl, -1, (g_pos (X 2) n a), N, rfl, by rw [hq9, g_q1, if_pos rfl], by omega, ⟨by omega, by omega⟩, hgN, hfr, fun z => by rw [hq9] at z; omega⟩
      · exfalso; omega
    · skip
      have hs2 : X b 0 < 12 := by omega
      refine g_aldn hc dX13_readNode_24 rfl ?_
      refine g_getRk hc lk_X13_46 ca_703 (rc_703_21 hR) dX13_readNode_25 ?_
      refine g_iconst hc dX13_readNode_28 ?_
      refine g_ialde hc ca_711 (by decide) (by omega) (by omega) (show (y_M N (g_pos (X 2) n a) (-1) d) 711 3 = X b 0 from (congrFun (y_M_k (by decide)) _).trans (hZ.1.2.2.2.1)) dX13_readNode_29 ?_
      refine g_istore_5 hc dX13_readNode_30 rfl ?_
      refine g_aldn hc dX13_readNode_32 rfl ?_
      refine g_iconst hc dX13_readNode_33 ?_
      refine g_iload hc dX13_readNode_34 rfl ?_
      refine g_V2r hc (c_X13_leafAt w) my_X13_leafAt mv_X13_leafAt ca_703 rfl rfl lm_X13_235 rfl (by omega) (Nat.le_of_ble_eq_true rfl) hm dX13_readNode_36 ?_
      refine g_istore_6 hc dX13_readNode_39 rfl ?_
      refine g_aldn hc dX13_readNode_41 rfl ?_
      refine g_getRk hc lk_X13_46 ca_703 (rc_703_21 hR) dX13_readNode_42 ?_
      refine g_iconst hc dX13_readNode_45 ?_
      refine g_dup2 hc dX13_readNode_46 rfl rfl ?_
      refine g_ialde hc ca_711 (by decide) (by omega) (by omega) (show (y_M N (g_pos (X 2) n a) (-1) d) 711 3 = X b 0 from (congrFun (y_M_k (by decide)) _).trans (hZ.1.2.2.2.1)) dX13_readNode_47 ?_
      refine g_iconst hc dX13_readNode_48 ?_
      refine g_iadd hc dX13_readNode_49 ?_
      obtain ⟨N9, hN9⟩ : ∃ N9, N9 = g_up N 711 3 ((X b 0) + 1) := ⟨_, rfl⟩
      refine g_iaste (I2 := (y_M N9 (g_pos (X 2) n a) (-1) d)) hc ca_711 (by decide) (by omega) (by omega) ((y_M_p (by omega)).trans (by rw [hN9])) dX13_readNode_50 ?_
      have hfr : z_fr N N9 := fun k j hk => by
        rw [hN9]
        exact (g_up_n (by unfold z_sc at hk; omega)).trans (hfr k j hk)
      have hgN : ∀ k j, g32 (N9 k j) := by rw [hN9]; exact x_up32 hgN (by first | assumption | exact ⟨by omega, by omega⟩)
      have hq5 : ∀ (k : Nat) (j : Int), ¬ ((k = 708 ∧ (3 * 12 + X b 0) * 7 ≤ j ∧ j < (3 * 12 + X b 0) * 7 + 7) ∨ (k = 711 ∧ j = 3)) → N9 k j = N k j := fun k j hk => by rw [hN9]; exact (g_up_n (by omega)).trans (rfl)
      have h11 : N9 711 3 = X b 0 + 1 := by rw [hN9, g_up_s]
      refine g_aldn hc dX13_readNode_51 rfl ?_
      refine g_getRk hc lk_X13_37 ca_703 (rc_703_18 hR) dX13_readNode_52 ?_
      refine g_iload hc dX13_readNode_55 rfl ?_
      refine g_bipush hc dX13_readNode_57 (by decide +kernel) ?_
      obtain ⟨N10, hN10⟩ : ∃ N10, N10 = g_up N9 708 ((3 * 12 + (X b 0)) * 7) 10 := ⟨_, rfl⟩
      refine g_iaste (I2 := (y_M N10 (g_pos (X 2) n a) (-1) d)) hc ca_708 (by decide) (by omega) (by omega) ((y_M_p (by omega)).trans (by rw [hN10])) dX13_readNode_59 ?_
      have hfr : z_fr N N10 := fun k j hk => by
        rw [hN10]
        exact (g_up_n (by unfold z_sc at hk; omega)).trans (hfr k j hk)
      have hgN : ∀ k j, g32 (N10 k j) := by rw [hN10]; exact x_up32 hgN (by first | assumption | exact ⟨by omega, by omega⟩)
      have hq5 : ∀ (k : Nat) (j : Int), ¬ ((k = 708 ∧ (3 * 12 + X b 0) * 7 ≤ j ∧ j < (3 * 12 + X b 0) * 7 + 7) ∨ (k = 711 ∧ j = 3)) → N10 k j = N k j := fun k j hk => by rw [hN10]; exact (g_up_n (by omega)).trans (hq5 k j hk)
      have h11 : N10 711 3 = X b 0 + 1 := by rw [hN10, g_up_k (by decide)]; exact h11
      have hw0 : N10 708 ((3 * 12 + X b 0) * 7 + 0) = 10 := by rw [hN10, Int.add_zero, g_up_s]
      refine g_aldn hc dX13_readNode_60 rfl ?_
      refine g_getRk hc lk_X13_37 ca_703 (rc_703_18 hR) dX13_readNode_61 ?_
      refine g_iload hc dX13_readNode_64 rfl ?_
      refine g_iconst hc dX13_readNode_66 ?_
      refine g_iadd hc dX13_readNode_67 ?_
      refine g_bipush hc dX13_readNode_68 (by decide +kernel) ?_
      obtain ⟨N11, hN11⟩ : ∃ N11, N11 = g_up N10 708 (((3 * 12 + (X b 0)) * 7) + 1) 50 := ⟨_, rfl⟩
      refine g_iaste (I2 := (y_M N11 (g_pos (X 2) n a) (-1) d)) hc ca_708 (by decide) (by omega) (by omega) ((y_M_p (by omega)).trans (by rw [hN11])) dX13_readNode_70 ?_
      have hfr : z_fr N N11 := fun k j hk => by
        rw [hN11]
        exact (g_up_n (by unfold z_sc at hk; omega)).trans (hfr k j hk)
      have hgN : ∀ k j, g32 (N11 k j) := by rw [hN11]; exact x_up32 hgN (by first | assumption | exact ⟨by omega, by omega⟩)
      have hq5 : ∀ (k : Nat) (j : Int), ¬ ((k = 708 ∧ (3 * 12 + X b 0) * 7 ≤ j ∧ j < (3 * 12 + X b 0) * 7 + 7) ∨ (k = 711 ∧ j = 3)) → N11 k j = N k j := fun k j hk => by rw [hN11]; exact (g_up_n (by omega)).trans (hq5 k j hk)
      have h11 : N11 711 3 = X b 0 + 1 := by rw [hN11, g_up_k (by decide)]; exact h11
      have hw0 : N11 708 ((3 * 12 + X b 0) * 7 + 0) = 10 := by rw [hN11, g_up_i (by omega)]; exact hw0
      have hw1 : N11 708 ((3 * 12 + X b 0) * 7 + 1) = 50 := by rw [hN11, g_up_s]
      refine g_aldn hc dX13_readNode_71 rfl ?_
      refine g_getRk hc lk_X13_37 ca_703 (rc_703_18 hR) dX13_readNode_72 ?_
      refine g_iload hc dX13_readNode_75 rfl ?_
      refine g_iconst hc dX13_readNode_77 ?_
      refine g_iadd hc dX13_readNode_78 ?_
      refine g_bipush hc dX13_readNode_79 (by decide +kernel) ?_
      obtain ⟨N12, hN12⟩ : ∃ N12, N12 = g_up N11 708 (((3 * 12 + (X b 0)) * 7) + 2) 40 := ⟨_, rfl⟩
      refine g_iaste (I2 := (y_M N12 (g_pos (X 2) n a) (-1) d)) hc ca_708 (by decide) (by omega) (by omega) ((y_M_p (by omega)).trans (by rw [hN12])) dX13_readNode_81 ?_
      have hfr : z_fr N N12 := fun k j hk => by
        rw [hN12]
        exact (g_up_n (by unfold z_sc at hk; omega)).trans (hfr k j hk)
      have hgN : ∀ k j, g32 (N12 k j) := by rw [hN12]; exact x_up32 hgN (by first | assumption | exact ⟨by omega, by omega⟩)
      have hq5 : ∀ (k : Nat) (j : Int), ¬ ((k = 708 ∧ (3 * 12 + X b 0) * 7 ≤ j ∧ j < (3 * 12 + X b 0) * 7 + 7) ∨ (k = 711 ∧ j = 3)) → N12 k j = N k j := fun k j hk => by rw [hN12]; exact (g_up_n (by omega)).trans (hq5 k j hk)
      have h11 : N12 711 3 = X b 0 + 1 := by rw [hN12, g_up_k (by decide)]; exact h11
      have hw0 : N12 708 ((3 * 12 + X b 0) * 7 + 0) = 10 := by rw [hN12, g_up_i (by omega)]; exact hw0
      have hw1 : N12 708 ((3 * 12 + X b 0) * 7 + 1) = 50 := by rw [hN12, g_up_i (by omega)]; exact hw1
      have hw2 : N12 708 ((3 * 12 + X b 0) * 7 + 2) = 40 := by rw [hN12, g_up_s]
      refine g_aldn hc dX13_readNode_82 rfl ?_
      refine g_getRk hc lk_X13_37 ca_703 (rc_703_18 hR) dX13_readNode_83 ?_
      refine g_iload hc dX13_readNode_86 rfl ?_
      refine g_iconst hc dX13_readNode_88 ?_
      refine g_iadd hc dX13_readNode_89 ?_
      refine g_iconst hc dX13_readNode_90 ?_
      obtain ⟨N13, hN13⟩ : ∃ N13, N13 = g_up N12 708 (((3 * 12 + (X b 0)) * 7) + 3) 0 := ⟨_, rfl⟩
      refine g_iaste (I2 := (y_M N13 (g_pos (X 2) n a) (-1) d)) hc ca_708 (by decide) (by omega) (by omega) ((y_M_p (by omega)).trans (by rw [hN13])) dX13_readNode_91 ?_
      have hfr : z_fr N N13 := fun k j hk => by
        rw [hN13]
        exact (g_up_n (by unfold z_sc at hk; omega)).trans (hfr k j hk)
      have hgN : ∀ k j, g32 (N13 k j) := by rw [hN13]; exact x_up32 hgN (by first | assumption | exact ⟨by omega, by omega⟩)
      have hq5 : ∀ (k : Nat) (j : Int), ¬ ((k = 708 ∧ (3 * 12 + X b 0) * 7 ≤ j ∧ j < (3 * 12 + X b 0) * 7 + 7) ∨ (k = 711 ∧ j = 3)) → N13 k j = N k j := fun k j hk => by rw [hN13]; exact (g_up_n (by omega)).trans (hq5 k j hk)
      have h11 : N13 711 3 = X b 0 + 1 := by rw [hN13, g_up_k (by decide)]; exact h11
      have hw0 : N13 708 ((3 * 12 + X b 0) * 7 + 0) = 10 := by rw [hN13, g_up_i (by omega)]; exact hw0
      have hw1 : N13 708 ((3 * 12 + X b 0) * 7 + 1) = 50 := by rw [hN13, g_up_i (by omega)]; exact hw1
      have hw2 : N13 708 ((3 * 12 + X b 0) * 7 + 2) = 40 := by rw [hN13, g_up_i (by omega)]; exact hw2
      have hw3 : N13 708 ((3 * 12 + X b 0) * 7 + 3) = 0 := by rw [hN13, g_up_s]
      refine g_aldn hc dX13_readNode_92 rfl ?_
      refine g_getRk hc lk_X13_37 ca_703 (rc_703_18 hR) dX13_readNode_93 ?_
      refine g_iload hc dX13_readNode_96 rfl ?_
      refine g_iconst hc dX13_readNode_98 ?_
      refine g_iadd hc dX13_readNode_99 ?_
      refine g_iconst hc dX13_readNode_100 ?_
      obtain ⟨N14, hN14⟩ : ∃ N14, N14 = g_up N13 708 (((3 * 12 + (X b 0)) * 7) + 4) 5 := ⟨_, rfl⟩
      refine g_iaste (I2 := (y_M N14 (g_pos (X 2) n a) (-1) d)) hc ca_708 (by decide) (by omega) (by omega) ((y_M_p (by omega)).trans (by rw [hN14])) dX13_readNode_101 ?_
      have hfr : z_fr N N14 := fun k j hk => by
        rw [hN14]
        exact (g_up_n (by unfold z_sc at hk; omega)).trans (hfr k j hk)
      have hgN : ∀ k j, g32 (N14 k j) := by rw [hN14]; exact x_up32 hgN (by first | assumption | exact ⟨by omega, by omega⟩)
      have hq5 : ∀ (k : Nat) (j : Int), ¬ ((k = 708 ∧ (3 * 12 + X b 0) * 7 ≤ j ∧ j < (3 * 12 + X b 0) * 7 + 7) ∨ (k = 711 ∧ j = 3)) → N14 k j = N k j := fun k j hk => by rw [hN14]; exact (g_up_n (by omega)).trans (hq5 k j hk)
      have h11 : N14 711 3 = X b 0 + 1 := by rw [hN14, g_up_k (by decide)]; exact h11
      have hw0 : N14 708 ((3 * 12 + X b 0) * 7 + 0) = 10 := by rw [hN14, g_up_i (by omega)]; exact hw0
      have hw1 : N14 708 ((3 * 12 + X b 0) * 7 + 1) = 50 := by rw [hN14, g_up_i (by omega)]; exact hw1
      have hw2 : N14 708 ((3 * 12 + X b 0) * 7 + 2) = 40 := by rw [hN14, g_up_i (by omega)]; exact hw2
      have hw3 : N14 708 ((3 * 12 + X b 0) * 7 + 3) = 0 := by rw [hN14, g_up_i (by omega)]; exact hw3
      have hw4 : N14 708 ((3 * 12 + X b 0) * 7 + 4) = 5 := by rw [hN14, g_up_s]
      refine g_aldn hc dX13_readNode_102 rfl ?_
      refine g_getRk hc lk_X13_37 ca_703 (rc_703_18 hR) dX13_readNode_103 ?_
      refine g_iload hc dX13_readNode_106 rfl ?_
      refine g_iconst hc dX13_readNode_108 ?_
      refine g_iadd hc dX13_readNode_109 ?_
      refine g_iload_n hc dX13_readNode_110 rfl ?_
      obtain ⟨N15, hN15⟩ : ∃ N15, N15 = g_up N14 708 (((3 * 12 + (X b 0)) * 7) + 5) ah := ⟨_, rfl⟩
      refine g_iaste (I2 := (y_M N15 (g_pos (X 2) n a) (-1) d)) hc ca_708 (by decide) (by omega) (by omega) ((y_M_p (by omega)).trans (by rw [hN15])) dX13_readNode_111 ?_
      have hfr : z_fr N N15 := fun k j hk => by
        rw [hN15]
        exact (g_up_n (by unfold z_sc at hk; omega)).trans (hfr k j hk)
      have hgN : ∀ k j, g32 (N15 k j) := by rw [hN15]; exact x_up32 hgN (by first | assumption | exact ⟨by omega, by omega⟩)
      have hq5 : ∀ (k : Nat) (j : Int), ¬ ((k = 708 ∧ (3 * 12 + X b 0) * 7 ≤ j ∧ j < (3 * 12 + X b 0) * 7 + 7) ∨ (k = 711 ∧ j = 3)) → N15 k j = N k j := fun k j hk => by rw [hN15]; exact (g_up_n (by omega)).trans (hq5 k j hk)
      have h11 : N15 711 3 = X b 0 + 1 := by rw [hN15, g_up_k (by decide)]; exact h11
      have hw0 : N15 708 ((3 * 12 + X b 0) * 7 + 0) = 10 := by rw [hN15, g_up_i (by omega)]; exact hw0
      have hw1 : N15 708 ((3 * 12 + X b 0) * 7 + 1) = 50 := by rw [hN15, g_up_i (by omega)]; exact hw1
      have hw2 : N15 708 ((3 * 12 + X b 0) * 7 + 2) = 40 := by rw [hN15, g_up_i (by omega)]; exact hw2
      have hw3 : N15 708 ((3 * 12 + X b 0) * 7 + 3) = 0 := by rw [hN15, g_up_i (by omega)]; exact hw3
      have hw4 : N15 708 ((3 * 12 + X b 0) * 7 + 4) = 5 := by rw [hN15, g_up_i (by omega)]; exact hw4
      have hw5 : N15 708 ((3 * 12 + X b 0) * 7 + 5) = ah := by rw [hN15, g_up_s]
      refine g_aldn hc dX13_readNode_112 rfl ?_
      refine g_getRk hc lk_X13_37 ca_703 (rc_703_18 hR) dX13_readNode_113 ?_
      refine g_iload hc dX13_readNode_116 rfl ?_
      refine g_bipush hc dX13_readNode_118 (by decide +kernel) ?_
      refine g_iadd hc dX13_readNode_120 ?_
      refine g_iload_n hc dX13_readNode_121 rfl ?_
      obtain ⟨N16, hN16⟩ : ∃ N16, N16 = g_up N15 708 (((3 * 12 + (X b 0)) * 7) + 6) bh := ⟨_, rfl⟩
      refine g_iaste (I2 := (y_M N16 (g_pos (X 2) n a) (-1) d)) hc ca_708 (by decide) (by omega) (by omega) ((y_M_p (by omega)).trans (by rw [hN16])) dX13_readNode_122 ?_
      have hfr : z_fr N N16 := fun k j hk => by
        rw [hN16]
        exact (g_up_n (by unfold z_sc at hk; omega)).trans (hfr k j hk)
      have hgN : ∀ k j, g32 (N16 k j) := by rw [hN16]; exact x_up32 hgN (by first | assumption | exact ⟨by omega, by omega⟩)
      have hq5 : ∀ (k : Nat) (j : Int), ¬ ((k = 708 ∧ (3 * 12 + X b 0) * 7 ≤ j ∧ j < (3 * 12 + X b 0) * 7 + 7) ∨ (k = 711 ∧ j = 3)) → N16 k j = N k j := fun k j hk => by rw [hN16]; exact (g_up_n (by omega)).trans (hq5 k j hk)
      have h11 : N16 711 3 = X b 0 + 1 := by rw [hN16, g_up_k (by decide)]; exact h11
      have hw0 : N16 708 ((3 * 12 + X b 0) * 7 + 0) = 10 := by rw [hN16, g_up_i (by omega)]; exact hw0
      have hw1 : N16 708 ((3 * 12 + X b 0) * 7 + 1) = 50 := by rw [hN16, g_up_i (by omega)]; exact hw1
      have hw2 : N16 708 ((3 * 12 + X b 0) * 7 + 2) = 40 := by rw [hN16, g_up_i (by omega)]; exact hw2
      have hw3 : N16 708 ((3 * 12 + X b 0) * 7 + 3) = 0 := by rw [hN16, g_up_i (by omega)]; exact hw3
      have hw4 : N16 708 ((3 * 12 + X b 0) * 7 + 4) = 5 := by rw [hN16, g_up_i (by omega)]; exact hw4
      have hw5 : N16 708 ((3 * 12 + X b 0) * 7 + 5) = ah := by rw [hN16, g_up_i (by omega)]; exact hw5
      have hw6 : N16 708 ((3 * 12 + X b 0) * 7 + 6) = bh := by rw [hN16, g_up_s]
      have he : y_env N16 704 240 0 n Lf := z_env_fr he0 hfr hgN
      have hBm : q_by N16 704 0 = X 2 := z_by_fr hfr hBx
      have hus5 : ∀ j : Int, 0 ≤ j → j < 5 → N16 708 ((3 * 12 + X b 0) * 7 + j) = g_st 2 j := fun j j0 j1 => by
        obtain ⟨⟨y0, y1, y2, y3, y4⟩, -, -, ⟨-, -, -, -, -, -⟩, -⟩ := z_rng0
        have : j = 0 ∨ j = 1 ∨ j = 2 ∨ j = 3 ∨ j = 4 := by omega
        rcases this with rfl | rfl | rfl | rfl | rfl
        · rw [y0]; exact hw0
        · rw [y1]; exact hw1
        · rw [y2]; exact hw2
        · rw [y3]; exact hw3
        · rw [y4]; exact hw4
      refine g_aldn hc dX13_readNode_123 rfl ?_
      refine g_dup hc dX13_readNode_124 rfl ?_
      refine g_getIe hc lk_X13_125 ca_703 10 rfl (y_M_a) dX13_readNode_125 ?_
      refine g_iconst hc dX13_readNode_128 ?_
      refine g_iadd hc dX13_readNode_129 ?_
      refine g_putIe (I2 := (y_M N16 ((g_pos (X 2) n a) + 1) (-1) d)) hc lk_X13_125 ca_703 10 rfl y_M_pa dX13_readNode_130 ?_
      refine g_aldn hc dX13_readNode_133 rfl ?_
      refine g_aldn hc dX13_readNode_134 rfl ?_
      refine g_getRk hc lk_X13_37 ca_703 (rc_703_18 hR) dX13_readNode_135 ?_
      refine g_iload hc dX13_readNode_138 rfl ?_
      refine g_ldcS (i := 0) (tx := "gjydt") hc (by decide) dX13_readNode_140 ?_
      refine g_ldcS (i := 5) (tx := "00100") hc (by decide) dX13_readNode_142 ?_
      refine g_ldcS (i := 6) (tx := "hhh19") hc (by decide) dX13_readNode_144 ?_
      obtain ⟨XL, hXL⟩ : ∃ XL, XL = m_adv (m_sk X) := ⟨_, rfl⟩
      obtain ⟨Y1, hY1⟩ : ∃ Y1, Y1 = m_items 540 5 0 0 1 2 XL := ⟨_, rfl⟩
      obtain ⟨⟨l1, l2, l3, l4⟩, l5, l6, -⟩ := z_nodeX hb hX0 hX01 hX04 hp2 (by rw [hX03]; omega) hXL
      obtain ⟨n1, n2, n3, n4⟩ := z_nodeL hb hdk hX0 hX01 hX04 hp2 (by rw [hX03]; exact hs1) rfl hs2 hXL hY1
      refine g_V5 hc (r_leaf w hR he (row := (3 * 12 + X b 0) * 7) (a := g_pos (X 2) n a + 1) (by omega) (by omega) hb l5 l1 (l2.trans hBm.symm) (l3.trans (by rw [hp])) l4 hus5) my_X13_readItems mv_X13_readItems ca_703 rfl rfl lm_X13_245 rfl (by omega) (Nat.le_of_ble_eq_true rfl) hm dX13_readNode_146 (fun ri ni Iiz Ji Ri hpi => ?_)
      obtain ⟨rfl, rfl, rfl, rfl, ai, Ni, rfl, hai, hfi, hgi, hti⟩ := hpi
      rw [← hY1] at hti ⊢
      have hfr : z_fr N Ni := fun k j hk => (hfi k j (by unfold z_sc at hk; omega)).trans (hfr k j hk)
      have hgN := hgi
      have hqi : ∀ (k : Nat) (j : Int), ¬ ((k = 708 ∧ (3 * 12 + X b 0) * 7 ≤ j ∧ j < (3 * 12 + X b 0) * 7 + 7) ∨ (k = 711 ∧ j = 3)) → Ni k j = N k j := fun k j hk => (hfi k j (by omega)).trans (hq5 k j hk)
      refine g_iload hc dX13_readNode_149 rfl ?_
      refine g_iret hc hm dX13_readNode_151 ?_
      have hYE : Y = (X b 0, m_lf2 b dep (X b 0) Y1) := hYd.trans n1
      have hq9 : Y.2 1 = Y1 1 := by rw [hYE]; exact n2
      exact ⟨rfl, rfl, rfl, X b 0, ai, Ni, rfl, by rw [hq9], by omega, ⟨by omega, by omega⟩, hgN, hfr, fun z => by
        rw [hq9] at z
        obtain ⟨hai2, hti2⟩ := hti z
        refine ⟨by rw [hYE], by rw [hq9]; exact hai2, ?_⟩
        rw [hYE]
        exact z_nodeL2 hb hX0 l5 hZ hE rfl hs2 hY1 z n4 hqi hti2 (((hfi _ _ (by omega)).trans hw5).trans hah) (((hfi _ _ (by omega)).trans hw6).trans hbh) ((hfi 711 3 (by omega)).trans h11)⟩
/-- every node that a LIFE may hold -/
theorem r_node (w : g_W) {b : Nat} (hb : g_life b) : ∀ k : Nat, k ≤ 6 → C_zn w b k
  | 0, hk => fun hR he ha hX hs hdk h1 h2 hZ hE => c_X13_readNode w hR he hb hk hdk (fun j hj => by omega) ha hX hs h1 h2 hZ hE
  | k + 1, hk => fun hR he ha hX hs hdk h1 h2 hZ hE => c_X13_readNode w hR he hb hk hdk (fun j hj => by
      obtain rfl : k = j := by omega
      exact r_node w hb k (by omega)) ha hX hs h1 h2 hZ hE
