set_option maxHeartbeats 4000000 in
set_option maxRecDepth 100000 in
/-- X13_readBranches -/
theorem c_X13_readBranches (w : g_W) {J : g_J} {R : g_R} {lb : Nat} (hR : g_rf w R lb 704) {N : g_I} {n : Int} {Lf : Int → Int} (he : y_env N 704 240 0 n Lf) {b k : Nat} {dep f a d : Int} {X : g_I} {lv : Int → Int} (hb : g_life b) (hk : k < 6) (hdk : dep = 5 - (k : Int)) (hZN : C_zn w b k) (ha0 : 0 ≤ a ∧ a ≤ n) (hX0 : l_ok b X) (hXs0 : X 1 1 = n ∧ X 2 = q_by N 704 0 ∧ X 1 2 = a ∧ X 1 3 = -1) (hZ0 : z_Z X b N dep f 0 lv) (hbg : z_bg X b dep f lv) (hF0 : z_F X b dep f) (hA0 : N 709 ((3 * 18 + f) * 5 + 3) = if dep = 0 then -1 else X 545 (dep - 1)) (hB0 : N 709 ((3 * 18 + f) * 5 + 4) = if dep = 0 then -1 else X 546 (dep - 1)) : g_Met w g_n (y_M N a (-1) d) J R yX13_readBranches cX13_readBranches 6 none (7 + 2 * k) 0 0 [(gvr w 703), (gvI f), (gvI dep)] (z_rb n d X b N J R dep f lv (m_frl (m_node b k) b dep f 4 0 X)) := by
  refine g_intro (own := RX13) [some (gvr w 703), some (gvI f), some (gvI dep), none, none, none] (by decide +kernel) rfl (by decide) (Nat.le_of_ble_eq_true rfl) rfl (fun i v hv => g_args 3 i v hv rfl) (fun x hc hm => ?_)
  have hXb0 := hX0.2.2.2.2.1
  have he0 := he
  have he5 := he.2.2.1
  have hgN0 := he.2.2.2.2.1
  obtain ⟨hX01, hX02, hX03, hX04⟩ := hXs0
  have hBx : q_by N 704 0 = X 2 := hX02.symm
  refine g_iconst hc dX13_readBranches_0 ?_
  refine g_istore_3 hc dX13_readBranches_1 rfl ?_
  refine g_iconst hc dX13_readBranches_2 ?_
  refine g_istore_4 hc dX13_readBranches_3 rfl ?_
  have lp_5 : ∀ (fu : Nat) (m am : Int) (Xm Nm : g_I) (lm : Int → Int), (m_frl (m_node b k) b dep f 4 0 X) = m_frl (m_node b k) b dep f (4 - m).toNat m Xm → (0 ≤ m ∧ m < 4) → z_lp X Xm b Nm n dep f m lv lm → am = Xm 1 2 → z_fr N Nm → (∀ k j, g32 (Nm k j)) → 4 - m < (fu : Int) → G w x (z_rb n d X b N J R dep f lv (m_frl (m_node b k) b dep f 4 0 X)) 0 0 g_n (y_M Nm am (-1) d) J R 5 [some (gvr w 703), some (gvI f), some (gvI dep), some (gvI 1), some (gvI m), none] [] := by
    intro fu
    induction fu with
    | zero => intro m am Xm Nm lm hit hm4 hlp ham hfr hgN hfu; exfalso; omega
    | succ fu ih =>
      intro m am Xm Nm lm hit hm4 hlp ham hfr hgN hfu
      obtain ⟨Y, hYd⟩ : ∃ Y, Y = (m_frl (m_node b k) b dep f 4 0 X) := ⟨_, rfl⟩
      rw [← hYd] at hit ih ⊢
      obtain ⟨k2, hk2⟩ : ∃ k2 : Nat, (k2 : Int) = 3 - m := ⟨(3 - m).toNat, by omega⟩
      rw [show (4 - m).toNat = k2 + 1 by omega] at hit
      obtain ⟨P, hP⟩ : ∃ P, P = m_path b dep f m Xm := ⟨_, rfl⟩
      obtain ⟨Y1, hY1⟩ : ∃ Y1, Y1 = m_items 544 5 2 6 7 8 P := ⟨_, rfl⟩
      obtain ⟨⟨p1, p2, p3, p4, p5⟩, hyq, hgo1, hgo⟩ := z_go hb hk hdk hm4 hbg hlp hk2 hP hY1 hit
      have hXa := hlp.1.2.1
      have hX1 := hlp.2.1.1
      have hdd := hlp.2.2.1.1.2.2.1
      have hf18 : 0 ≤ f ∧ f < 18 := by have := hbg.1; have := hlp.2.2.1.1.2.1; have := hlp.2.2.2.2.2.2.2.2.1; omega
      have ha : 0 ≤ am ∧ am ≤ n := by omega
      have he : y_env Nm 704 240 0 n Lf := z_env_fr he0 hfr hgN
      have hBm : q_by Nm 704 0 = X 2 := z_by_fr hfr hBx
      have ih_5 := ih
      refine g_iload_n hc dX13_readBranches_5 rfl ?_
      refine g_if_eq (tgt := 199) hc dX13_readBranches_6 (by decide) (show g32 _ from ⟨by decide, by decide⟩) (fun c1 => ?_) (fun c1 => ?_)
      · exfalso; omega
      · skip
        refine g_aldn hc dX13_readBranches_9 rfl ?_
        refine g_iconst hc dX13_readBranches_10 ?_
        refine g_iload_n hc dX13_readBranches_11 rfl ?_
        refine g_iload hc dX13_readBranches_12 rfl ?_
        refine g_V3r hc (c_X13_branchAt w) my_X13_branchAt mv_X13_branchAt ca_703 rfl rfl lm_X13_262 rfl (by omega) (Nat.le_of_ble_eq_true rfl) hm dX13_readBranches_14 ?_
        refine g_istore_5 hc dX13_readBranches_17 rfl ?_
        refine g_aldn hc dX13_readBranches_19 rfl ?_
        refine g_getRk hc lk_X13_43 ca_703 (rc_703_20 hR) dX13_readBranches_20 ?_
        refine g_iload hc dX13_readBranches_23 rfl ?_
        refine g_iconst hc dX13_readBranches_25 ?_
        obtain ⟨N3, hN3⟩ : ∃ N3, N3 = g_up Nm 710 (((3 * 18 + f) * 4 + m) * 6) 1 := ⟨_, rfl⟩
        refine g_iaste (I2 := (y_M N3 am (-1) d)) hc ca_710 (by decide) (by omega) (by omega) ((y_M_p (by omega)).trans (by rw [hN3])) dX13_readBranches_26 ?_
        have hfr : z_fr N N3 := fun k j hk => by
          rw [hN3]
          exact (g_up_n (by unfold z_sc at hk; omega)).trans (hfr k j hk)
        have hgN : ∀ k j, g32 (N3 k j) := by rw [hN3]; exact x_up32 hgN (by first | assumption | exact ⟨by omega, by omega⟩)
        have hq5 : ∀ (k : Nat) (j : Int), ¬ (k = 710 ∧ ((3 * 18 + f) * 4 + m) * 6 ≤ j ∧ j < ((3 * 18 + f) * 4 + m) * 6 + 5) → N3 k j = Nm k j := fun k j hk => by rw [hN3]; exact (g_up_n (by omega)).trans (rfl)
        have hw0 : N3 710 (((3 * 18 + f) * 4 + m) * 6 + 0) = 1 := by rw [hN3, Int.add_zero, g_up_s]
        refine g_aldn hc dX13_readBranches_27 rfl ?_
        refine g_getRk hc lk_X13_43 ca_703 (rc_703_20 hR) dX13_readBranches_28 ?_
        refine g_iload hc dX13_readBranches_31 rfl ?_
        refine g_iconst hc dX13_readBranches_33 ?_
        refine g_iadd hc dX13_readBranches_34 ?_
        refine g_iconst hc dX13_readBranches_35 ?_
        obtain ⟨N4, hN4⟩ : ∃ N4, N4 = g_up N3 710 ((((3 * 18 + f) * 4 + m) * 6) + 1) 0 := ⟨_, rfl⟩
        refine g_iaste (I2 := (y_M N4 am (-1) d)) hc ca_710 (by decide) (by omega) (by omega) ((y_M_p (by omega)).trans (by rw [hN4])) dX13_readBranches_36 ?_
        have hfr : z_fr N N4 := fun k j hk => by
          rw [hN4]
          exact (g_up_n (by unfold z_sc at hk; omega)).trans (hfr k j hk)
        have hgN : ∀ k j, g32 (N4 k j) := by rw [hN4]; exact x_up32 hgN (by first | assumption | exact ⟨by omega, by omega⟩)
        have hq5 : ∀ (k : Nat) (j : Int), ¬ (k = 710 ∧ ((3 * 18 + f) * 4 + m) * 6 ≤ j ∧ j < ((3 * 18 + f) * 4 + m) * 6 + 5) → N4 k j = Nm k j := fun k j hk => by rw [hN4]; exact (g_up_n (by omega)).trans (hq5 k j hk)
        have hw0 : N4 710 (((3 * 18 + f) * 4 + m) * 6 + 0) = 1 := by rw [hN4, g_up_i (by omega)]; exact hw0
        have hw1 : N4 710 (((3 * 18 + f) * 4 + m) * 6 + 1) = 0 := by rw [hN4, g_up_s]
        refine g_aldn hc dX13_readBranches_37 rfl ?_
        refine g_getRk hc lk_X13_43 ca_703 (rc_703_20 hR) dX13_readBranches_38 ?_
        refine g_iload hc dX13_readBranches_41 rfl ?_
        refine g_iconst hc dX13_readBranches_43 ?_
        refine g_iadd hc dX13_readBranches_44 ?_
        refine g_iconst hc dX13_readBranches_45 ?_
        obtain ⟨N5, hN5⟩ : ∃ N5, N5 = g_up N4 710 ((((3 * 18 + f) * 4 + m) * 6) + 2) 0 := ⟨_, rfl⟩
        refine g_iaste (I2 := (y_M N5 am (-1) d)) hc ca_710 (by decide) (by omega) (by omega) ((y_M_p (by omega)).trans (by rw [hN5])) dX13_readBranches_46 ?_
        have hfr : z_fr N N5 := fun k j hk => by
          rw [hN5]
          exact (g_up_n (by unfold z_sc at hk; omega)).trans (hfr k j hk)
        have hgN : ∀ k j, g32 (N5 k j) := by rw [hN5]; exact x_up32 hgN (by first | assumption | exact ⟨by omega, by omega⟩)
        have hq5 : ∀ (k : Nat) (j : Int), ¬ (k = 710 ∧ ((3 * 18 + f) * 4 + m) * 6 ≤ j ∧ j < ((3 * 18 + f) * 4 + m) * 6 + 5) → N5 k j = Nm k j := fun k j hk => by rw [hN5]; exact (g_up_n (by omega)).trans (hq5 k j hk)
        have hw0 : N5 710 (((3 * 18 + f) * 4 + m) * 6 + 0) = 1 := by rw [hN5, g_up_i (by omega)]; exact hw0
        have hw1 : N5 710 (((3 * 18 + f) * 4 + m) * 6 + 1) = 0 := by rw [hN5, g_up_i (by omega)]; exact hw1
        have hw2 : N5 710 (((3 * 18 + f) * 4 + m) * 6 + 2) = 0 := by rw [hN5, g_up_s]
        refine g_aldn hc dX13_readBranches_47 rfl ?_
        refine g_getRk hc lk_X13_43 ca_703 (rc_703_20 hR) dX13_readBranches_48 ?_
        refine g_iload hc dX13_readBranches_51 rfl ?_
        refine g_iconst hc dX13_readBranches_53 ?_
        refine g_iadd hc dX13_readBranches_54 ?_
        refine g_iconst hc dX13_readBranches_55 ?_
        obtain ⟨N6, hN6⟩ : ∃ N6, N6 = g_up N5 710 ((((3 * 18 + f) * 4 + m) * 6) + 3) 0 := ⟨_, rfl⟩
        refine g_iaste (I2 := (y_M N6 am (-1) d)) hc ca_710 (by decide) (by omega) (by omega) ((y_M_p (by omega)).trans (by rw [hN6])) dX13_readBranches_56 ?_
        have hfr : z_fr N N6 := fun k j hk => by
          rw [hN6]
          exact (g_up_n (by unfold z_sc at hk; omega)).trans (hfr k j hk)
        have hgN : ∀ k j, g32 (N6 k j) := by rw [hN6]; exact x_up32 hgN (by first | assumption | exact ⟨by omega, by omega⟩)
        have hq5 : ∀ (k : Nat) (j : Int), ¬ (k = 710 ∧ ((3 * 18 + f) * 4 + m) * 6 ≤ j ∧ j < ((3 * 18 + f) * 4 + m) * 6 + 5) → N6 k j = Nm k j := fun k j hk => by rw [hN6]; exact (g_up_n (by omega)).trans (hq5 k j hk)
        have hw0 : N6 710 (((3 * 18 + f) * 4 + m) * 6 + 0) = 1 := by rw [hN6, g_up_i (by omega)]; exact hw0
        have hw1 : N6 710 (((3 * 18 + f) * 4 + m) * 6 + 1) = 0 := by rw [hN6, g_up_i (by omega)]; exact hw1
        have hw2 : N6 710 (((3 * 18 + f) * 4 + m) * 6 + 2) = 0 := by rw [hN6, g_up_i (by omega)]; exact hw2
        have hw3 : N6 710 (((3 * 18 + f) * 4 + m) * 6 + 3) = 0 := by rw [hN6, g_up_s]
        refine g_aldn hc dX13_readBranches_57 rfl ?_
        refine g_getRk hc lk_X13_43 ca_703 (rc_703_20 hR) dX13_readBranches_58 ?_
        refine g_iload hc dX13_readBranches_61 rfl ?_
        refine g_iconst hc dX13_readBranches_63 ?_
        refine g_iadd hc dX13_readBranches_64 ?_
        refine g_iconst hc dX13_readBranches_65 ?_
        obtain ⟨N7, hN7⟩ : ∃ N7, N7 = g_up N6 710 ((((3 * 18 + f) * 4 + m) * 6) + 4) (-1) := ⟨_, rfl⟩
        refine g_iaste (I2 := (y_M N7 am (-1) d)) hc ca_710 (by decide) (by omega) (by omega) ((y_M_p (by omega)).trans (by rw [hN7])) dX13_readBranches_66 ?_
        have hfr : z_fr N N7 := fun k j hk => by
          rw [hN7]
          exact (g_up_n (by unfold z_sc at hk; omega)).trans (hfr k j hk)
        have hgN : ∀ k j, g32 (N7 k j) := by rw [hN7]; exact x_up32 hgN (by first | assumption | exact ⟨by omega, by omega⟩)
        have hq5 : ∀ (k : Nat) (j : Int), ¬ (k = 710 ∧ ((3 * 18 + f) * 4 + m) * 6 ≤ j ∧ j < ((3 * 18 + f) * 4 + m) * 6 + 5) → N7 k j = Nm k j := fun k j hk => by rw [hN7]; exact (g_up_n (by omega)).trans (hq5 k j hk)
        have hw0 : N7 710 (((3 * 18 + f) * 4 + m) * 6 + 0) = 1 := by rw [hN7, g_up_i (by omega)]; exact hw0
        have hw1 : N7 710 (((3 * 18 + f) * 4 + m) * 6 + 1) = 0 := by rw [hN7, g_up_i (by omega)]; exact hw1
        have hw2 : N7 710 (((3 * 18 + f) * 4 + m) * 6 + 2) = 0 := by rw [hN7, g_up_i (by omega)]; exact hw2
        have hw3 : N7 710 (((3 * 18 + f) * 4 + m) * 6 + 3) = 0 := by rw [hN7, g_up_i (by omega)]; exact hw3
        have hw4 : N7 710 (((3 * 18 + f) * 4 + m) * 6 + 4) = -1 := by rw [hN7, g_up_s]
        have he : y_env N7 704 240 0 n Lf := z_env_fr he0 hfr hgN
        have hBm : q_by N7 704 0 = X 2 := z_by_fr hfr hBx
        have hus5 : ∀ j : Int, 0 ≤ j → j < 5 → N7 710 (((3 * 18 + f) * 4 + m) * 6 + j) = g_st 8 j := fun j j0 j1 => by
          obtain ⟨-, -, -, -, ⟨y0, y1, y2, y3, y4⟩, -, -⟩ := z_rng0
          have : j = 0 ∨ j = 1 ∨ j = 2 ∨ j = 3 ∨ j = 4 := by omega
          rcases this with rfl | rfl | rfl | rfl | rfl
          · rw [y0]; exact hw0
          · rw [y1]; exact hw1
          · rw [y2]; exact hw2
          · rw [y3]; exact hw3
          · rw [y4]; exact hw4
        refine g_aldn hc dX13_readBranches_67 rfl ?_
        refine g_aldn hc dX13_readBranches_68 rfl ?_
        refine g_getRk hc lk_X13_43 ca_703 (rc_703_20 hR) dX13_readBranches_69 ?_
        refine g_iload hc dX13_readBranches_72 rfl ?_
        refine g_ldcT (i := 2) (tx := "wgjox") hc (by decide) dX13_readBranches_74 ?_
        refine g_ldcT (i := 10) (tx := "10000") hc (by decide) dX13_readBranches_77 ?_
        refine g_ldcT (i := 11) (tx := "9hhh9") hc (by decide) dX13_readBranches_80 ?_
        refine g_V5 hc (r_bran w hR he (row := ((3 * 18 + f) * 4 + m) * 6) (a := am) (by omega) ha hb p5 p1 (p2.trans hBm.symm) (p3.trans ham.symm) p4 hus5) my_X13_readItems mv_X13_readItems ca_703 rfl rfl lm_X13_245 rfl (by omega) (Nat.le_of_ble_eq_true rfl) hm dX13_readBranches_83 (fun ri ni Iiz Ji Ri hpi => ?_)
        obtain ⟨rfl, rfl, rfl, rfl, ai, Ni, rfl, hai, hfi, hgi, hti⟩ := hpi
        rw [← hY1] at hti ⊢
        have hfr : z_fr N Ni := fun k j hk => (hfi k j (by unfold z_sc at hk; omega)).trans (hfr k j hk)
        have hgN := hgi
        have he : y_env Ni 704 240 0 n Lf := z_env_fr he0 hfr hgN
        have hBm : q_by Ni 704 0 = X 2 := z_by_fr hfr hBx
        have hqi : ∀ (k : Nat) (j : Int), ¬ (k = 710 ∧ ((3 * 18 + f) * 4 + m) * 6 ≤ j ∧ j < ((3 * 18 + f) * 4 + m) * 6 + 5) → Ni k j = Nm k j := fun k j hk => (hfi k j hk).trans (hq5 k j hk)
        refine g_aldn hc dX13_readBranches_86 rfl ?_
        refine g_getIe hc lk_X13_134 ca_703 11 rfl (y_M_q) dX13_readBranches_87 ?_
        refine g_iconst hc dX13_readBranches_90 ?_
        refine g_icmp_eq (tgt := 95) hc dX13_readBranches_91 (by decide) (by first | assumption | with_reducible exact z_sg32 hXb | with_reducible exact z_sg32 hXb0 | with_reducible exact g_and32 | with_reducible exact g_or32 | exact ⟨by omega, by omega⟩) (by first | assumption | with_reducible exact z_sg32 hXb | with_reducible exact z_sg32 hXb0 | with_reducible exact g_and32 | with_reducible exact g_or32 | exact ⟨by omega, by omega⟩) (fun c2 => ?_) (fun c2 => ?_)
        · skip
          have hq1 : Y1 1 3 = -1 := c2
          obtain ⟨hai2, hti2⟩ := hti hq1
          obtain ⟨X2, X3, X4, x1, x2, x4, x5, x6, x7, x8, x9, xa, ⟨xb, xc, xd⟩, xe, xf, xg, xh⟩ := hgo hq1
          have hpi := g_pos_in (B := X 2) (len := n) (a := ai) (by omega)
          rw [hq1]
          skip
          refine g_aldn hc dX13_readBranches_95 rfl ?_
          refine g_V0r hc (z_look w hR he hBm (by omega) (by omega)) my_X13_look mv_X13_look ca_703 rfl rfl lm_X13_144 rfl (by omega) (Nat.le_of_ble_eq_true rfl) hm dX13_readBranches_96 ?_
          refine g_bipush hc dX13_readBranches_99 (by decide +kernel) ?_
          refine g_icmp_eq (tgt := 110) hc dX13_readBranches_101 (by decide) (by first | assumption | with_reducible exact z_sg32 hXb | with_reducible exact z_sg32 hXb0 | with_reducible exact g_and32 | with_reducible exact g_or32 | exact ⟨by omega, by omega⟩) (by first | assumption | with_reducible exact z_sg32 hXb | with_reducible exact z_sg32 hXb0 | with_reducible exact g_and32 | with_reducible exact g_or32 | exact ⟨by omega, by omega⟩) (fun c3 => ?_) (fun c3 => ?_)
          · skip
            have hs1 : g_sgn (X 2) n ai = 58 := c3
            replace x9 := x9 (by rw [← hai2]; exact hs1)
            have hlt1 : g_pos (X 2) n ai < n := by
              by_cases z : g_pos (X 2) n ai < n
              · exact z
              · unfold g_sgn at hs1; rw [if_neg z] at hs1; omega
            have ha2 : 0 ≤ g_pos (X 2) n ai + 1 ∧ g_pos (X 2) n ai + 1 ≤ n := by omega
            obtain ⟨i1, i2, i3, i4, i5, i6, i7⟩ := z_I1 hb (by omega) hm4 hbg hlp (p := f * 4 + m) (X2 := X2) (Y := Y1) (Ni := Ni) rfl (by rw [← hP]; exact hY1) hq1 x1 hqi (fun c c0 c1 => hti2 c c0 c1)
            refine g_aldn hc dX13_readBranches_110 rfl ?_
            refine g_dup hc dX13_readBranches_111 rfl ?_
            refine g_getIe hc lk_X13_125 ca_703 10 rfl (y_M_a) dX13_readBranches_112 ?_
            refine g_iconst hc dX13_readBranches_115 ?_
            refine g_iadd hc dX13_readBranches_116 ?_
            refine g_putIe (I2 := (y_M Ni ((g_pos (X 2) n ai) + 1) (-1) d)) hc lk_X13_125 ca_703 10 rfl y_M_pa dX13_readBranches_117 ?_
            refine g_aldn hc dX13_readBranches_120 rfl ?_
            refine g_getRk hc lk_X13_43 ca_703 (rc_703_20 hR) dX13_readBranches_121 ?_
            refine g_iload hc dX13_readBranches_124 rfl ?_
            refine g_iconst hc dX13_readBranches_126 ?_
            refine g_iadd hc dX13_readBranches_127 ?_
            refine g_aldn hc dX13_readBranches_128 rfl ?_
            refine g_iload_n hc dX13_readBranches_129 rfl ?_
            refine g_iload hc dX13_readBranches_130 rfl ?_
            refine g_iload_n hc dX13_readBranches_132 rfl ?_
            refine g_iconst hc dX13_readBranches_133 ?_
            refine g_iadd hc dX13_readBranches_134 ?_
            have ha9 := ha2
            refine g_V3 hc (hZN hR he (a := g_pos (X 2) n ai + 1) (d := d) (ah := f) (bh := m) ⟨by omega, by omega⟩ x5 ⟨x6, x7.trans hBm.symm, x9.1.trans (by rw [hai2]), x9.2⟩ (by omega) (by rw [if_neg (by omega), show dep + 1 - 1 = dep by omega]; exact i5.symm) (by rw [if_neg (by omega), show dep + 1 - 1 = dep by omega]; exact i6.symm) i1 i2) my_X13_readNode mv_X13_readNode ca_703 rfl rfl lm_X13_272 rfl (by omega) (Nat.le_of_ble_eq_true rfl) hm dX13_readBranches_135 (fun ro no Ioz Jo Ro hpo => ?_)
            obtain ⟨rfl, rfl, rfl, v3, a3, N3, rfl, rfl, ha3, hv3, hg3, hf3, ht3⟩ := hpo
            rw [← x2] at ht3 ⊢
            have hfr : z_fr N N3 := fun k j hk => (hf3 k j hk).trans (hfr k j hk)
            have hgN := hg3
            have he : y_env N3 704 240 0 n Lf := z_env_fr he0 hfr hgN
            have hBm : q_by N3 704 0 = X 2 := z_by_fr hfr hBx
            obtain ⟨N8, hN8⟩ : ∃ N8, N8 = g_up N3 710 ((((3 * 18 + f) * 4 + m) * 6) + 5) v3 := ⟨_, rfl⟩
            refine g_iaste (I2 := (y_M N8 a3 (X3 1 3) d)) hc ca_710 (by decide) (by omega) (by omega) ((y_M_p (by omega)).trans (by rw [hN8])) dX13_readBranches_138 ?_
            have hfr : z_fr N N8 := fun k j hk => by
              rw [hN8]
              exact (g_up_n (by unfold z_sc at hk; omega)).trans (hfr k j hk)
            have hgN : ∀ k j, g32 (N8 k j) := by rw [hN8]; exact x_up32 hgN (by first | assumption | exact ⟨by omega, by omega⟩)
            have he : y_env N8 704 240 0 n Lf := z_env_fr he0 hfr hgN
            have hBm : q_by N8 704 0 = X 2 := z_by_fr hfr hBx
            refine g_aldn hc dX13_readBranches_139 rfl ?_
            refine g_getIe hc lk_X13_134 ca_703 11 rfl (y_M_q) dX13_readBranches_140 ?_
            refine g_iconst hc dX13_readBranches_143 ?_
            refine g_icmp_eq (tgt := 148) hc dX13_readBranches_144 (by decide) (by first | assumption | with_reducible exact z_sg32 hXb | with_reducible exact z_sg32 hXb0 | with_reducible exact g_and32 | with_reducible exact g_or32 | exact ⟨by omega, by omega⟩) (by first | assumption | with_reducible exact z_sg32 hXb | with_reducible exact z_sg32 hXb0 | with_reducible exact g_and32 | with_reducible exact g_or32 | exact ⟨by omega, by omega⟩) (fun c4 => ?_) (fun c4 => ?_)
            · skip
              have hq3 : X3 1 3 = -1 := c4
              obtain ⟨hv3e, ha3e, hR3⟩ := ht3 hq3
              rw [← hv3e] at x4
              obtain ⟨xh1, xh2, xh3⟩ := xh hq3
              rw [← ha3e] at xh1 xh2 xh3
              obtain ⟨lm2, hl2, h432⟩ := z_I2 hb (by omega) hm4 hbg hlp i1 i2 i3 i4 i5 i6 i7 hR3 xg x4 xa ⟨xb, xc, xd.trans hq3⟩ hN8
              have hpo := g_pos_in (B := X 2) (len := n) (a := a3) (by omega)
              have hgg := g_pos_pos (B := X 2) (len := n) (a := a3) (by omega)
              have hgs := g_sgn_pos (B := X 2) (len := n) (a := a3) (by omega)
              rw [hq3]
              skip
              refine g_iinc_4 hc dX13_readBranches_148 rfl ?_
              refine g_aldn hc dX13_readBranches_151 rfl ?_
              refine g_V0r hc (z_look w hR he hBm (by omega) (by omega)) my_X13_look mv_X13_look ca_703 rfl rfl lm_X13_144 rfl (by omega) (Nat.le_of_ble_eq_true rfl) hm dX13_readBranches_152 ?_
              refine g_bipush hc dX13_readBranches_155 (by decide +kernel) ?_
              refine g_icmp_ne (tgt := 164) hc dX13_readBranches_157 (by decide) (by first | assumption | with_reducible exact z_sg32 hXb | with_reducible exact z_sg32 hXb0 | with_reducible exact g_and32 | with_reducible exact g_or32 | exact ⟨by omega, by omega⟩) (by first | assumption | with_reducible exact z_sg32 hXb | with_reducible exact z_sg32 hXb0 | with_reducible exact g_and32 | with_reducible exact g_or32 | exact ⟨by omega, by omega⟩) (fun c5 => ?_) (fun c5 => ?_)
              · skip
                have hs2 : ¬ g_sgn (X 2) n a3 = 59 := c5
                refine g_iconst hc dX13_readBranches_164 ?_
                refine g_istore_3 hc dX13_readBranches_165 rfl ?_
                refine g_iload_n hc dX13_readBranches_166 rfl ?_
                refine g_if_eq (tgt := 182) hc dX13_readBranches_167 (by decide) (show g32 _ from ⟨by decide, by decide⟩) (fun c6 => ?_) (fun c6 => ?_)
                · skip
                  refine g_iload_n hc dX13_readBranches_182 rfl ?_
                  refine g_if_eq (tgt := 196) hc dX13_readBranches_183 (by decide) (show g32 _ from ⟨by decide, by decide⟩) (fun c7 => ?_) (fun c7 => ?_)
                  · skip
                    refine g_goto (tgt := 5) hc dX13_readBranches_196 (by decide) ?_
                    refine g_iload_n hc dX13_readBranches_5 rfl ?_
                    refine g_if_eq (tgt := 199) hc dX13_readBranches_6 (by decide) (show g32 _ from ⟨by decide, by decide⟩) (fun c8 => ?_) (fun c8 => ?_)
                    · skip
                      refine g_aldn hc dX13_readBranches_199 rfl ?_
                      refine g_getRk hc lk_X13_40 ca_703 (rc_703_19 hR) dX13_readBranches_200 ?_
                      refine g_aldn hc dX13_readBranches_203 rfl ?_
                      refine g_iconst hc dX13_readBranches_204 ?_
                      refine g_iload_n hc dX13_readBranches_205 rfl ?_
                      refine g_V2r hc (c_X13_forkAt w) my_X13_forkAt mv_X13_forkAt ca_703 rfl rfl lm_X13_249 rfl (by omega) (Nat.le_of_ble_eq_true rfl) hm dX13_readBranches_206 ?_
                      refine g_iconst hc dX13_readBranches_209 ?_
                      refine g_iadd hc dX13_readBranches_210 ?_
                      refine g_iload hc dX13_readBranches_211 rfl ?_
                      obtain ⟨N9, hN9⟩ : ∃ N9, N9 = g_up N8 709 (((3 * 18 + f) * 5) + 2) (m + 1) := ⟨_, rfl⟩
                      refine g_iaste (I2 := (y_M N9 (g_pos (X 2) n a3) (-1) d)) hc ca_709 (by decide) (by omega) (by omega) ((y_M_p (by omega)).trans (by rw [hN9])) dX13_readBranches_213 ?_
                      have hfr : z_fr N N9 := fun k j hk => by
                        rw [hN9]
                        exact (g_up_n (by unfold z_sc at hk; omega)).trans (hfr k j hk)
                      have hgN : ∀ k j, g32 (N9 k j) := by rw [hN9]; exact x_up32 hgN (by first | assumption | exact ⟨by omega, by omega⟩)
                      have he : y_env N9 704 240 0 n Lf := z_env_fr he0 hfr hgN
                      have hBm : q_by N9 704 0 = X 2 := z_by_fr hfr hBx
                      refine g_aldn hc dX13_readBranches_214 rfl ?_
                      refine g_V0r hc (z_look w hR he hBm (by omega) (by omega)) my_X13_look mv_X13_look ca_703 rfl rfl lm_X13_144 rfl (by omega) (Nat.le_of_ble_eq_true rfl) hm dX13_readBranches_215 ?_
                      refine g_bipush hc dX13_readBranches_218 (by decide +kernel) ?_
                      refine g_icmp_ne (tgt := 229) hc dX13_readBranches_220 (by decide) (by first | assumption | with_reducible exact z_sg32 hXb | with_reducible exact z_sg32 hXb0 | with_reducible exact g_and32 | with_reducible exact g_or32 | exact ⟨by omega, by omega⟩) (by first | assumption | with_reducible exact z_sg32 hXb | with_reducible exact z_sg32 hXb0 | with_reducible exact g_and32 | with_reducible exact g_or32 | exact ⟨by omega, by omega⟩) (fun c9 => ?_) (fun c9 => ?_)
                      · skip
                        have hs3 : ¬ g_sgn (X 2) n a3 = 41 := fun z => c9 (hgs.trans z)
                        refine g_aldn hc dX13_readBranches_229 rfl ?_
                        refine g_V0r hc (d_fails w hR he (by omega) (by omega)) my_X13_fails mv_X13_fails ca_703 rfl rfl lm_X13_140 rfl (by omega) (Nat.le_of_ble_eq_true rfl) hm dX13_readBranches_230 ?_
                        refine g_pop hc dX13_readBranches_233 rfl ?_
                        refine g_vret hc hm dX13_readBranches_234 ?_
                        have hq9 : Y 1 3 = g_pos (X 2) n a3 := xh2 (fun z => by omega) (by omega)
                        try rw [hgg]
                        exact ⟨rfl, rfl, rfl, rfl, (g_pos (X 2) n a3), N9, by rw [hq9, g_q1, if_pos rfl], by omega, hgN, hfr, fun z => by rw [hq9] at z; omega⟩
                      · skip
                        have hs3 : g_sgn (X 2) n a3 = 41 := hgs.symm.trans c9
                        refine g_iload hc dX13_readBranches_223 rfl ?_
                        refine g_iconst hc dX13_readBranches_225 ?_
                        refine g_icmp_ge (tgt := 235) hc dX13_readBranches_226 (by decide) (by first | assumption | with_reducible exact z_sg32 hXb | with_reducible exact z_sg32 hXb0 | with_reducible exact g_and32 | with_reducible exact g_or32 | exact ⟨by omega, by omega⟩) (by first | assumption | with_reducible exact z_sg32 hXb | with_reducible exact z_sg32 hXb0 | with_reducible exact g_and32 | with_reducible exact g_or32 | exact ⟨by omega, by omega⟩) (fun c10 => ?_) (fun c10 => ?_)
                        · skip
                          have hm6 := c10
                          have hlt2 : g_pos (X 2) n a3 < n := by
                            by_cases z : g_pos (X 2) n a3 < n
                            · exact z
                            · unfold g_sgn at hs3; rw [if_neg z] at hs3; omega
                          obtain ⟨y1, y2, y3⟩ := xh1 (by omega) hs3
                          refine g_aldn hc dX13_readBranches_235 rfl ?_
                          refine g_dup hc dX13_readBranches_236 rfl ?_
                          refine g_getIe hc lk_X13_125 ca_703 10 rfl (y_M_a) dX13_readBranches_237 ?_
                          refine g_iconst hc dX13_readBranches_240 ?_
                          refine g_iadd hc dX13_readBranches_241 ?_
                          refine g_putIe (I2 := (y_M N9 ((g_pos (X 2) n (g_pos (X 2) n a3)) + 1) (-1) d)) hc lk_X13_125 ca_703 10 rfl y_M_pa dX13_readBranches_242 ?_
                          refine g_vret hc hm dX13_readBranches_245 ?_
                          have hq9 : Y 1 3 = -1 := by rw [y1]; exact g_ts_q.trans (xd.trans hq3)
                          obtain ⟨w1, w2⟩ := z_I3 hb hbg hl2 h432 hm6 y3 hq9 y1 hN9
                          rw [hgg]
                          exact ⟨rfl, rfl, rfl, rfl, g_pos (X 2) n a3 + 1, N9, by rw [hq9], by omega, hgN, hfr, fun _ => ⟨y2.symm, lm2, m + 1, hm6, w1, w2⟩⟩
                        · skip
                          have hm6 := c10
                          refine g_aldn hc dX13_readBranches_229 rfl ?_
                          refine g_V0r hc (d_fails w hR he (by omega) (by omega)) my_X13_fails mv_X13_fails ca_703 rfl rfl lm_X13_140 rfl (by omega) (Nat.le_of_ble_eq_true rfl) hm dX13_readBranches_230 ?_
                          refine g_pop hc dX13_readBranches_233 rfl ?_
                          refine g_vret hc hm dX13_readBranches_234 ?_
                          have hq9 : Y 1 3 = g_pos (X 2) n a3 := xh2 (fun z => by omega) (by omega)
                          try rw [hgg]
                          exact ⟨rfl, rfl, rfl, rfl, (g_pos (X 2) n a3), N9, by rw [hq9, g_q1, if_pos rfl], by omega, hgN, hfr, fun z => by rw [hq9] at z; omega⟩
                    · exfalso; omega
                  · exfalso; omega
                · exfalso; omega
              · skip
                have hs2 : g_sgn (X 2) n a3 = 59 := c5
                refine g_iconst hc dX13_readBranches_160 ?_
                refine g_goto (tgt := 165) hc dX13_readBranches_161 (by decide) ?_
                refine g_istore_3 hc dX13_readBranches_165 rfl ?_
                refine g_iload_n hc dX13_readBranches_166 rfl ?_
                refine g_if_eq (tgt := 182) hc dX13_readBranches_167 (by decide) (show g32 _ from ⟨by decide, by decide⟩) (fun c11 => ?_) (fun c11 => ?_)
                · exfalso; omega
                · skip
                  refine g_iload hc dX13_readBranches_170 rfl ?_
                  refine g_iconst hc dX13_readBranches_172 ?_
                  refine g_icmp_ne (tgt := 182) hc dX13_readBranches_173 (by decide) (by first | assumption | with_reducible exact z_sg32 hXb | with_reducible exact z_sg32 hXb0 | with_reducible exact g_and32 | with_reducible exact g_or32 | exact ⟨by omega, by omega⟩) (by first | assumption | with_reducible exact z_sg32 hXb | with_reducible exact z_sg32 hXb0 | with_reducible exact g_and32 | with_reducible exact g_or32 | exact ⟨by omega, by omega⟩) (fun c12 => ?_) (fun c12 => ?_)
                  · skip
                    have hm5 : ¬ m + 1 = 4 := c12
                    have hlt2 : g_pos (X 2) n a3 < n := by
                      by_cases z : g_pos (X 2) n a3 < n
                      · exact z
                      · unfold g_sgn at hs2; rw [if_neg z] at hs2; omega
                    obtain ⟨X5, y1, y2, y3, y4, y5⟩ := xh3 hs2 (by omega)
                    refine g_iload_n hc dX13_readBranches_182 rfl ?_
                    refine g_if_eq (tgt := 196) hc dX13_readBranches_183 (by decide) (show g32 _ from ⟨by decide, by decide⟩) (fun c13 => ?_) (fun c13 => ?_)
                    · exfalso; omega
                    · skip
                      refine g_aldn hc dX13_readBranches_186 rfl ?_
                      refine g_dup hc dX13_readBranches_187 rfl ?_
                      refine g_getIe hc lk_X13_125 ca_703 10 rfl (y_M_a) dX13_readBranches_188 ?_
                      refine g_iconst hc dX13_readBranches_191 ?_
                      refine g_iadd hc dX13_readBranches_192 ?_
                      refine g_putIe (I2 := (y_M N8 ((g_pos (X 2) n a3) + 1) (-1) d)) hc lk_X13_125 ca_703 10 rfl y_M_pa dX13_readBranches_193 ?_
                      refine g_goto (tgt := 5) hc dX13_readBranches_196 (by decide) ?_
                      refine G_sub (L' := [some (gvr w 703), some (gvI f), some (gvI dep), some (gvI 1), some (gvI (m + 1)), none]) (show g_le _ _ from ⟨rfl, ⟨rfl, ⟨rfl, ⟨rfl, ⟨rfl, trivial⟩⟩⟩⟩⟩) ?_
                      refine ih_5 _ _ X5 _ lm2 ?_ ?_ ?_ ?_ ?_ ?_ ?_
                      · rw [y1, show (4 - (m + 1)).toNat = k2 by omega]
                      · omega
                      · exact z_lp_ts hb hl2 y2 y3 y5
                      · exact y4.symm
                      · exact hfr
                      · exact hgN
                      · omega
                  · skip
                    have hm5 : m + 1 = 4 := c12
                    refine g_aldn hc dX13_readBranches_176 rfl ?_
                    refine g_V0r hc (d_fails w hR he (by omega) (by omega)) my_X13_fails mv_X13_fails ca_703 rfl rfl lm_X13_140 rfl (by omega) (Nat.le_of_ble_eq_true rfl) hm dX13_readBranches_177 ?_
                    refine g_pop hc dX13_readBranches_180 rfl ?_
                    refine g_vret hc hm dX13_readBranches_181 ?_
                    have hq9 : Y 1 3 = g_pos (X 2) n a3 := xh2 (fun z => by omega) (by omega)
                    exact ⟨rfl, rfl, rfl, rfl, (g_pos (X 2) n a3), N8, by rw [hq9, g_q1, if_pos rfl], by omega, hgN, hfr, fun z => by rw [hq9] at z; omega⟩
            · skip
              have hq3 : ¬ X3 1 3 = -1 := c4
              refine g_vret hc hm dX13_readBranches_147 ?_
              have hq9 : Y 1 3 = X3 1 3 := xf hq3
              exact ⟨rfl, rfl, rfl, rfl, a3, N8, by rw [hq9], by omega, hgN, hfr, fun z => by rw [hq9] at z; omega⟩
          · skip
            have hs1 : ¬ g_sgn (X 2) n ai = 58 := c3
            refine g_aldn hc dX13_readBranches_104 rfl ?_
            refine g_V0r hc (d_fails w hR he (by omega) (by omega)) my_X13_fails mv_X13_fails ca_703 rfl rfl lm_X13_140 rfl (by omega) (Nat.le_of_ble_eq_true rfl) hm dX13_readBranches_105 ?_
            refine g_pop hc dX13_readBranches_108 rfl ?_
            refine g_vret hc hm dX13_readBranches_109 ?_
            have hq9 : Y 1 3 = g_pos (X 2) n ai := by rw [x8 (by rw [← hai2]; exact hs1), hai2]
            exact ⟨rfl, rfl, rfl, rfl, (g_pos (X 2) n ai), Ni, by rw [hq9, g_q1, if_pos rfl], by omega, hgN, hfr, fun z => by rw [hq9] at z; omega⟩
        · skip
          have hq1 : ¬ Y1 1 3 = -1 := c2
          refine g_vret hc hm dX13_readBranches_94 ?_
          have hq9 : Y 1 3 = Y1 1 3 := hgo1 hq1
          exact ⟨rfl, rfl, rfl, rfl, ai, Ni, by rw [hq9], by omega, hgN, hfr, fun z => by rw [hq9] at z; omega⟩
  refine lp_5 5 0 _ X _ lv ?_ ?_ ?_ ?_ ?_ ?_ (?_)
  · rfl
  · decide
  · exact ⟨hX0, ⟨hX01, rfl, hX04⟩, hZ0, fun _ _ => rfl, fun _ _ _ => ⟨rfl, rfl, rfl⟩, fun _ _ => ⟨rfl, rfl⟩, hF0, fun s s0 s1 => by omega, ⟨by omega, by omega, by omega⟩, hA0, hB0⟩
  · exact hX03.symm
  · exact fun _ _ _ => rfl
  · exact hgN0
  · decide
