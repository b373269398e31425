set_option maxHeartbeats 4000000 in
set_option maxRecDepth 100000 in
/-- X13_opens -/
theorem c_X13_opens (w : g_W) {J : g_J} {R : g_R} {lb t0 : Nat} (hR : g_rf w R lb t0) {M : g_I} {tx : Nat} {o n : Int} : g_Met w g_n M J R yX13_opens cX13_opens 4 none 0 0 0 [(gvr w 703), (gvr w tx), (gvI o), (gvI n)] (fun rr nn II JJ RR => rr = none ∧ nn = g_n ∧ J = JJ ∧ g_rf w RR lb tx ∧ II = y_M (g_up (g_up M 703 8 o) 703 9 n) 0 (-1) ((g_up (g_up M 703 8 o) 703 9 n) 703 12)) := by
  refine g_intro (own := RX13) [some (gvr w 703), some (gvr w tx), some (gvI o), some (gvI n)] (by decide +kernel) rfl (by decide) (Nat.le_of_ble_eq_true rfl) rfl (fun i v hv => g_args 0 i v hv rfl) (fun x hc hm => ?_)
  refine g_aldn hc dX13_opens_0 rfl ?_
  refine g_aldn hc dX13_opens_1 rfl ?_
  refine g_putR (ty := .array .byte) hc lk_X13_23 ca_703 (by decide) rfl rfl dX13_opens_2 ?_
  have hR2 := g_rf_tx (t2 := tx) hR
  refine g_aldn hc dX13_opens_5 rfl ?_
  refine g_iload_n hc dX13_opens_6 rfl ?_
  refine g_putI' hc lk_X13_131 ca_703 8 rfl dX13_opens_7 (fun I3 hI3 => ?_)
  refine g_aldn hc dX13_opens_10 rfl ?_
  refine g_iload_n hc dX13_opens_11 rfl ?_
  refine g_putI' hc lk_X13_128 ca_703 9 rfl dX13_opens_12 (fun I4 hI4 => ?_)
  refine g_aldn hc dX13_opens_15 rfl ?_
  refine g_iconst hc dX13_opens_16 ?_
  refine g_putI' hc lk_X13_125 ca_703 10 rfl dX13_opens_17 (fun I5 hI5 => ?_)
  refine g_aldn hc dX13_opens_20 rfl ?_
  refine g_iconst hc dX13_opens_21 ?_
  refine g_putI' hc lk_X13_134 ca_703 11 rfl dX13_opens_22 (fun I6 hI6 => ?_)
  refine g_vret hc hm dX13_opens_25 ?_
  exact ⟨rfl, rfl, rfl, hR2, by rw [hI6, hI5, hI4, hI3]; exact y_open⟩
theorem y_M_off {M : g_I} {a q d : Int} {k : Nat} {j : Int} (h : ¬ (k = 703 ∧ (8 ≤ j ∧ j ≤ 14 ∨ j = 17))) : y_M M a q d k j = M k j := (g_up_n (by omega)).trans ((g_up_n (by omega)).trans (g_up_n (by omega)))
theorem y_clause0 (w : g_W) {J : g_J} {R : g_R} {lb tx ln : Nat} (hR : g_rf w R lb tx) {M : g_I} {o n : Int} {Lf : Int → Int} (he : y_env M tx ln o n Lf) {s : g_S} (hs : 0 ≤ s.1 ∧ s.1 ≤ n) (hq0 : s.2.1 = -1) (hl : (s.2.2.length : Int) ≤ s.1) (hsu : y_Csum w 6) (hco : y_Ccond w 6) {h f : Int} (hh : h = 0 ∨ h = 1) (hf : g32 f) (hh1 : M 703 17 = h) (hf1 : M 703 14 = f) (hlab : M 703 13 = 121) :
    g_Met w g_n (y_M M s.1 (-1) 0) J R yX13_clause cX13_clause 5 none 31 0 0 [gvr w 703] (y_pcl w M J R n Lf 0 s (t_cls (q_by M tx o) n s) h f) := by
  have z := y_clause w (J := J) hR he hs hq0 hl hsu hco hh hf hh1 hf1 hlab
  rw [show (6 - ((6 : Nat) : Int)) = 0 from by decide] at z
  exact z
set_option maxHeartbeats 4000000 in
set_option maxRecDepth 100000 in
/-- X13_goThrough -/
theorem c_X13_goThrough (w : g_W) {J : g_J} {R : g_R} {lb t0 tx ln : Nat} (hR : g_rf w R lb t0) {M : g_I} {o n : Int} {Lf : Int → Int} (ht : y_txt M tx ln o n Lf) : g_Met w g_n M J R yX13_goThrough cX13_goThrough 4 none 32 0 0 [(gvr w 703), (gvr w tx), (gvI o), (gvI n)] (y_gt w M J lb tx o n Lf) := by
  refine g_intro (own := RX13) [some (gvr w 703), some (gvr w tx), some (gvI o), some (gvI n)] (by decide +kernel) rfl (by decide) (Nat.le_of_ble_eq_true rfl) rfl (fun i v hv => g_args 0 i v hv rfl) (fun x hc hm => ?_)
  obtain ⟨⟨he3, he4, he5⟩, he6, hB, hI, hLt, hat, htx⟩ := id ht
  have hx3 : ¬ tx = 703 := by omega
  obtain ⟨⟨hsu, hco⟩, -⟩ := y_rec w 6 (by decide)
  refine g_aldn hc dX13_goThrough_0 rfl ?_
  refine g_aldn hc dX13_goThrough_1 rfl ?_
  refine g_iload_n hc dX13_goThrough_2 rfl ?_
  refine g_iload_n hc dX13_goThrough_3 rfl ?_
  refine g_V3 hc (c_X13_opens w hR (tx := tx)) my_X13_opens mv_X13_opens ca_703 rfl rfl lm_X13_213 rfl (by decide) (Nat.le_of_ble_eq_true rfl) hm dX13_goThrough_4 (fun rO nO IO JO RO hpO => ?_)
  obtain ⟨rfl, rfl, rfl, hRO, rfl⟩ := hpO
  obtain ⟨X, hX⟩ : ∃ X, X = (g_up (g_up M 703 8 o) 703 9 n) := ⟨_, rfl⟩
  rw [← hX]
  clear hR
  have hR := hRO
  have hX8 : X 703 8 = o := by rw [hX, g_up_i (by decide), g_up_s]
  have hX9 : X 703 9 = n := by rw [hX, g_up_s]
  have hXk : ∀ (k : Nat) (j : Int), ¬ (k = 703 ∧ (8 ≤ j ∧ j ≤ 14 ∨ j = 17)) → X k j = M k j := fun k j hk => by rw [hX]; exact (g_up_n (by omega)).trans (g_up_n (by omega))
  have hXx : ∀ k j, g32 (X k j) := by rw [hX]; exact g_up32 (g_up32 hI ⟨by omega, by omega⟩) ⟨by omega, by omega⟩
  refine g_aldn hc dX13_goThrough_7 rfl ?_
  refine g_bipush hc dX13_goThrough_8 (by decide +kernel) ?_
  obtain ⟨M3, hM3⟩ : ∃ M3, M3 = g_up X 703 13 121 := ⟨_, rfl⟩
  have kM3 : g_up (y_M X 0 (-1) (X 703 12)) 703 13 121 = (y_M M3 0 (-1) (X 703 12)) := (y_M_p (by omega)).trans (by rw [hM3])
  refine g_putIe (I2 := (y_M M3 0 (-1) (X 703 12))) hc lk_X13_207 ca_703 13 rfl kM3 dX13_goThrough_10 ?_
  refine g_aldn hc dX13_goThrough_13 rfl ?_
  refine g_iconst hc dX13_goThrough_14 ?_
  refine g_putIe (I2 := (y_M M3 0 (-1) 0)) hc lk_X13_137 ca_703 12 rfl y_M_pd dX13_goThrough_15 ?_
  refine g_aldn hc dX13_goThrough_18 rfl ?_
  refine g_iconst hc dX13_goThrough_19 ?_
  obtain ⟨M4, hM4⟩ : ∃ M4, M4 = g_up M3 703 17 0 := ⟨_, rfl⟩
  have kM4 : g_up (y_M M3 0 (-1) 0) 703 17 0 = (y_M M4 0 (-1) 0) := (y_M_p (by omega)).trans (by rw [hM4])
  refine g_putZ' hc lk_X13_203 ca_703 (by first | exact g_b01 | omega) 17 rfl dX13_goThrough_20 (fun z9 hz9 => ?_)
  rw [kM4] at hz9
  subst hz9
  refine g_aldn hc dX13_goThrough_23 rfl ?_
  refine g_iconst hc dX13_goThrough_24 ?_
  obtain ⟨M5, hM5⟩ : ∃ M5, M5 = g_up M4 703 14 0 := ⟨_, rfl⟩
  have kM5 : g_up (y_M M4 0 (-1) 0) 703 14 0 = (y_M M5 0 (-1) 0) := (y_M_p (by omega)).trans (by rw [hM5])
  refine g_putIe (I2 := (y_M M5 0 (-1) 0)) hc lk_X13_210 ca_703 14 rfl kM5 dX13_goThrough_25 ?_
  obtain ⟨Y, hY⟩ : ∃ Y, Y = M5 := ⟨_, rfl⟩
  rw [← hY]
  have hYk : ∀ (k : Nat) (j : Int), ¬ (k = 703 ∧ (8 ≤ j ∧ j ≤ 14 ∨ j = 17)) → Y k j = M k j := fun k j hk => by rw [hY, hM5, hM4, hM3]; exact (g_up_n (by omega)).trans ((g_up_n (by omega)).trans ((g_up_n (by omega)).trans (hXk k j hk)))
  have hYx : ∀ k j, g32 (Y k j) := by rw [hY, hM5, hM4, hM3]; exact g_up32 (g_up32 (g_up32 hXx ⟨by decide, by decide⟩) ⟨by decide, by decide⟩) ⟨by decide, by decide⟩
  have hm13 : Y 703 13 = 121 := by rw [hY, hM5, hM4, hM3, g_up_i (by decide), g_up_i (by decide), g_up_s]
  have hm17 : Y 703 17 = 0 := by rw [hY, hM5, hM4, g_up_i (by decide), g_up_s]
  have hm14 : Y 703 14 = 0 := by rw [hY, hM5, g_up_s]
  have heM : y_env Y tx ln o n Lf := ht.env (fun k hk => funext fun j => hYk k j (by omega)) hYx (by rw [hY, hM5, hM4, hM3, g_up_i (by decide), g_up_i (by decide), g_up_i (by decide)]; exact hX8) (by rw [hY, hM5, hM4, hM3, g_up_i (by decide), g_up_i (by decide), g_up_i (by decide)]; exact hX9)
  have hbY : q_by Y tx o = q_by M tx o := by unfold q_by; rw [show Y tx = M tx from funext fun j => hYk tx j (by omega)]
  refine g_aldn hc dX13_goThrough_28 rfl ?_
  refine g_V0 hc (y_clause0 w hR heM (s := (0, -1, [])) ⟨by decide, he6.1⟩ rfl (by decide) hsu hco (Or.inl rfl) ⟨by decide, by decide⟩ hm17 hm14 hm13) my_X13_clause mv_X13_clause ca_703 rfl rfl lm_X13_217 rfl (by decide) (Nat.le_of_ble_eq_true rfl) hm dX13_goThrough_29 (fun rC nC IC JC RC hpC => ?_)
  obtain ⟨rfl, rfl, rfl, rfl, h1, f1, a1, q1, d1, rfl, hy1⟩ := hpC
  have lp_32 : ∀ (fu : Nat) (N : g_I) (a q d h f : Int) (z : g_S) (m : Nat), y_lpi (q_by M tx o) n Lf z m h f a q d → y_env N tx ln o n Lf → N 703 13 = 121 → N 703 17 = h → N 703 14 = f → (∀ (k : Nat) (j : Int), ¬ (k = 703 ∧ (8 ≤ j ∧ j ≤ 14 ∨ j = 17)) → N k j = M k j) → (m : Int) < (fu : Int) → G w x (y_gt w M J lb tx o n Lf) 0 0 g_n (y_M N a q d) J RO 32 [some (gvr w 703), some (gvr w tx), some (gvI o), some (gvI n)] [] := by
    intro fu
    induction fu with
    | zero => intro N a q d h f z m hi heN h13 h17 h14 hNk hfu; exfalso; omega
    | succ fu ih =>
      intro N a q d h f z m hi heN h13 h17 h14 hNk hfu
      obtain ⟨-, hh, hf, hab, hdb, hqb, hz7, hz8, hz9⟩ := id hi
      have hbN : q_by N tx o = q_by M tx o := by unfold q_by; rw [show N tx = M tx from funext fun j => hNk tx j (by omega)]
      have ih_32 := ih
      refine g_aldn hc dX13_goThrough_32 rfl ?_
      refine g_getIe hc lk_X13_134 ca_703 11 rfl (y_M_q) dX13_goThrough_33 ?_
      refine g_iconst hc dX13_goThrough_36 ?_
      refine g_icmp_ne (tgt := 66) hc dX13_goThrough_37 (by decide) (by first | exact hI _ _ | exact y_sg32 (by omega) hB | exact g_b32 | exact g_and32 | assumption | exact ⟨by omega, by omega⟩) (by first | exact hI _ _ | exact y_sg32 (by omega) hB | exact g_b32 | exact g_and32 | assumption | exact ⟨by omega, by omega⟩) (fun c1 => ?_) (fun c1 => ?_)
      · skip
        refine g_aldn hc dX13_goThrough_66 rfl ?_
        refine g_getIe hc lk_X13_134 ca_703 11 rfl (y_M_q) dX13_goThrough_67 ?_
        refine g_iconst hc dX13_goThrough_70 ?_
        refine g_icmp_ne (tgt := 87) hc dX13_goThrough_71 (by decide) (by first | exact hI _ _ | exact y_sg32 (by omega) hB | exact g_b32 | exact g_and32 | assumption | exact ⟨by omega, by omega⟩) (by first | exact hI _ _ | exact y_sg32 (by omega) hB | exact g_b32 | exact g_and32 | assumption | exact ⟨by omega, by omega⟩) (fun c2 => ?_) (fun c2 => ?_)
        · skip
          refine g_vret hc hm dX13_goThrough_87 ?_
          have hg := y_gt1 hi (by omega)
          exact ⟨rfl, rfl, rfl, hR, fun k j hk => (y_M_off hk).trans (hNk k j hk), y_M32 heN.2.2.2.2.1 ⟨by omega, by omega⟩ ⟨by omega, by omega⟩ ⟨by omega, by omega⟩, y_M_q.trans hg.symm, fun y => absurd (hg.symm.trans y) (by omega)⟩
        · exfalso; omega
      · skip
        have hqz : q = -1 := by omega
        subst hqz
        obtain ⟨ha1, hd1, hlz, hmz, -, -⟩ := hz9 rfl
        subst ha1
        subst hd1
        have hp := g_pos_in (B := (q_by M tx o)) (len := n) (a := z.1) hab.2
        refine g_aldn hc dX13_goThrough_40 rfl ?_
        refine g_V0r hc (c_X13_look w hR heN (by omega) (by omega) (by omega)) my_X13_look mv_X13_look ca_703 rfl rfl lm_X13_144 rfl (by decide) (Nat.le_of_ble_eq_true rfl) hm dX13_goThrough_41 ?_
        rw [hbN]
        refine g_bipush hc dX13_goThrough_44 (by decide +kernel) ?_
        refine g_icmp_ne (tgt := 66) hc dX13_goThrough_46 (by decide) (by first | exact hI _ _ | exact y_sg32 (by omega) hB | exact g_b32 | exact g_and32 | assumption | exact ⟨by omega, by omega⟩) (by first | exact hI _ _ | exact y_sg32 (by omega) hB | exact g_b32 | exact g_and32 | assumption | exact ⟨by omega, by omega⟩) (fun c3 => ?_) (fun c3 => ?_)
        · skip
          refine g_aldn hc dX13_goThrough_66 rfl ?_
          refine g_getIe hc lk_X13_134 ca_703 11 rfl (y_M_q) dX13_goThrough_67 ?_
          refine g_iconst hc dX13_goThrough_70 ?_
          refine g_icmp_ne (tgt := 87) hc dX13_goThrough_71 (by decide) (by first | exact hI _ _ | exact y_sg32 (by omega) hB | exact g_b32 | exact g_and32 | assumption | exact ⟨by omega, by omega⟩) (by first | exact hI _ _ | exact y_sg32 (by omega) hB | exact g_b32 | exact g_and32 | assumption | exact ⟨by omega, by omega⟩) (fun c4 => ?_) (fun c4 => ?_)
          · exfalso; omega
          · skip
            refine g_aldn hc dX13_goThrough_74 rfl ?_
            refine g_V0r hc (c_X13_look w hR heN (by omega) (by omega) (by omega)) my_X13_look mv_X13_look ca_703 rfl rfl lm_X13_144 rfl (by decide) (Nat.le_of_ble_eq_true rfl) hm dX13_goThrough_75 ?_
            rw [hbN]
            rw [show g_pos (q_by M tx o) n (g_pos (q_by M tx o) n z.1) = g_pos (q_by M tx o) n z.1 from g_pos_pos (by omega), show g_sgn (q_by M tx o) n (g_pos (q_by M tx o) n z.1) = g_sgn (q_by M tx o) n z.1 from g_sgn_pos (by omega)]
            refine g_iconst hc dX13_goThrough_78 ?_
            refine g_icmp_eq (tgt := 87) hc dX13_goThrough_79 (by decide) (by first | exact hI _ _ | exact y_sg32 (by omega) hB | exact g_b32 | exact g_and32 | assumption | exact ⟨by omega, by omega⟩) (by first | exact hI _ _ | exact y_sg32 (by omega) hB | exact g_b32 | exact g_and32 | assumption | exact ⟨by omega, by omega⟩) (fun c5 => ?_) (fun c5 => ?_)
            · skip
              refine g_vret hc hm dX13_goThrough_87 ?_
              obtain ⟨hg, hg2⟩ := y_gt3 hi (by omega)
              exact ⟨rfl, rfl, rfl, hR, fun k j hk => (y_M_off hk).trans (hNk k j hk), y_M32 heN.2.2.2.2.1 ⟨by omega, by omega⟩ ⟨by omega, by omega⟩ ⟨by omega, by omega⟩, y_M_q.trans hg.symm, fun _ => (y_M_j (by decide)).trans (h14.trans hg2.symm)⟩
            · skip
              refine g_aldn hc dX13_goThrough_82 rfl ?_
              refine g_V0r hc (c_X13_fails w hR heN (by omega) (by omega) (by omega)) my_X13_fails mv_X13_fails ca_703 rfl rfl lm_X13_140 rfl (by decide) (Nat.le_of_ble_eq_true rfl) hm dX13_goThrough_83 ?_
              rw [show g_q1 (-1) (g_pos (q_by M tx o) n z.1) = g_pos (q_by M tx o) n z.1 from if_pos rfl]
              refine g_pop hc dX13_goThrough_86 rfl ?_
              refine g_vret hc hm dX13_goThrough_87 ?_
              have hg := y_gt2 hi (by omega) (by omega)
              exact ⟨rfl, rfl, rfl, hR, fun k j hk => (y_M_off hk).trans (hNk k j hk), y_M32 heN.2.2.2.2.1 ⟨by omega, by omega⟩ ⟨by omega, by omega⟩ ⟨by omega, by omega⟩, y_M_q.trans hg.symm, fun y => absurd (hg.symm.trans y) (by omega)⟩
        · skip
          have hlt := y_sgp (B := (q_by M tx o)) (n := n) (a := z.1) (by omega)
          refine g_aldn hc dX13_goThrough_49 rfl ?_
          refine g_dup hc dX13_goThrough_50 rfl ?_
          refine g_getIe hc lk_X13_125 ca_703 10 rfl (y_M_a) dX13_goThrough_51 ?_
          refine g_iconst hc dX13_goThrough_54 ?_
          refine g_iadd hc dX13_goThrough_55 ?_
          refine g_putIe (I2 := (y_M N ((g_pos (q_by M tx o) n z.1) + 1) (-1) 0)) hc lk_X13_125 ca_703 10 rfl y_M_pa dX13_goThrough_56 ?_
          refine g_aldn hc dX13_goThrough_59 rfl ?_
          refine g_V0 hc (y_clause0 w hR heN (s := t_adv (t_sk (q_by M tx o) n z)) ⟨by show 0 ≤ g_pos (q_by M tx o) n z.1 + 1; omega, by show g_pos (q_by M tx o) n z.1 + 1 ≤ n; omega⟩ (show z.2.1 = -1 from hz7) (by show (z.2.2.length : Int) ≤ g_pos (q_by M tx o) n z.1 + 1; omega) hsu hco hh hf h17 h14 h13) my_X13_clause mv_X13_clause ca_703 rfl rfl lm_X13_217 rfl (by decide) (Nat.le_of_ble_eq_true rfl) hm dX13_goThrough_60 (fun rC nC IC JC RC hpC => ?_)
          obtain ⟨rfl, rfl, rfl, rfl, h2, f2, a2, q2, d2, rfl, hy2⟩ := hpC
          rw [hbN] at hy2
          have hnx := hi.next he6.2 (show g_sgn _ _ _ = 59 by omega) hlt hy2
          refine g_goto (tgt := 32) hc dX13_goThrough_63 (by decide) ?_
          refine ih_32 _ _ _ _ h2 f2 (t_cls (q_by M tx o) n (t_adv (t_sk (q_by M tx o) n z))) (m - 1) ?_ ?_ ?_ ?_ ?_ ?_ ?_
          · exact hnx.1
          · exact y_F_env heN (by rcases hy2.2.1 with z | z <;> rw [z] <;> exact ⟨by decide, by decide⟩) hy2.1
          · rw [y_F_j (by decide)]; exact h13
          · exact y_F_h
          · exact y_F_f
          · intro k j hk; exact (g_up_n (by omega)).trans ((g_up_n (by omega)).trans (hNk k j hk))
          · have := hnx.2; omega
  refine lp_32 240 _ _ _ _ h1 f1 (t_cls (q_by M tx o) n (0, -1, [])) 239 ?_ ?_ ?_ ?_ ?_ ?_ (?_)
  · rw [hbY] at hy1; exact y_lpi.first hy1
  · exact y_F_env heM (by rcases hy1.2.1 with z | z <;> rw [z] <;> exact ⟨by decide, by decide⟩) hy1.1
  · rw [y_F_j (by decide)]; exact hm13
  · exact y_F_h
  · exact y_F_f
  · intro k j hk; exact (g_up_n (by omega)).trans ((g_up_n (by omega)).trans (hYk k j hk))
  · decide
