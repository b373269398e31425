def y_Catom (w : g_W) (k : Nat) : Prop := ∀ {J : g_J} {R : g_R} {lb tx ln : Nat} {M : g_I} {o n : Int} {Lf : Int → Int} {s : g_S}, g_rf w R lb tx → y_env M tx ln o n Lf → (0 ≤ s.1 ∧ s.1 ≤ n) → s.2.1 = -1 → (s.2.2.length : Int) ≤ s.1 → g_Met w g_n (y_M M s.1 (-1) (6 - (k : Int))) J R yX13_atom cX13_atom 4 (some .int) (6 + 3 * k) 0 0 [gvr w 703] (y_post w M J R n Lf (6 - (k : Int)) (2 * k + 1) s (t_atk (q_by M tx o) n k s) false)
def y_Cterm (w : g_W) (k : Nat) : Prop := ∀ {J : g_J} {R : g_R} {lb tx ln : Nat} {M : g_I} {o n : Int} {Lf : Int → Int} {s : g_S}, g_rf w R lb tx → y_env M tx ln o n Lf → (0 ≤ s.1 ∧ s.1 ≤ n) → s.2.1 = -1 → (s.2.2.length : Int) ≤ s.1 → g_Met w g_n (y_M M s.1 (-1) (6 - (k : Int))) J R yX13_term cX13_term 5 (some .int) (7 + 3 * k) 0 0 [gvr w 703] (y_post w M J R n Lf (6 - (k : Int)) (2 * k + 2) s (t_tek (q_by M tx o) n k s) false)
def y_Csum (w : g_W) (k : Nat) : Prop := ∀ {J : g_J} {R : g_R} {lb tx ln : Nat} {M : g_I} {o n : Int} {Lf : Int → Int} {s : g_S}, g_rf w R lb tx → y_env M tx ln o n Lf → (0 ≤ s.1 ∧ s.1 ≤ n) → s.2.1 = -1 → (s.2.2.length : Int) ≤ s.1 → g_Met w g_n (y_M M s.1 (-1) (6 - (k : Int))) J R yX13_sum cX13_sum 5 (some .int) (8 + 3 * k) 0 0 [gvr w 703] (y_post w M J R n Lf (6 - (k : Int)) (2 * k + 3) s (t_suk (q_by M tx o) n k s) false)
def y_Ccmp (w : g_W) (k : Nat) : Prop := ∀ {J : g_J} {R : g_R} {lb tx ln : Nat} {M : g_I} {o n : Int} {Lf : Int → Int} {s : g_S} {s0 : g_S} {e r : Int}, g_rf w R lb tx → y_env M tx ln o n Lf → (0 ≤ s.1 ∧ s.1 ≤ n) → s.2.1 = -1 → (s.2.2.length : Int) ≤ s.1 → (s0.2.2.length : Int) ≤ s0.1 → (e = 0 ∧ s0 = s ∨ e = 1 ∧ y_res n Lf (6 - (k : Int)) (2 * k + 3) s0 s r s.1 (-1) (6 - (k : Int))) → g_Met w g_n (y_M M s.1 (-1) (6 - (k : Int))) J R yX13_compares cX13_compares 6 (some .boolean) (9 + 3 * k) 0 0 [gvr w 703, gvI e, gvI r] (y_post w M J R n Lf (6 - (k : Int)) (2 * k + 4) s0 (t_cmp (q_by M tx o) n (t_suk (q_by M tx o) n k) e s) true)
def y_Cunit (w : g_W) (k : Nat) : Prop := ∀ {J : g_J} {R : g_R} {lb tx ln : Nat} {M : g_I} {o n : Int} {Lf : Int → Int} {s : g_S}, g_rf w R lb tx → y_env M tx ln o n Lf → (0 ≤ s.1 ∧ s.1 ≤ n) → s.2.1 = -1 → (s.2.2.length : Int) ≤ s.1 → g_Met w g_n (y_M M s.1 (-1) (6 - (k : Int))) J R yX13_unit cX13_unit 3 (some .boolean) (10 + 3 * k) 0 0 [gvr w 703] (y_post w M J R n Lf (6 - (k : Int)) (2 * k + 4) s (t_unk (q_by M tx o) n k 0 s) true)
def y_Cpart (w : g_W) (k : Nat) : Prop := ∀ {J : g_J} {R : g_R} {lb tx ln : Nat} {M : g_I} {o n : Int} {Lf : Int → Int} {s : g_S} {s0 : g_S} {e r : Int}, g_rf w R lb tx → y_env M tx ln o n Lf → (0 ≤ s.1 ∧ s.1 ≤ n) → s.2.1 = -1 → (s.2.2.length : Int) ≤ s.1 → (s0.2.2.length : Int) ≤ s0.1 → (e = 0 ∧ s0 = s ∨ e = 1 ∧ y_res n Lf (6 - (k : Int)) (2 * k + 3) s0 s r s.1 (-1) (6 - (k : Int))) → g_Met w g_n (y_M M s.1 (-1) (6 - (k : Int))) J R yX13_part cX13_part 5 (some .boolean) (11 + 3 * k) 0 0 [gvr w 703, gvI e, gvI r] (y_post w M J R n Lf (6 - (k : Int)) (2 * k + 5) s0 (t_trk (q_by M tx o) n k e s) true)
def y_Ccond (w : g_W) (k : Nat) : Prop := ∀ {J : g_J} {R : g_R} {lb tx ln : Nat} {M : g_I} {o n : Int} {Lf : Int → Int} {s : g_S} {s0 : g_S} {e r : Int}, g_rf w R lb tx → y_env M tx ln o n Lf → (0 ≤ s.1 ∧ s.1 ≤ n) → s.2.1 = -1 → (s.2.2.length : Int) ≤ s.1 → (s0.2.2.length : Int) ≤ s0.1 → (e = 0 ∧ s0 = s ∨ e = 1 ∧ y_res n Lf (6 - (k : Int)) (2 * k + 3) s0 s r s.1 (-1) (6 - (k : Int))) → g_Met w g_n (y_M M s.1 (-1) (6 - (k : Int))) J R yX13_condition cX13_condition 5 (some .boolean) (12 + 3 * k) 0 0 [gvr w 703, gvI e, gvI r] (y_post w M J R n Lf (6 - (k : Int)) (2 * k + 6) s0 (t_cok (q_by M tx o) n k e s) true)
set_option maxHeartbeats 4000000 in
set_option maxRecDepth 100000 in
/-- X13_term -/
theorem y_term (w : g_W) {J : g_J} {R : g_R} {lb tx ln : Nat} (hR : g_rf w R lb tx) {M : g_I} {o n : Int} {Lf : Int → Int} (he : y_env M tx ln o n Lf) {k : Nat} (hk : k ≤ 6) {s : g_S} (hs : 0 ≤ s.1 ∧ s.1 ≤ n) (hq0 : s.2.1 = -1) (hl : (s.2.2.length : Int) ≤ s.1) (hA : y_Catom w k) : g_Met w g_n (y_M M s.1 (-1) (6 - (k : Int))) J R yX13_term cX13_term 5 (some .int) (7 + 3 * k) 0 0 [(gvr w 703)] (y_post w M J R n Lf (6 - (k : Int)) (2 * k + 2) s (t_tek (q_by M tx o) n k s) false) := by
  refine g_intro (own := RX13) [some (gvr w 703), none, none, none, none] (by decide +kernel) rfl (by decide) (Nat.le_of_ble_eq_true rfl) rfl (fun i v hv => g_args 4 i v hv rfl) (fun x hc hm => ?_)
  obtain ⟨⟨he1, he2⟩, ⟨he3, he4, he5⟩, he6, hB, hI, hLt, hat, hx3⟩ := id he
  refine g_aldn hc dX13_term_0 rfl ?_
  refine g_V0 hc (hA hR he hs hq0 hl) my_X13_atom mv_X13_atom ca_703 rfl rfl lm_X13_177 rfl (by omega) (Nat.le_of_ble_eq_true rfl) hm dX13_term_1 (fun rY1 nY1 IY1 JY1 RY1 hpY1 => ?_)
  obtain ⟨rfl, rfl, rfl, v1, a1, q1, d1, rfl, rfl, hy1, hb1⟩ := hpY1
  have hv1 : g32 v1 := hy1.1
  have ha1 : 0 ≤ a1 ∧ a1 ≤ n := hy1.2.1
  have hd1 := hy1.2.2.1
  have hq1 : -1 ≤ q1 ∧ q1 ≤ 240 := hy1.2.2.2.1
  refine g_istore_1 hc dX13_term_4 rfl ?_
  have lp_5 : ∀ (fu : Nat) (v i q e : Int) (s1 : g_S) (m : Nat), y_res n Lf (6 - (k : Int)) (2 * k + 2) s s1 v i q e → t_tek (q_by M tx o) n k s = t_lp (q_by M tx o) n 42 47 (t_atk (q_by M tx o) n k) m s1 → (q = -1 → 240 - (m : Int) ≤ s1.1) → (m : Int) < (fu : Int) → G w x (y_post w M J R n Lf (6 - (k : Int)) (2 * k + 2) s (t_tek (q_by M tx o) n k s) false) 0 0 g_n (y_M M i q e) J R 5 [some (gvr w 703), some (gvI v), none, none, none] [] := by
    intro fu
    induction fu with
    | zero => intro v i q e s1 m hy hF hm2 hfu; exfalso; omega
    | succ fu ih =>
      intro v i q e s1 m hy hF hm2 hfu
      have hv := hy.1
      have hi := hy.2.1
      have hqb := hy.2.2.2.1
      have ih_5 := ih
      refine g_aldn hc dX13_term_5 rfl ?_
      refine g_getIe hc lk_X13_134 ca_703 11 rfl (y_M_q) dX13_term_6 ?_
      refine g_iconst hc dX13_term_9 ?_
      refine g_icmp_ne (tgt := 94) hc dX13_term_10 (by decide) (by first | exact hI _ _ | exact y_sg32 (by omega) hB | exact g_b32 | exact g_and32 | assumption | exact ⟨by omega, by omega⟩) (by first | exact hI _ _ | exact y_sg32 (by omega) hB | exact g_b32 | exact g_and32 | assumption | exact ⟨by omega, by omega⟩) (fun c1 => ?_) (fun c1 => ?_)
      · skip
        refine g_iload_n hc dX13_term_94 rfl ?_
        refine g_iret hc hm dX13_term_95 ?_
        first | (exfalso; omega) | exact y_end (by rw [hF, t_lp_e hi.2 (fun z => by omega) (by show ¬ g_sgn _ _ _ = _; omega) (by show ¬ g_sgn _ _ _ = _; omega)]; exact hy.sk) (fun z => absurd z (by decide)) | exact y_end (by rw [hF]; exact hy.bad (by omega) (pb_lp (by decide) (by decide) m) hy.1 (Int.le_refl _)) (fun z => absurd z (by decide))
      · skip
        have hqz : q = -1 := by omega
        subst hqz
        obtain ⟨hi1, he8, hQ, hss⟩ := hy.at
        subst hi1
        subst he8
        have hl1 := hy.len hl
        have hp := g_pos_in (B := (q_by M tx o)) (len := n) (a := s1.1) hi.2
        have hm3 := hm2 rfl
        refine g_aldn hc dX13_term_13 rfl ?_
        refine g_V0r hc (c_X13_look w hR he (by omega) (by omega) (by omega)) my_X13_look mv_X13_look ca_703 rfl rfl lm_X13_144 rfl (by omega) (Nat.le_of_ble_eq_true rfl) hm dX13_term_14 ?_
        refine g_bipush hc dX13_term_17 (by decide +kernel) ?_
        refine g_icmp_eq (tgt := 31) hc dX13_term_19 (by decide) (by first | exact hI _ _ | exact y_sg32 (by omega) hB | exact g_b32 | exact g_and32 | assumption | exact ⟨by omega, by omega⟩) (by first | exact hI _ _ | exact y_sg32 (by omega) hB | exact g_b32 | exact g_and32 | assumption | exact ⟨by omega, by omega⟩) (fun c2 => ?_) (fun c2 => ?_)
        · skip
          refine g_aldn hc dX13_term_31 rfl ?_
          refine g_V0r hc (c_X13_look w hR he (by omega) (by omega) (by omega)) my_X13_look mv_X13_look ca_703 rfl rfl lm_X13_144 rfl (by omega) (Nat.le_of_ble_eq_true rfl) hm dX13_term_32 ?_
          rw [show g_pos (q_by M tx o) n (g_pos (q_by M tx o) n s1.1) = g_pos (q_by M tx o) n s1.1 from g_pos_pos (by omega), show g_sgn (q_by M tx o) n (g_pos (q_by M tx o) n s1.1) = g_sgn (q_by M tx o) n s1.1 from g_sgn_pos (by omega)]
          refine g_bipush hc dX13_term_35 (by decide +kernel) ?_
          refine g_icmp_ne (tgt := 44) hc dX13_term_37 (by decide) (by first | exact hI _ _ | exact y_sg32 (by omega) hB | exact g_b32 | exact g_and32 | assumption | exact ⟨by omega, by omega⟩) (by first | exact hI _ _ | exact y_sg32 (by omega) hB | exact g_b32 | exact g_and32 | assumption | exact ⟨by omega, by omega⟩) (fun c3 => ?_) (fun c3 => ?_)
          · skip
            refine g_iconst hc dX13_term_44 ?_
            refine g_istore_2 hc dX13_term_45 rfl ?_
            have hlt := y_sgp (B := (q_by M tx o)) (n := n) (a := s1.1) (by omega)
            have hm4 : 0 < m := by omega
            refine g_aldn hc dX13_term_46 rfl ?_
            refine g_dup hc dX13_term_47 rfl ?_
            refine g_getIe hc lk_X13_125 ca_703 10 rfl (y_M_a) dX13_term_48 ?_
            refine g_iconst hc dX13_term_51 ?_
            refine g_iadd hc dX13_term_52 ?_
            refine g_putIe (I2 := (y_M M ((g_pos (q_by M tx o) n s1.1) + 1) (-1) (6 - (k : Int)))) hc lk_X13_125 ca_703 10 rfl y_M_pa dX13_term_53 ?_
            refine g_aldn hc dX13_term_56 rfl ?_
            refine g_V0 hc ((hA hR he (s := (t_adv (t_sk (q_by M tx o) n s1))) ⟨by show 0 ≤ g_pos (q_by M tx o) n s1.1 + 1; omega, by show g_pos (q_by M tx o) n s1.1 + 1 ≤ n; omega⟩ (show s1.2.1 = -1 from hQ) (by show (s1.2.2.length : Int) ≤ g_pos (q_by M tx o) n s1.1 + 1; omega))) my_X13_atom mv_X13_atom ca_703 rfl rfl lm_X13_177 rfl (by omega) (Nat.le_of_ble_eq_true rfl) hm dX13_term_57 (fun rY2 nY2 IY2 JY2 RY2 hpY2 => ?_)
            obtain ⟨rfl, rfl, rfl, v2, a2, q2, d2, rfl, rfl, hy2, hb2⟩ := hpY2
            have hv2 : g32 v2 := hy2.1
            have ha2 : 0 ≤ a2 ∧ a2 ≤ n := hy2.2.1
            have hd2 := hy2.2.2.1
            have hq2 : -1 ≤ q2 ∧ q2 ≤ 240 := hy2.2.2.2.1
            refine g_i2l hc dX13_term_60 hy2.1 ?_
            refine g_lstore_3 hc dX13_term_61 rfl ?_
            have hv2 := hy2.1
            obtain ⟨hva, hvb⟩ := id hv
            obtain ⟨hv2a, hv2b⟩ := id hv2
            have hmul := g_mul64 (l := v) (r := v2) (by omega) (by omega)
            refine g_iload_n hc dX13_term_62 rfl ?_
            refine g_if_eq (tgt := 73) hc dX13_term_63 (by decide) (show g32 _ from ⟨by decide, by decide⟩) (fun c4 => ?_) (fun c4 => ?_)
            · skip
              refine g_lload_n hc dX13_term_73 rfl ?_
              refine g_lconst hc dX13_term_74 0 (by decide +kernel) ?_
              refine g_lcmp hc dX13_term_75 (by exact ⟨by omega, by omega⟩) (by exact ⟨by omega, by omega⟩) ?_
              refine g_if_ne (tgt := 83) hc dX13_term_76 (by decide) (by split <;> first | exact ⟨by decide, by decide⟩ | (split <;> exact ⟨by decide, by decide⟩)) (fun c5 => ?_) (fun c5 => ?_)
              · skip
                have hw0 : ¬ v2 = 0 := by split at c5 <;> first | omega | (split at c5 <;> omega)
                have htd := g_tdiv_in (l := v) (r := v2) (m := 2147483648) (by omega)
                refine g_iload_n hc dX13_term_83 rfl ?_
                refine g_i2l hc dX13_term_84 (by first | exact hI _ _ | exact y_sg32 (by omega) hB | exact g_b32 | exact g_and32 | assumption | exact ⟨by omega, by omega⟩) ?_
                refine g_lload_n hc dX13_term_85 rfl ?_
                refine g_ldiv hc dX13_term_86 (by exact ⟨by omega, by omega⟩) (by exact ⟨by omega, by omega⟩) (by omega) ?_
                refine g_S1r hc (c_X13_within w (by exact ⟨by omega, by omega⟩)) my_X13_within ms_X13_within lm_X13_180 rfl (by omega) (Nat.le_of_ble_eq_true rfl) hm dX13_term_87 ?_
                refine g_istore_1 hc dX13_term_90 rfl ?_
                refine g_goto (tgt := 5) hc dX13_term_91 (by decide) ?_
                refine G_sub (L' := [some (gvr w 703), some (gvI (max (-1000000) (min 1000000 ((v.tdiv v2))))), none, none, none]) (show g_le _ _ from ⟨rfl, ⟨rfl, trivial⟩⟩) ?_
                refine ih_5 _ _ _ _ (t_put (-(g_sgn (q_by M tx o) n s1.1)) (t_atk (q_by M tx o) n k (t_adv (t_sk (q_by M tx o) n s1)))) (m - 1) ?_ ?_ ?_ ?_
                · have hop := hy.op (s2 := (t_adv (t_sk (q_by M tx o) n s1))) hl he6.2 rfl (by show s1.1 + 1 ≤ g_pos (q_by M tx o) n s1.1 + 1; omega) hy2 (by omega) (op := g_sgn (q_by M tx o) n s1.1) (by omega)
                  rw [show g_jn (g_sgn (q_by M tx o) n s1.1) v v2 = max (-1000000) (min 1000000 ((v.tdiv v2))) by rw [show g_sgn (q_by M tx o) n s1.1 = 47 by omega, g_jn47, if_neg hw0]] at hop
                  exact hop
                · rw [hF, t_lp_s (op := g_sgn (q_by M tx o) n s1.1) (by omega) rfl (by omega)]
                · intro z; subst z; have h9 := hy2.at; have h7 : g_pos (q_by M tx o) n s1.1 + 1 ≤ _ := h9.2.2.2; show 240 - ((m - 1 : Nat) : Int) ≤ (t_atk (q_by M tx o) n k (t_adv (t_sk (q_by M tx o) n s1))).1; omega
                · omega
              · skip
                have hw0 : v2 = 0 := by split at c5 <;> first | omega | (split at c5 <;> omega)
                refine g_lconst hc dX13_term_79 0 (by decide +kernel) ?_
                refine g_goto (tgt := 87) hc dX13_term_80 (by decide) ?_
                refine g_S1r hc (c_X13_within w (by exact ⟨by omega, by omega⟩)) my_X13_within ms_X13_within lm_X13_180 rfl (by omega) (Nat.le_of_ble_eq_true rfl) hm dX13_term_87 ?_
                refine g_istore_1 hc dX13_term_90 rfl ?_
                refine g_goto (tgt := 5) hc dX13_term_91 (by decide) ?_
                refine G_sub (L' := [some (gvr w 703), some (gvI (max (-1000000) (min 1000000 (0)))), none, none, none]) (show g_le _ _ from ⟨rfl, ⟨rfl, trivial⟩⟩) ?_
                refine ih_5 _ _ _ _ (t_put (-(g_sgn (q_by M tx o) n s1.1)) (t_atk (q_by M tx o) n k (t_adv (t_sk (q_by M tx o) n s1)))) (m - 1) ?_ ?_ ?_ ?_
                · have hop := hy.op (s2 := (t_adv (t_sk (q_by M tx o) n s1))) hl he6.2 rfl (by show s1.1 + 1 ≤ g_pos (q_by M tx o) n s1.1 + 1; omega) hy2 (by omega) (op := g_sgn (q_by M tx o) n s1.1) (by omega)
                  rw [show g_jn (g_sgn (q_by M tx o) n s1.1) v v2 = max (-1000000) (min 1000000 (0)) by rw [show g_sgn (q_by M tx o) n s1.1 = 47 by omega, g_jn47, if_pos hw0]] at hop
                  exact hop
                · rw [hF, t_lp_s (op := g_sgn (q_by M tx o) n s1.1) (by omega) rfl (by omega)]
                · intro z; subst z; have h9 := hy2.at; have h7 : g_pos (q_by M tx o) n s1.1 + 1 ≤ _ := h9.2.2.2; show 240 - ((m - 1 : Nat) : Int) ≤ (t_atk (q_by M tx o) n k (t_adv (t_sk (q_by M tx o) n s1))).1; omega
                · omega
            · exfalso; omega
          · skip
            refine g_iconst hc dX13_term_40 ?_
            refine g_goto (tgt := 45) hc dX13_term_41 (by decide) ?_
            refine g_istore_2 hc dX13_term_45 rfl ?_
            have hlt := y_sgp (B := (q_by M tx o)) (n := n) (a := s1.1) (by omega)
            have hm4 : 0 < m := by omega
            refine g_aldn hc dX13_term_46 rfl ?_
            refine g_dup hc dX13_term_47 rfl ?_
            refine g_getIe hc lk_X13_125 ca_703 10 rfl (y_M_a) dX13_term_48 ?_
            refine g_iconst hc dX13_term_51 ?_
            refine g_iadd hc dX13_term_52 ?_
            refine g_putIe (I2 := (y_M M ((g_pos (q_by M tx o) n s1.1) + 1) (-1) (6 - (k : Int)))) hc lk_X13_125 ca_703 10 rfl y_M_pa dX13_term_53 ?_
            refine g_aldn hc dX13_term_56 rfl ?_
            refine g_V0 hc ((hA hR he (s := (t_adv (t_sk (q_by M tx o) n s1))) ⟨by show 0 ≤ g_pos (q_by M tx o) n s1.1 + 1; omega, by show g_pos (q_by M tx o) n s1.1 + 1 ≤ n; omega⟩ (show s1.2.1 = -1 from hQ) (by show (s1.2.2.length : Int) ≤ g_pos (q_by M tx o) n s1.1 + 1; omega))) my_X13_atom mv_X13_atom ca_703 rfl rfl lm_X13_177 rfl (by omega) (Nat.le_of_ble_eq_true rfl) hm dX13_term_57 (fun rY2 nY2 IY2 JY2 RY2 hpY2 => ?_)
            obtain ⟨rfl, rfl, rfl, v2, a2, q2, d2, rfl, rfl, hy2, hb2⟩ := hpY2
            have hv2 : g32 v2 := hy2.1
            have ha2 : 0 ≤ a2 ∧ a2 ≤ n := hy2.2.1
            have hd2 := hy2.2.2.1
            have hq2 : -1 ≤ q2 ∧ q2 ≤ 240 := hy2.2.2.2.1
            refine g_i2l hc dX13_term_60 hy2.1 ?_
            refine g_lstore_3 hc dX13_term_61 rfl ?_
            have hv2 := hy2.1
            obtain ⟨hva, hvb⟩ := id hv
            obtain ⟨hv2a, hv2b⟩ := id hv2
            have hmul := g_mul64 (l := v) (r := v2) (by omega) (by omega)
            refine g_iload_n hc dX13_term_62 rfl ?_
            refine g_if_eq (tgt := 73) hc dX13_term_63 (by decide) (show g32 _ from ⟨by decide, by decide⟩) (fun c6 => ?_) (fun c6 => ?_)
            · exfalso; omega
            · skip
              refine g_iload_n hc dX13_term_66 rfl ?_
              refine g_i2l hc dX13_term_67 (by first | exact hI _ _ | exact y_sg32 (by omega) hB | exact g_b32 | exact g_and32 | assumption | exact ⟨by omega, by omega⟩) ?_
              refine g_lload_n hc dX13_term_68 rfl ?_
              refine g_lmul hc dX13_term_69 ?_
              refine g_goto (tgt := 87) hc dX13_term_70 (by decide) ?_
              refine g_S1r hc (c_X13_within w (by exact ⟨by omega, by omega⟩)) my_X13_within ms_X13_within lm_X13_180 rfl (by omega) (Nat.le_of_ble_eq_true rfl) hm dX13_term_87 ?_
              refine g_istore_1 hc dX13_term_90 rfl ?_
              refine g_goto (tgt := 5) hc dX13_term_91 (by decide) ?_
              refine G_sub (L' := [some (gvr w 703), some (gvI (max (-1000000) (min 1000000 ((v * v2))))), none, none, none]) (show g_le _ _ from ⟨rfl, ⟨rfl, trivial⟩⟩) ?_
              refine ih_5 _ _ _ _ (t_put (-(g_sgn (q_by M tx o) n s1.1)) (t_atk (q_by M tx o) n k (t_adv (t_sk (q_by M tx o) n s1)))) (m - 1) ?_ ?_ ?_ ?_
              · have hop := hy.op (s2 := (t_adv (t_sk (q_by M tx o) n s1))) hl he6.2 rfl (by show s1.1 + 1 ≤ g_pos (q_by M tx o) n s1.1 + 1; omega) hy2 (by omega) (op := g_sgn (q_by M tx o) n s1.1) (by omega)
                rw [show g_jn (g_sgn (q_by M tx o) n s1.1) v v2 = max (-1000000) (min 1000000 ((v * v2))) by rw [show g_sgn (q_by M tx o) n s1.1 = 42 by omega, g_jn42]] at hop
                exact hop
              · rw [hF, t_lp_s (op := g_sgn (q_by M tx o) n s1.1) (by omega) rfl (by omega)]
              · intro z; subst z; have h9 := hy2.at; have h7 : g_pos (q_by M tx o) n s1.1 + 1 ≤ _ := h9.2.2.2; show 240 - ((m - 1 : Nat) : Int) ≤ (t_atk (q_by M tx o) n k (t_adv (t_sk (q_by M tx o) n s1))).1; omega
              · omega
        · skip
          refine g_aldn hc dX13_term_22 rfl ?_
          refine g_V0r hc (c_X13_look w hR he (by omega) (by omega) (by omega)) my_X13_look mv_X13_look ca_703 rfl rfl lm_X13_144 rfl (by omega) (Nat.le_of_ble_eq_true rfl) hm dX13_term_23 ?_
          rw [show g_pos (q_by M tx o) n (g_pos (q_by M tx o) n s1.1) = g_pos (q_by M tx o) n s1.1 from g_pos_pos (by omega), show g_sgn (q_by M tx o) n (g_pos (q_by M tx o) n s1.1) = g_sgn (q_by M tx o) n s1.1 from g_sgn_pos (by omega)]
          refine g_bipush hc dX13_term_26 (by decide +kernel) ?_
          refine g_icmp_ne (tgt := 94) hc dX13_term_28 (by decide) (by first | exact hI _ _ | exact y_sg32 (by omega) hB | exact g_b32 | exact g_and32 | assumption | exact ⟨by omega, by omega⟩) (by first | exact hI _ _ | exact y_sg32 (by omega) hB | exact g_b32 | exact g_and32 | assumption | exact ⟨by omega, by omega⟩) (fun c7 => ?_) (fun c7 => ?_)
          · skip
            refine g_iload_n hc dX13_term_94 rfl ?_
            refine g_iret hc hm dX13_term_95 ?_
            first | (exfalso; omega) | exact y_end (by rw [hF, t_lp_e hi.2 (fun z => by omega) (by show ¬ g_sgn _ _ _ = _; omega) (by show ¬ g_sgn _ _ _ = _; omega)]; exact hy.sk) (fun z => absurd z (by decide)) | exact y_end (by rw [hF]; exact hy.bad (by omega) (pb_lp (by decide) (by decide) m) hy.1 (Int.le_refl _)) (fun z => absurd z (by decide))
          · skip
            refine g_aldn hc dX13_term_31 rfl ?_
            refine g_V0r hc (c_X13_look w hR he (by omega) (by omega) (by omega)) my_X13_look mv_X13_look ca_703 rfl rfl lm_X13_144 rfl (by omega) (Nat.le_of_ble_eq_true rfl) hm dX13_term_32 ?_
            rw [show g_pos (q_by M tx o) n (g_pos (q_by M tx o) n s1.1) = g_pos (q_by M tx o) n s1.1 from g_pos_pos (by omega), show g_sgn (q_by M tx o) n (g_pos (q_by M tx o) n s1.1) = g_sgn (q_by M tx o) n s1.1 from g_sgn_pos (by omega)]
            refine g_bipush hc dX13_term_35 (by decide +kernel) ?_
            refine g_icmp_ne (tgt := 44) hc dX13_term_37 (by decide) (by first | exact hI _ _ | exact y_sg32 (by omega) hB | exact g_b32 | exact g_and32 | assumption | exact ⟨by omega, by omega⟩) (by first | exact hI _ _ | exact y_sg32 (by omega) hB | exact g_b32 | exact g_and32 | assumption | exact ⟨by omega, by omega⟩) (fun c8 => ?_) (fun c8 => ?_)
            · skip
              refine g_iconst hc dX13_term_44 ?_
              refine g_istore_2 hc dX13_term_45 rfl ?_
              have hlt := y_sgp (B := (q_by M tx o)) (n := n) (a := s1.1) (by omega)
              have hm4 : 0 < m := by omega
              refine g_aldn hc dX13_term_46 rfl ?_
              refine g_dup hc dX13_term_47 rfl ?_
              refine g_getIe hc lk_X13_125 ca_703 10 rfl (y_M_a) dX13_term_48 ?_
              refine g_iconst hc dX13_term_51 ?_
              refine g_iadd hc dX13_term_52 ?_
              refine g_putIe (I2 := (y_M M ((g_pos (q_by M tx o) n s1.1) + 1) (-1) (6 - (k : Int)))) hc lk_X13_125 ca_703 10 rfl y_M_pa dX13_term_53 ?_
              refine g_aldn hc dX13_term_56 rfl ?_
              refine g_V0 hc ((hA hR he (s := (t_adv (t_sk (q_by M tx o) n s1))) ⟨by show 0 ≤ g_pos (q_by M tx o) n s1.1 + 1; omega, by show g_pos (q_by M tx o) n s1.1 + 1 ≤ n; omega⟩ (show s1.2.1 = -1 from hQ) (by show (s1.2.2.length : Int) ≤ g_pos (q_by M tx o) n s1.1 + 1; omega))) my_X13_atom mv_X13_atom ca_703 rfl rfl lm_X13_177 rfl (by omega) (Nat.le_of_ble_eq_true rfl) hm dX13_term_57 (fun rY2 nY2 IY2 JY2 RY2 hpY2 => ?_)
              obtain ⟨rfl, rfl, rfl, v2, a2, q2, d2, rfl, rfl, hy2, hb2⟩ := hpY2
              have hv2 : g32 v2 := hy2.1
              have ha2 : 0 ≤ a2 ∧ a2 ≤ n := hy2.2.1
              have hd2 := hy2.2.2.1
              have hq2 : -1 ≤ q2 ∧ q2 ≤ 240 := hy2.2.2.2.1
              refine g_i2l hc dX13_term_60 hy2.1 ?_
              refine g_lstore_3 hc dX13_term_61 rfl ?_
              have hv2 := hy2.1
              obtain ⟨hva, hvb⟩ := id hv
              obtain ⟨hv2a, hv2b⟩ := id hv2
              have hmul := g_mul64 (l := v) (r := v2) (by omega) (by omega)
              refine g_iload_n hc dX13_term_62 rfl ?_
              refine g_if_eq (tgt := 73) hc dX13_term_63 (by decide) (show g32 _ from ⟨by decide, by decide⟩) (fun c9 => ?_) (fun c9 => ?_)
              · skip
                refine g_lload_n hc dX13_term_73 rfl ?_
                refine g_lconst hc dX13_term_74 0 (by decide +kernel) ?_
                refine g_lcmp hc dX13_term_75 (by exact ⟨by omega, by omega⟩) (by exact ⟨by omega, by omega⟩) ?_
                refine g_if_ne (tgt := 83) hc dX13_term_76 (by decide) (by split <;> first | exact ⟨by decide, by decide⟩ | (split <;> exact ⟨by decide, by decide⟩)) (fun c10 => ?_) (fun c10 => ?_)
                · skip
                  have hw0 : ¬ v2 = 0 := by split at c10 <;> first | omega | (split at c10 <;> omega)
                  have htd := g_tdiv_in (l := v) (r := v2) (m := 2147483648) (by omega)
                  refine g_iload_n hc dX13_term_83 rfl ?_
                  refine g_i2l hc dX13_term_84 (by first | exact hI _ _ | exact y_sg32 (by omega) hB | exact g_b32 | exact g_and32 | assumption | exact ⟨by omega, by omega⟩) ?_
                  refine g_lload_n hc dX13_term_85 rfl ?_
                  refine g_ldiv hc dX13_term_86 (by exact ⟨by omega, by omega⟩) (by exact ⟨by omega, by omega⟩) (by omega) ?_
                  refine g_S1r hc (c_X13_within w (by exact ⟨by omega, by omega⟩)) my_X13_within ms_X13_within lm_X13_180 rfl (by omega) (Nat.le_of_ble_eq_true rfl) hm dX13_term_87 ?_
                  refine g_istore_1 hc dX13_term_90 rfl ?_
                  refine g_goto (tgt := 5) hc dX13_term_91 (by decide) ?_
                  refine G_sub (L' := [some (gvr w 703), some (gvI (max (-1000000) (min 1000000 ((v.tdiv v2))))), none, none, none]) (show g_le _ _ from ⟨rfl, ⟨rfl, trivial⟩⟩) ?_
                  refine ih_5 _ _ _ _ (t_put (-(g_sgn (q_by M tx o) n s1.1)) (t_atk (q_by M tx o) n k (t_adv (t_sk (q_by M tx o) n s1)))) (m - 1) ?_ ?_ ?_ ?_
                  · have hop := hy.op (s2 := (t_adv (t_sk (q_by M tx o) n s1))) hl he6.2 rfl (by show s1.1 + 1 ≤ g_pos (q_by M tx o) n s1.1 + 1; omega) hy2 (by omega) (op := g_sgn (q_by M tx o) n s1.1) (by omega)
                    rw [show g_jn (g_sgn (q_by M tx o) n s1.1) v v2 = max (-1000000) (min 1000000 ((v.tdiv v2))) by rw [show g_sgn (q_by M tx o) n s1.1 = 47 by omega, g_jn47, if_neg hw0]] at hop
                    exact hop
                  · rw [hF, t_lp_s (op := g_sgn (q_by M tx o) n s1.1) (by omega) rfl (by omega)]
                  · intro z; subst z; have h9 := hy2.at; have h7 : g_pos (q_by M tx o) n s1.1 + 1 ≤ _ := h9.2.2.2; show 240 - ((m - 1 : Nat) : Int) ≤ (t_atk (q_by M tx o) n k (t_adv (t_sk (q_by M tx o) n s1))).1; omega
                  · omega
                · skip
                  have hw0 : v2 = 0 := by split at c10 <;> first | omega | (split at c10 <;> omega)
                  refine g_lconst hc dX13_term_79 0 (by decide +kernel) ?_
                  refine g_goto (tgt := 87) hc dX13_term_80 (by decide) ?_
                  refine g_S1r hc (c_X13_within w (by exact ⟨by omega, by omega⟩)) my_X13_within ms_X13_within lm_X13_180 rfl (by omega) (Nat.le_of_ble_eq_true rfl) hm dX13_term_87 ?_
                  refine g_istore_1 hc dX13_term_90 rfl ?_
                  refine g_goto (tgt := 5) hc dX13_term_91 (by decide) ?_
                  refine G_sub (L' := [some (gvr w 703), some (gvI (max (-1000000) (min 1000000 (0)))), none, none, none]) (show g_le _ _ from ⟨rfl, ⟨rfl, trivial⟩⟩) ?_
                  refine ih_5 _ _ _ _ (t_put (-(g_sgn (q_by M tx o) n s1.1)) (t_atk (q_by M tx o) n k (t_adv (t_sk (q_by M tx o) n s1)))) (m - 1) ?_ ?_ ?_ ?_
                  · have hop := hy.op (s2 := (t_adv (t_sk (q_by M tx o) n s1))) hl he6.2 rfl (by show s1.1 + 1 ≤ g_pos (q_by M tx o) n s1.1 + 1; omega) hy2 (by omega) (op := g_sgn (q_by M tx o) n s1.1) (by omega)
                    rw [show g_jn (g_sgn (q_by M tx o) n s1.1) v v2 = max (-1000000) (min 1000000 (0)) by rw [show g_sgn (q_by M tx o) n s1.1 = 47 by omega, g_jn47, if_pos hw0]] at hop
                    exact hop
                  · rw [hF, t_lp_s (op := g_sgn (q_by M tx o) n s1.1) (by omega) rfl (by omega)]
                  · intro z; subst z; have h9 := hy2.at; have h7 : g_pos (q_by M tx o) n s1.1 + 1 ≤ _ := h9.2.2.2; show 240 - ((m - 1 : Nat) : Int) ≤ (t_atk (q_by M tx o) n k (t_adv (t_sk (q_by M tx o) n s1))).1; omega
                  · omega
              · exfalso; omega
            · skip
              refine g_iconst hc dX13_term_40 ?_
              refine g_goto (tgt := 45) hc dX13_term_41 (by decide) ?_
              refine g_istore_2 hc dX13_term_45 rfl ?_
              have hlt := y_sgp (B := (q_by M tx o)) (n := n) (a := s1.1) (by omega)
              have hm4 : 0 < m := by omega
              refine g_aldn hc dX13_term_46 rfl ?_
              refine g_dup hc dX13_term_47 rfl ?_
              refine g_getIe hc lk_X13_125 ca_703 10 rfl (y_M_a) dX13_term_48 ?_
              refine g_iconst hc dX13_term_51 ?_
              refine g_iadd hc dX13_term_52 ?_
              refine g_putIe (I2 := (y_M M ((g_pos (q_by M tx o) n s1.1) + 1) (-1) (6 - (k : Int)))) hc lk_X13_125 ca_703 10 rfl y_M_pa dX13_term_53 ?_
              refine g_aldn hc dX13_term_56 rfl ?_
              refine g_V0 hc ((hA hR he (s := (t_adv (t_sk (q_by M tx o) n s1))) ⟨by show 0 ≤ g_pos (q_by M tx o) n s1.1 + 1; omega, by show g_pos (q_by M tx o) n s1.1 + 1 ≤ n; omega⟩ (show s1.2.1 = -1 from hQ) (by show (s1.2.2.length : Int) ≤ g_pos (q_by M tx o) n s1.1 + 1; omega))) my_X13_atom mv_X13_atom ca_703 rfl rfl lm_X13_177 rfl (by omega) (Nat.le_of_ble_eq_true rfl) hm dX13_term_57 (fun rY2 nY2 IY2 JY2 RY2 hpY2 => ?_)
              obtain ⟨rfl, rfl, rfl, v2, a2, q2, d2, rfl, rfl, hy2, hb2⟩ := hpY2
              have hv2 : g32 v2 := hy2.1
              have ha2 : 0 ≤ a2 ∧ a2 ≤ n := hy2.2.1
              have hd2 := hy2.2.2.1
              have hq2 : -1 ≤ q2 ∧ q2 ≤ 240 := hy2.2.2.2.1
              refine g_i2l hc dX13_term_60 hy2.1 ?_
              refine g_lstore_3 hc dX13_term_61 rfl ?_
              have hv2 := hy2.1
              obtain ⟨hva, hvb⟩ := id hv
              obtain ⟨hv2a, hv2b⟩ := id hv2
              have hmul := g_mul64 (l := v) (r := v2) (by omega) (by omega)
              refine g_iload_n hc dX13_term_62 rfl ?_
              refine g_if_eq (tgt := 73) hc dX13_term_63 (by decide) (show g32 _ from ⟨by decide, by decide⟩) (fun c11 => ?_) (fun c11 => ?_)
              · exfalso; omega
              · skip
                refine g_iload_n hc dX13_term_66 rfl ?_
                refine g_i2l hc dX13_term_67 (by first | exact hI _ _ | exact y_sg32 (by omega) hB | exact g_b32 | exact g_and32 | assumption | exact ⟨by omega, by omega⟩) ?_
                refine g_lload_n hc dX13_term_68 rfl ?_
                refine g_lmul hc dX13_term_69 ?_
                refine g_goto (tgt := 87) hc dX13_term_70 (by decide) ?_
                refine g_S1r hc (c_X13_within w (by exact ⟨by omega, by omega⟩)) my_X13_within ms_X13_within lm_X13_180 rfl (by omega) (Nat.le_of_ble_eq_true rfl) hm dX13_term_87 ?_
                refine g_istore_1 hc dX13_term_90 rfl ?_
                refine g_goto (tgt := 5) hc dX13_term_91 (by decide) ?_
                refine G_sub (L' := [some (gvr w 703), some (gvI (max (-1000000) (min 1000000 ((v * v2))))), none, none, none]) (show g_le _ _ from ⟨rfl, ⟨rfl, trivial⟩⟩) ?_
                refine ih_5 _ _ _ _ (t_put (-(g_sgn (q_by M tx o) n s1.1)) (t_atk (q_by M tx o) n k (t_adv (t_sk (q_by M tx o) n s1)))) (m - 1) ?_ ?_ ?_ ?_
                · have hop := hy.op (s2 := (t_adv (t_sk (q_by M tx o) n s1))) hl he6.2 rfl (by show s1.1 + 1 ≤ g_pos (q_by M tx o) n s1.1 + 1; omega) hy2 (by omega) (op := g_sgn (q_by M tx o) n s1.1) (by omega)
                  rw [show g_jn (g_sgn (q_by M tx o) n s1.1) v v2 = max (-1000000) (min 1000000 ((v * v2))) by rw [show g_sgn (q_by M tx o) n s1.1 = 42 by omega, g_jn42]] at hop
                  exact hop
                · rw [hF, t_lp_s (op := g_sgn (q_by M tx o) n s1.1) (by omega) rfl (by omega)]
                · intro z; subst z; have h9 := hy2.at; have h7 : g_pos (q_by M tx o) n s1.1 + 1 ≤ _ := h9.2.2.2; show 240 - ((m - 1 : Nat) : Int) ≤ (t_atk (q_by M tx o) n k (t_adv (t_sk (q_by M tx o) n s1))).1; omega
                · omega
  refine lp_5 241 _ _ _ _ (t_atk (q_by M tx o) n k s) 240 ?_ ?_ ?_ (?_)
  · exact hy1.mono (by omega)
  · rfl
  · intro z; subst z; have := hy1.at; omega
  · decide
set_option maxHeartbeats 4000000 in
set_option maxRecDepth 100000 in
/-- X13_sum -/
theorem y_sum (w : g_W) {J : g_J} {R : g_R} {lb tx ln : Nat} (hR : g_rf w R lb tx) {M : g_I} {o n : Int} {Lf : Int → Int} (he : y_env M tx ln o n Lf) {k : Nat} (hk : k ≤ 6) {s : g_S} (hs : 0 ≤ s.1 ∧ s.1 ≤ n) (hq0 : s.2.1 = -1) (hl : (s.2.2.length : Int) ≤ s.1) (hA : y_Cterm w k) : g_Met w g_n (y_M M s.1 (-1) (6 - (k : Int))) J R yX13_sum cX13_sum 5 (some .int) (8 + 3 * k) 0 0 [(gvr w 703)] (y_post w M J R n Lf (6 - (k : Int)) (2 * k + 3) s (t_suk (q_by M tx o) n k s) false) := by
  refine g_intro (own := RX13) [some (gvr w 703), none, none, none, none] (by decide +kernel) rfl (by decide) (Nat.le_of_ble_eq_true rfl) rfl (fun i v hv => g_args 4 i v hv rfl) (fun x hc hm => ?_)
  obtain ⟨⟨he1, he2⟩, ⟨he3, he4, he5⟩, he6, hB, hI, hLt, hat, hx3⟩ := id he
  refine g_aldn hc dX13_sum_0 rfl ?_
  refine g_V0 hc (hA hR he hs hq0 hl) my_X13_term mv_X13_term ca_703 rfl rfl lm_X13_184 rfl (by omega) (Nat.le_of_ble_eq_true rfl) hm dX13_sum_1 (fun rY1 nY1 IY1 JY1 RY1 hpY1 => ?_)
  obtain ⟨rfl, rfl, rfl, v1, a1, q1, d1, rfl, rfl, hy1, hb1⟩ := hpY1
  have hv1 : g32 v1 := hy1.1
  have ha1 : 0 ≤ a1 ∧ a1 ≤ n := hy1.2.1
  have hd1 := hy1.2.2.1
  have hq1 : -1 ≤ q1 ∧ q1 ≤ 240 := hy1.2.2.2.1
  refine g_istore_1 hc dX13_sum_4 rfl ?_
  have lp_5 : ∀ (fu : Nat) (v i q e : Int) (s1 : g_S) (m : Nat), y_res n Lf (6 - (k : Int)) (2 * k + 3) s s1 v i q e → t_suk (q_by M tx o) n k s = t_lp (q_by M tx o) n 43 45 (t_tek (q_by M tx o) n k) m s1 → (q = -1 → 240 - (m : Int) ≤ s1.1) → (m : Int) < (fu : Int) → G w x (y_post w M J R n Lf (6 - (k : Int)) (2 * k + 3) s (t_suk (q_by M tx o) n k s) false) 0 0 g_n (y_M M i q e) J R 5 [some (gvr w 703), some (gvI v), none, none, none] [] := by
    intro fu
    induction fu with
    | zero => intro v i q e s1 m hy hF hm2 hfu; exfalso; omega
    | succ fu ih =>
      intro v i q e s1 m hy hF hm2 hfu
      have hv := hy.1
      have hi := hy.2.1
      have hqb := hy.2.2.2.1
      have ih_5 := ih
      refine g_aldn hc dX13_sum_5 rfl ?_
      refine g_getIe hc lk_X13_134 ca_703 11 rfl (y_M_q) dX13_sum_6 ?_
      refine g_iconst hc dX13_sum_9 ?_
      refine g_icmp_ne (tgt := 84) hc dX13_sum_10 (by decide) (by first | exact hI _ _ | exact y_sg32 (by omega) hB | exact g_b32 | exact g_and32 | assumption | exact ⟨by omega, by omega⟩) (by first | exact hI _ _ | exact y_sg32 (by omega) hB | exact g_b32 | exact g_and32 | assumption | exact ⟨by omega, by omega⟩) (fun c1 => ?_) (fun c1 => ?_)
      · skip
        refine g_iload_n hc dX13_sum_84 rfl ?_
        refine g_iret hc hm dX13_sum_85 ?_
        first | (exfalso; omega) | exact y_end (by rw [hF, t_lp_e hi.2 (fun z => by omega) (by show ¬ g_sgn _ _ _ = _; omega) (by show ¬ g_sgn _ _ _ = _; omega)]; exact hy.sk) (fun z => absurd z (by decide)) | exact y_end (by rw [hF]; exact hy.bad (by omega) (pb_lp (by decide) (by decide) m) hy.1 (Int.le_refl _)) (fun z => absurd z (by decide))
      · skip
        have hqz : q = -1 := by omega
        subst hqz
        obtain ⟨hi1, he8, hQ, hss⟩ := hy.at
        subst hi1
        subst he8
        have hl1 := hy.len hl
        have hp := g_pos_in (B := (q_by M tx o)) (len := n) (a := s1.1) hi.2
        have hm3 := hm2 rfl
        refine g_aldn hc dX13_sum_13 rfl ?_
        refine g_V0r hc (c_X13_look w hR he (by omega) (by omega) (by omega)) my_X13_look mv_X13_look ca_703 rfl rfl lm_X13_144 rfl (by omega) (Nat.le_of_ble_eq_true rfl) hm dX13_sum_14 ?_
        refine g_bipush hc dX13_sum_17 (by decide +kernel) ?_
        refine g_icmp_eq (tgt := 31) hc dX13_sum_19 (by decide) (by first | exact hI _ _ | exact y_sg32 (by omega) hB | exact g_b32 | exact g_and32 | assumption | exact ⟨by omega, by omega⟩) (by first | exact hI _ _ | exact y_sg32 (by omega) hB | exact g_b32 | exact g_and32 | assumption | exact ⟨by omega, by omega⟩) (fun c2 => ?_) (fun c2 => ?_)
        · skip
          refine g_aldn hc dX13_sum_31 rfl ?_
          refine g_V0r hc (c_X13_look w hR he (by omega) (by omega) (by omega)) my_X13_look mv_X13_look ca_703 rfl rfl lm_X13_144 rfl (by omega) (Nat.le_of_ble_eq_true rfl) hm dX13_sum_32 ?_
          rw [show g_pos (q_by M tx o) n (g_pos (q_by M tx o) n s1.1) = g_pos (q_by M tx o) n s1.1 from g_pos_pos (by omega), show g_sgn (q_by M tx o) n (g_pos (q_by M tx o) n s1.1) = g_sgn (q_by M tx o) n s1.1 from g_sgn_pos (by omega)]
          refine g_bipush hc dX13_sum_35 (by decide +kernel) ?_
          refine g_icmp_ne (tgt := 44) hc dX13_sum_37 (by decide) (by first | exact hI _ _ | exact y_sg32 (by omega) hB | exact g_b32 | exact g_and32 | assumption | exact ⟨by omega, by omega⟩) (by first | exact hI _ _ | exact y_sg32 (by omega) hB | exact g_b32 | exact g_and32 | assumption | exact ⟨by omega, by omega⟩) (fun c3 => ?_) (fun c3 => ?_)
          · skip
            refine g_iconst hc dX13_sum_44 ?_
            refine g_istore_2 hc dX13_sum_45 rfl ?_
            have hlt := y_sgp (B := (q_by M tx o)) (n := n) (a := s1.1) (by omega)
            have hm4 : 0 < m := by omega
            refine g_aldn hc dX13_sum_46 rfl ?_
            refine g_dup hc dX13_sum_47 rfl ?_
            refine g_getIe hc lk_X13_125 ca_703 10 rfl (y_M_a) dX13_sum_48 ?_
            refine g_iconst hc dX13_sum_51 ?_
            refine g_iadd hc dX13_sum_52 ?_
            refine g_putIe (I2 := (y_M M ((g_pos (q_by M tx o) n s1.1) + 1) (-1) (6 - (k : Int)))) hc lk_X13_125 ca_703 10 rfl y_M_pa dX13_sum_53 ?_
            refine g_aldn hc dX13_sum_56 rfl ?_
            refine g_V0 hc ((hA hR he (s := (t_adv (t_sk (q_by M tx o) n s1))) ⟨by show 0 ≤ g_pos (q_by M tx o) n s1.1 + 1; omega, by show g_pos (q_by M tx o) n s1.1 + 1 ≤ n; omega⟩ (show s1.2.1 = -1 from hQ) (by show (s1.2.2.length : Int) ≤ g_pos (q_by M tx o) n s1.1 + 1; omega))) my_X13_term mv_X13_term ca_703 rfl rfl lm_X13_184 rfl (by omega) (Nat.le_of_ble_eq_true rfl) hm dX13_sum_57 (fun rY2 nY2 IY2 JY2 RY2 hpY2 => ?_)
            obtain ⟨rfl, rfl, rfl, v2, a2, q2, d2, rfl, rfl, hy2, hb2⟩ := hpY2
            have hv2 : g32 v2 := hy2.1
            have ha2 : 0 ≤ a2 ∧ a2 ≤ n := hy2.2.1
            have hd2 := hy2.2.2.1
            have hq2 : -1 ≤ q2 ∧ q2 ≤ 240 := hy2.2.2.2.1
            refine g_i2l hc dX13_sum_60 hy2.1 ?_
            refine g_lstore_3 hc dX13_sum_61 rfl ?_
            have hv2 := hy2.1
            obtain ⟨hva, hvb⟩ := id hv
            obtain ⟨hv2a, hv2b⟩ := id hv2
            have hmul := g_mul64 (l := v) (r := v2) (by omega) (by omega)
            refine g_iload_n hc dX13_sum_62 rfl ?_
            refine g_if_eq (tgt := 73) hc dX13_sum_63 (by decide) (show g32 _ from ⟨by decide, by decide⟩) (fun c4 => ?_) (fun c4 => ?_)
            · skip
              refine g_iload_n hc dX13_sum_73 rfl ?_
              refine g_i2l hc dX13_sum_74 (by first | exact hI _ _ | exact y_sg32 (by omega) hB | exact g_b32 | exact g_and32 | assumption | exact ⟨by omega, by omega⟩) ?_
              refine g_lload_n hc dX13_sum_75 rfl ?_
              refine g_lsub hc dX13_sum_76 ?_
              refine g_S1r hc (c_X13_within w (by exact ⟨by omega, by omega⟩)) my_X13_within ms_X13_within lm_X13_180 rfl (by omega) (Nat.le_of_ble_eq_true rfl) hm dX13_sum_77 ?_
              refine g_istore_1 hc dX13_sum_80 rfl ?_
              refine g_goto (tgt := 5) hc dX13_sum_81 (by decide) ?_
              refine G_sub (L' := [some (gvr w 703), some (gvI (max (-1000000) (min 1000000 ((v - v2))))), none, none, none]) (show g_le _ _ from ⟨rfl, ⟨rfl, trivial⟩⟩) ?_
              refine ih_5 _ _ _ _ (t_put (-(g_sgn (q_by M tx o) n s1.1)) (t_tek (q_by M tx o) n k (t_adv (t_sk (q_by M tx o) n s1)))) (m - 1) ?_ ?_ ?_ ?_
              · have hop := hy.op (s2 := (t_adv (t_sk (q_by M tx o) n s1))) hl he6.2 rfl (by show s1.1 + 1 ≤ g_pos (q_by M tx o) n s1.1 + 1; omega) hy2 (by omega) (op := g_sgn (q_by M tx o) n s1.1) (by omega)
                rw [show g_jn (g_sgn (q_by M tx o) n s1.1) v v2 = max (-1000000) (min 1000000 ((v - v2))) by rw [show g_sgn (q_by M tx o) n s1.1 = 45 by omega, g_jn45]] at hop
                exact hop
              · rw [hF, t_lp_s (op := g_sgn (q_by M tx o) n s1.1) (by omega) rfl (by omega)]
              · intro z; subst z; have h9 := hy2.at; have h7 : g_pos (q_by M tx o) n s1.1 + 1 ≤ _ := h9.2.2.2; show 240 - ((m - 1 : Nat) : Int) ≤ (t_tek (q_by M tx o) n k (t_adv (t_sk (q_by M tx o) n s1))).1; omega
              · omega
            · exfalso; omega
          · skip
            refine g_iconst hc dX13_sum_40 ?_
            refine g_goto (tgt := 45) hc dX13_sum_41 (by decide) ?_
            refine g_istore_2 hc dX13_sum_45 rfl ?_
            have hlt := y_sgp (B := (q_by M tx o)) (n := n) (a := s1.1) (by omega)
            have hm4 : 0 < m := by omega
            refine g_aldn hc dX13_sum_46 rfl ?_
            refine g_dup hc dX13_sum_47 rfl ?_
            refine g_getIe hc lk_X13_125 ca_703 10 rfl (y_M_a) dX13_sum_48 ?_
            refine g_iconst hc dX13_sum_51 ?_
            refine g_iadd hc dX13_sum_52 ?_
            refine g_putIe (I2 := (y_M M ((g_pos (q_by M tx o) n s1.1) + 1) (-1) (6 - (k : Int)))) hc lk_X13_125 ca_703 10 rfl y_M_pa dX13_sum_53 ?_
            refine g_aldn hc dX13_sum_56 rfl ?_
            refine g_V0 hc ((hA hR he (s := (t_adv (t_sk (q_by M tx o) n s1))) ⟨by show 0 ≤ g_pos (q_by M tx o) n s1.1 + 1; omega, by show g_pos (q_by M tx o) n s1.1 + 1 ≤ n; omega⟩ (show s1.2.1 = -1 from hQ) (by show (s1.2.2.length : Int) ≤ g_pos (q_by M tx o) n s1.1 + 1; omega))) my_X13_term mv_X13_term ca_703 rfl rfl lm_X13_184 rfl (by omega) (Nat.le_of_ble_eq_true rfl) hm dX13_sum_57 (fun rY2 nY2 IY2 JY2 RY2 hpY2 => ?_)
            obtain ⟨rfl, rfl, rfl, v2, a2, q2, d2, rfl, rfl, hy2, hb2⟩ := hpY2
            have hv2 : g32 v2 := hy2.1
            have ha2 : 0 ≤ a2 ∧ a2 ≤ n := hy2.2.1
            have hd2 := hy2.2.2.1
            have hq2 : -1 ≤ q2 ∧ q2 ≤ 240 := hy2.2.2.2.1
            refine g_i2l hc dX13_sum_60 hy2.1 ?_
            refine g_lstore_3 hc dX13_sum_61 rfl ?_
            have hv2 := hy2.1
            obtain ⟨hva, hvb⟩ := id hv
            obtain ⟨hv2a, hv2b⟩ := id hv2
            have hmul := g_mul64 (l := v) (r := v2) (by omega) (by omega)
            refine g_iload_n hc dX13_sum_62 rfl ?_
            refine g_if_eq (tgt := 73) hc dX13_sum_63 (by decide) (show g32 _ from ⟨by decide, by decide⟩) (fun c5 => ?_) (fun c5 => ?_)
            · exfalso; omega
            · skip
              refine g_iload_n hc dX13_sum_66 rfl ?_
              refine g_i2l hc dX13_sum_67 (by first | exact hI _ _ | exact y_sg32 (by omega) hB | exact g_b32 | exact g_and32 | assumption | exact ⟨by omega, by omega⟩) ?_
              refine g_lload_n hc dX13_sum_68 rfl ?_
              refine g_ladd hc dX13_sum_69 ?_
              refine g_goto (tgt := 77) hc dX13_sum_70 (by decide) ?_
              refine g_S1r hc (c_X13_within w (by exact ⟨by omega, by omega⟩)) my_X13_within ms_X13_within lm_X13_180 rfl (by omega) (Nat.le_of_ble_eq_true rfl) hm dX13_sum_77 ?_
              refine g_istore_1 hc dX13_sum_80 rfl ?_
              refine g_goto (tgt := 5) hc dX13_sum_81 (by decide) ?_
              refine G_sub (L' := [some (gvr w 703), some (gvI (max (-1000000) (min 1000000 ((v + v2))))), none, none, none]) (show g_le _ _ from ⟨rfl, ⟨rfl, trivial⟩⟩) ?_
              refine ih_5 _ _ _ _ (t_put (-(g_sgn (q_by M tx o) n s1.1)) (t_tek (q_by M tx o) n k (t_adv (t_sk (q_by M tx o) n s1)))) (m - 1) ?_ ?_ ?_ ?_
              · have hop := hy.op (s2 := (t_adv (t_sk (q_by M tx o) n s1))) hl he6.2 rfl (by show s1.1 + 1 ≤ g_pos (q_by M tx o) n s1.1 + 1; omega) hy2 (by omega) (op := g_sgn (q_by M tx o) n s1.1) (by omega)
                rw [show g_jn (g_sgn (q_by M tx o) n s1.1) v v2 = max (-1000000) (min 1000000 ((v + v2))) by rw [show g_sgn (q_by M tx o) n s1.1 = 43 by omega, g_jn43]] at hop
                exact hop
              · rw [hF, t_lp_s (op := g_sgn (q_by M tx o) n s1.1) (by omega) rfl (by omega)]
              · intro z; subst z; have h9 := hy2.at; have h7 : g_pos (q_by M tx o) n s1.1 + 1 ≤ _ := h9.2.2.2; show 240 - ((m - 1 : Nat) : Int) ≤ (t_tek (q_by M tx o) n k (t_adv (t_sk (q_by M tx o) n s1))).1; omega
              · omega
        · skip
          refine g_aldn hc dX13_sum_22 rfl ?_
          refine g_V0r hc (c_X13_look w hR he (by omega) (by omega) (by omega)) my_X13_look mv_X13_look ca_703 rfl rfl lm_X13_144 rfl (by omega) (Nat.le_of_ble_eq_true rfl) hm dX13_sum_23 ?_
          rw [show g_pos (q_by M tx o) n (g_pos (q_by M tx o) n s1.1) = g_pos (q_by M tx o) n s1.1 from g_pos_pos (by omega), show g_sgn (q_by M tx o) n (g_pos (q_by M tx o) n s1.1) = g_sgn (q_by M tx o) n s1.1 from g_sgn_pos (by omega)]
          refine g_bipush hc dX13_sum_26 (by decide +kernel) ?_
          refine g_icmp_ne (tgt := 84) hc dX13_sum_28 (by decide) (by first | exact hI _ _ | exact y_sg32 (by omega) hB | exact g_b32 | exact g_and32 | assumption | exact ⟨by omega, by omega⟩) (by first | exact hI _ _ | exact y_sg32 (by omega) hB | exact g_b32 | exact g_and32 | assumption | exact ⟨by omega, by omega⟩) (fun c6 => ?_) (fun c6 => ?_)
          · skip
            refine g_iload_n hc dX13_sum_84 rfl ?_
            refine g_iret hc hm dX13_sum_85 ?_
            first | (exfalso; omega) | exact y_end (by rw [hF, t_lp_e hi.2 (fun z => by omega) (by show ¬ g_sgn _ _ _ = _; omega) (by show ¬ g_sgn _ _ _ = _; omega)]; exact hy.sk) (fun z => absurd z (by decide)) | exact y_end (by rw [hF]; exact hy.bad (by omega) (pb_lp (by decide) (by decide) m) hy.1 (Int.le_refl _)) (fun z => absurd z (by decide))
          · skip
            refine g_aldn hc dX13_sum_31 rfl ?_
            refine g_V0r hc (c_X13_look w hR he (by omega) (by omega) (by omega)) my_X13_look mv_X13_look ca_703 rfl rfl lm_X13_144 rfl (by omega) (Nat.le_of_ble_eq_true rfl) hm dX13_sum_32 ?_
            rw [show g_pos (q_by M tx o) n (g_pos (q_by M tx o) n s1.1) = g_pos (q_by M tx o) n s1.1 from g_pos_pos (by omega), show g_sgn (q_by M tx o) n (g_pos (q_by M tx o) n s1.1) = g_sgn (q_by M tx o) n s1.1 from g_sgn_pos (by omega)]
            refine g_bipush hc dX13_sum_35 (by decide +kernel) ?_
            refine g_icmp_ne (tgt := 44) hc dX13_sum_37 (by decide) (by first | exact hI _ _ | exact y_sg32 (by omega) hB | exact g_b32 | exact g_and32 | assumption | exact ⟨by omega, by omega⟩) (by first | exact hI _ _ | exact y_sg32 (by omega) hB | exact g_b32 | exact g_and32 | assumption | exact ⟨by omega, by omega⟩) (fun c7 => ?_) (fun c7 => ?_)
            · skip
              refine g_iconst hc dX13_sum_44 ?_
              refine g_istore_2 hc dX13_sum_45 rfl ?_
              have hlt := y_sgp (B := (q_by M tx o)) (n := n) (a := s1.1) (by omega)
              have hm4 : 0 < m := by omega
              refine g_aldn hc dX13_sum_46 rfl ?_
              refine g_dup hc dX13_sum_47 rfl ?_
              refine g_getIe hc lk_X13_125 ca_703 10 rfl (y_M_a) dX13_sum_48 ?_
              refine g_iconst hc dX13_sum_51 ?_
              refine g_iadd hc dX13_sum_52 ?_
              refine g_putIe (I2 := (y_M M ((g_pos (q_by M tx o) n s1.1) + 1) (-1) (6 - (k : Int)))) hc lk_X13_125 ca_703 10 rfl y_M_pa dX13_sum_53 ?_
              refine g_aldn hc dX13_sum_56 rfl ?_
              refine g_V0 hc ((hA hR he (s := (t_adv (t_sk (q_by M tx o) n s1))) ⟨by show 0 ≤ g_pos (q_by M tx o) n s1.1 + 1; omega, by show g_pos (q_by M tx o) n s1.1 + 1 ≤ n; omega⟩ (show s1.2.1 = -1 from hQ) (by show (s1.2.2.length : Int) ≤ g_pos (q_by M tx o) n s1.1 + 1; omega))) my_X13_term mv_X13_term ca_703 rfl rfl lm_X13_184 rfl (by omega) (Nat.le_of_ble_eq_true rfl) hm dX13_sum_57 (fun rY2 nY2 IY2 JY2 RY2 hpY2 => ?_)
              obtain ⟨rfl, rfl, rfl, v2, a2, q2, d2, rfl, rfl, hy2, hb2⟩ := hpY2
              have hv2 : g32 v2 := hy2.1
              have ha2 : 0 ≤ a2 ∧ a2 ≤ n := hy2.2.1
              have hd2 := hy2.2.2.1
              have hq2 : -1 ≤ q2 ∧ q2 ≤ 240 := hy2.2.2.2.1
              refine g_i2l hc dX13_sum_60 hy2.1 ?_
              refine g_lstore_3 hc dX13_sum_61 rfl ?_
              have hv2 := hy2.1
              obtain ⟨hva, hvb⟩ := id hv
              obtain ⟨hv2a, hv2b⟩ := id hv2
              have hmul := g_mul64 (l := v) (r := v2) (by omega) (by omega)
              refine g_iload_n hc dX13_sum_62 rfl ?_
              refine g_if_eq (tgt := 73) hc dX13_sum_63 (by decide) (show g32 _ from ⟨by decide, by decide⟩) (fun c8 => ?_) (fun c8 => ?_)
              · skip
                refine g_iload_n hc dX13_sum_73 rfl ?_
                refine g_i2l hc dX13_sum_74 (by first | exact hI _ _ | exact y_sg32 (by omega) hB | exact g_b32 | exact g_and32 | assumption | exact ⟨by omega, by omega⟩) ?_
                refine g_lload_n hc dX13_sum_75 rfl ?_
                refine g_lsub hc dX13_sum_76 ?_
                refine g_S1r hc (c_X13_within w (by exact ⟨by omega, by omega⟩)) my_X13_within ms_X13_within lm_X13_180 rfl (by omega) (Nat.le_of_ble_eq_true rfl) hm dX13_sum_77 ?_
                refine g_istore_1 hc dX13_sum_80 rfl ?_
                refine g_goto (tgt := 5) hc dX13_sum_81 (by decide) ?_
                refine G_sub (L' := [some (gvr w 703), some (gvI (max (-1000000) (min 1000000 ((v - v2))))), none, none, none]) (show g_le _ _ from ⟨rfl, ⟨rfl, trivial⟩⟩) ?_
                refine ih_5 _ _ _ _ (t_put (-(g_sgn (q_by M tx o) n s1.1)) (t_tek (q_by M tx o) n k (t_adv (t_sk (q_by M tx o) n s1)))) (m - 1) ?_ ?_ ?_ ?_
                · have hop := hy.op (s2 := (t_adv (t_sk (q_by M tx o) n s1))) hl he6.2 rfl (by show s1.1 + 1 ≤ g_pos (q_by M tx o) n s1.1 + 1; omega) hy2 (by omega) (op := g_sgn (q_by M tx o) n s1.1) (by omega)
                  rw [show g_jn (g_sgn (q_by M tx o) n s1.1) v v2 = max (-1000000) (min 1000000 ((v - v2))) by rw [show g_sgn (q_by M tx o) n s1.1 = 45 by omega, g_jn45]] at hop
                  exact hop
                · rw [hF, t_lp_s (op := g_sgn (q_by M tx o) n s1.1) (by omega) rfl (by omega)]
                · intro z; subst z; have h9 := hy2.at; have h7 : g_pos (q_by M tx o) n s1.1 + 1 ≤ _ := h9.2.2.2; show 240 - ((m - 1 : Nat) : Int) ≤ (t_tek (q_by M tx o) n k (t_adv (t_sk (q_by M tx o) n s1))).1; omega
                · omega
              · exfalso; omega
            · skip
              refine g_iconst hc dX13_sum_40 ?_
              refine g_goto (tgt := 45) hc dX13_sum_41 (by decide) ?_
              refine g_istore_2 hc dX13_sum_45 rfl ?_
              have hlt := y_sgp (B := (q_by M tx o)) (n := n) (a := s1.1) (by omega)
              have hm4 : 0 < m := by omega
              refine g_aldn hc dX13_sum_46 rfl ?_
              refine g_dup hc dX13_sum_47 rfl ?_
              refine g_getIe hc lk_X13_125 ca_703 10 rfl (y_M_a) dX13_sum_48 ?_
              refine g_iconst hc dX13_sum_51 ?_
              refine g_iadd hc dX13_sum_52 ?_
              refine g_putIe (I2 := (y_M M ((g_pos (q_by M tx o) n s1.1) + 1) (-1) (6 - (k : Int)))) hc lk_X13_125 ca_703 10 rfl y_M_pa dX13_sum_53 ?_
              refine g_aldn hc dX13_sum_56 rfl ?_
              refine g_V0 hc ((hA hR he (s := (t_adv (t_sk (q_by M tx o) n s1))) ⟨by show 0 ≤ g_pos (q_by M tx o) n s1.1 + 1; omega, by show g_pos (q_by M tx o) n s1.1 + 1 ≤ n; omega⟩ (show s1.2.1 = -1 from hQ) (by show (s1.2.2.length : Int) ≤ g_pos (q_by M tx o) n s1.1 + 1; omega))) my_X13_term mv_X13_term ca_703 rfl rfl lm_X13_184 rfl (by omega) (Nat.le_of_ble_eq_true rfl) hm dX13_sum_57 (fun rY2 nY2 IY2 JY2 RY2 hpY2 => ?_)
              obtain ⟨rfl, rfl, rfl, v2, a2, q2, d2, rfl, rfl, hy2, hb2⟩ := hpY2
              have hv2 : g32 v2 := hy2.1
              have ha2 : 0 ≤ a2 ∧ a2 ≤ n := hy2.2.1
              have hd2 := hy2.2.2.1
              have hq2 : -1 ≤ q2 ∧ q2 ≤ 240 := hy2.2.2.2.1
              refine g_i2l hc dX13_sum_60 hy2.1 ?_
              refine g_lstore_3 hc dX13_sum_61 rfl ?_
              have hv2 := hy2.1
              obtain ⟨hva, hvb⟩ := id hv
              obtain ⟨hv2a, hv2b⟩ := id hv2
              have hmul := g_mul64 (l := v) (r := v2) (by omega) (by omega)
              refine g_iload_n hc dX13_sum_62 rfl ?_
              refine g_if_eq (tgt := 73) hc dX13_sum_63 (by decide) (show g32 _ from ⟨by decide, by decide⟩) (fun c9 => ?_) (fun c9 => ?_)
              · exfalso; omega
              · skip
                refine g_iload_n hc dX13_sum_66 rfl ?_
                refine g_i2l hc dX13_sum_67 (by first | exact hI _ _ | exact y_sg32 (by omega) hB | exact g_b32 | exact g_and32 | assumption | exact ⟨by omega, by omega⟩) ?_
                refine g_lload_n hc dX13_sum_68 rfl ?_
                refine g_ladd hc dX13_sum_69 ?_
                refine g_goto (tgt := 77) hc dX13_sum_70 (by decide) ?_
                refine g_S1r hc (c_X13_within w (by exact ⟨by omega, by omega⟩)) my_X13_within ms_X13_within lm_X13_180 rfl (by omega) (Nat.le_of_ble_eq_true rfl) hm dX13_sum_77 ?_
                refine g_istore_1 hc dX13_sum_80 rfl ?_
                refine g_goto (tgt := 5) hc dX13_sum_81 (by decide) ?_
                refine G_sub (L' := [some (gvr w 703), some (gvI (max (-1000000) (min 1000000 ((v + v2))))), none, none, none]) (show g_le _ _ from ⟨rfl, ⟨rfl, trivial⟩⟩) ?_
                refine ih_5 _ _ _ _ (t_put (-(g_sgn (q_by M tx o) n s1.1)) (t_tek (q_by M tx o) n k (t_adv (t_sk (q_by M tx o) n s1)))) (m - 1) ?_ ?_ ?_ ?_
                · have hop := hy.op (s2 := (t_adv (t_sk (q_by M tx o) n s1))) hl he6.2 rfl (by show s1.1 + 1 ≤ g_pos (q_by M tx o) n s1.1 + 1; omega) hy2 (by omega) (op := g_sgn (q_by M tx o) n s1.1) (by omega)
                  rw [show g_jn (g_sgn (q_by M tx o) n s1.1) v v2 = max (-1000000) (min 1000000 ((v + v2))) by rw [show g_sgn (q_by M tx o) n s1.1 = 43 by omega, g_jn43]] at hop
                  exact hop
                · rw [hF, t_lp_s (op := g_sgn (q_by M tx o) n s1.1) (by omega) rfl (by omega)]
                · intro z; subst z; have h9 := hy2.at; have h7 : g_pos (q_by M tx o) n s1.1 + 1 ≤ _ := h9.2.2.2; show 240 - ((m - 1 : Nat) : Int) ≤ (t_tek (q_by M tx o) n k (t_adv (t_sk (q_by M tx o) n s1))).1; omega
                · omega
  refine lp_5 241 _ _ _ _ (t_tek (q_by M tx o) n k s) 240 ?_ ?_ ?_ (?_)
  · exact hy1.mono (by omega)
  · rfl
  · intro z; subst z; have := hy1.at; omega
  · decide
