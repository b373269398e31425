set_option maxHeartbeats 4000000 in
set_option maxRecDepth 100000 in
/-- X13_clause -/
theorem y_clause (w : g_W) {J : g_J} {R : g_R} {lb tx ln : Nat} (hR : g_rf w R lb tx) {M : g_I} {o n : Int} {Lf : Int → Int} (he : y_env M tx ln o n Lf) {s : g_S} (hs : 0 ≤ s.1 ∧ s.1 ≤ n) (hq0 : s.2.1 = -1) (hl : (s.2.2.length : Int) ≤ s.1) (hsu : y_Csum w 6) (hco : y_Ccond w 6) {h f : Int} (hh : h = 0 ∨ h = 1) (hf : g32 f) (hh1 : M 703 17 = h) (hf1 : M 703 14 = f) (hlab : M 703 13 = 121) : g_Met w g_n (y_M M s.1 (-1) (6 - ((6 : Nat) : Int))) J R yX13_clause cX13_clause 5 none 31 0 0 [(gvr w 703)] (y_pcl w M J R n Lf (6 - ((6 : Nat) : Int)) s (t_cls (q_by M tx o) n s) h f) := by
  refine g_intro (own := RX13) [some (gvr w 703), none, none, none, none] (by decide +kernel) rfl (by decide) (Nat.le_of_ble_eq_true rfl) rfl (fun i v hv => g_args 4 i v hv rfl) (fun x hc hm => ?_)
  obtain ⟨⟨he1, he2⟩, ⟨he3, he4, he5⟩, he6, hB, hI, hLt, hat, hx3⟩ := id he
  have hp := g_pos_in (B := (q_by M tx o)) (len := n) (a := s.1) hs.2
  have e0 : y_F M h f = M := by rw [← hh1, ← hf1]; exact y_F_0
  have hend : ∀ a q d : Int, y_cr n Lf (6 - ((6 : Nat) : Int)) s (t_cls (q_by M tx o) n s) h f h f a q d → y_pcl w M J R n Lf (6 - ((6 : Nat) : Int)) s (t_cls (q_by M tx o) n s) h f none g_n (y_M M a q d) J R := fun a q d hy => by
    have z := y_cend (w := w) (M := M) (J := J) (R := R) hy
    rw [e0] at z
    exact z
  refine g_aldn hc dX13_clause_0 rfl ?_
  refine g_V0r hc (c_X13_look w hR he (by omega) (by omega) (by omega)) my_X13_look mv_X13_look ca_703 rfl rfl lm_X13_144 rfl (by decide) (Nat.le_of_ble_eq_true rfl) hm dX13_clause_1 ?_
  refine g_istore_1 hc dX13_clause_4 rfl ?_
  refine g_ldcS (i := 9) (tx := "y") hc (by decide) dX13_clause_5 ?_
  refine g_iload_n hc dX13_clause_7 rfl ?_
  refine g_S2r hc (c_isAmong9 w (by first | exact hI _ _ | exact y_sg32 (by omega) hB | exact g_b32 | exact g_and32 | assumption | exact ⟨by omega, by omega⟩)) my_X13_isAmong ms_X13_isAmong lm_X13_160 rfl (by decide) (Nat.le_of_ble_eq_true rfl) hm dX13_clause_8 ?_
  refine g_ifb_ne (tgt := 20) hc dX13_clause_11 (by decide)  (fun c1 => ?_) (fun c1 => ?_)
  · skip
    have h121 : g_sgn (q_by M tx o) n s.1 = 121 := c1
    have hlt := y_sgp (B := (q_by M tx o)) (n := n) (a := s.1) (by omega)
    obtain ⟨s1, hs1⟩ : ∃ s1 : g_S, s1 = t_adv (t_sk (q_by M tx o) n s) := ⟨_, rfl⟩
    have e1 : s1.1 = g_pos (q_by M tx o) n s.1 + 1 := by rw [hs1]; rfl
    have e1b : s1.2 = s.2 := by rw [hs1]; rfl
    have hw1 : t_wn (q_by M tx o) n 121 s = s1 := by rw [hs1]; exact y_wn1 h121
    refine g_aldn hc dX13_clause_20 rfl ?_
    refine g_dup hc dX13_clause_21 rfl ?_
    refine g_getIe hc lk_X13_125 ca_703 10 rfl (y_M_a) dX13_clause_22 ?_
    refine g_iconst hc dX13_clause_25 ?_
    refine g_iadd hc dX13_clause_26 ?_
    refine g_putIe (I2 := (y_M M ((g_pos (q_by M tx o) n s.1) + 1) (-1) (6 - ((6 : Nat) : Int)))) hc lk_X13_125 ca_703 10 rfl y_M_pa dX13_clause_27 ?_
    rw [show g_pos (q_by M tx o) n s.1 + 1 = s1.1 from e1.symm]
    have hps1 := g_pos_in (B := (q_by M tx o)) (len := n) (a := s1.1) (by omega)
    refine g_aldn hc dX13_clause_30 rfl ?_
    refine g_bipush hc dX13_clause_31 (by decide +kernel) ?_
    refine g_V1r hc (c_X13_takes w hR he (by omega) (by omega) (by omega) (by exact ⟨by decide, by decide⟩)) my_X13_takes mv_X13_takes ca_703 rfl rfl lm_X13_170 rfl (by decide) (Nat.le_of_ble_eq_true rfl) hm dX13_clause_33 ?_
    refine g_ifb_ne (tgt := 40) hc dX13_clause_36 (by decide)  (fun c2 => ?_) (fun c2 => ?_)
    · skip
      have h58 : g_sgn (q_by M tx o) n s1.1 = 58 := c2.2
      have hlt1 := y_sgp (B := (q_by M tx o)) (n := n) (a := s1.1) (by omega)
      obtain ⟨s2, hs2⟩ : ∃ s2 : g_S, s2 = t_adv (t_sk (q_by M tx o) n s1) := ⟨_, rfl⟩
      have e2 : s2.1 = g_pos (q_by M tx o) n s1.1 + 1 := by rw [hs2]; rfl
      have e2b : s2.2 = s.2 := by rw [hs2]; exact e1b
      have hw2 : t_wn (q_by M tx o) n 58 s1 = s2 := by rw [hs2]; exact y_wn1 h58
      have hcls2 : t_cls (q_by M tx o) n s = t_put (-59) (t_cl8 (q_by M tx o) n s2) := by rw [t_cls8, hw1, hw2]
      rw [if_pos rfl, if_pos rfl, if_pos h58, if_pos h58, show g_pos (q_by M tx o) n s1.1 + 1 = s2.1 from e2.symm]
      have hps2 := g_pos_in (B := (q_by M tx o)) (len := n) (a := s2.1) (by omega)
      refine g_iconst hc dX13_clause_40 ?_
      refine g_istore_2 hc dX13_clause_41 rfl ?_
      refine g_iconst hc dX13_clause_42 ?_
      refine g_istore_3 hc dX13_clause_43 rfl ?_
      refine g_aldn hc dX13_clause_44 rfl ?_
      refine g_V0r hc (c_X13_look w hR he (by omega) (by omega) (by omega)) my_X13_look mv_X13_look ca_703 rfl rfl lm_X13_144 rfl (by decide) (Nat.le_of_ble_eq_true rfl) hm dX13_clause_45 ?_
      obtain ⟨s3, hs3⟩ : ∃ s3 : g_S, s3 = t_sk (q_by M tx o) n s2 := ⟨_, rfl⟩
      have e3 : s3.1 = g_pos (q_by M tx o) n s2.1 := by rw [hs3]; rfl
      have e3b : s3.2 = s.2 := by rw [hs3]; exact e2b
      have hl3 : (s3.2.2.length : Int) ≤ s3.1 := by rw [e3b]; omega
      have hq3 : s3.2.1 = -1 := by rw [e3b]; exact hq0
      rw [show g_pos (q_by M tx o) n s2.1 = s3.1 from e3.symm]
      refine g_istore_4 hc dX13_clause_48 rfl ?_
      refine g_iload hc dX13_clause_50 rfl ?_
      refine g_bipush hc dX13_clause_52 (by decide +kernel) ?_
      refine g_icmp_eq (tgt := 64) hc dX13_clause_54 (by decide) (by first | exact hI _ _ | exact y_sg32 (by omega) hB | exact g_b32 | exact g_and32 | assumption | exact ⟨by omega, by omega⟩) (by first | exact hI _ _ | exact y_sg32 (by omega) hB | exact g_b32 | exact g_and32 | assumption | exact ⟨by omega, by omega⟩) (fun c3 => ?_) (fun c3 => ?_)
      · skip
        have h33 : t_sg (q_by M tx o) n s2 = 33 ∨ t_sg (q_by M tx o) n s2 = 40 := Or.inl c3
        refine g_aldn hc dX13_clause_64 rfl ?_
        refine g_iconst hc dX13_clause_65 ?_
        refine g_iconst hc dX13_clause_66 ?_
        refine g_V2 hc (hco hR he (s := s3) (s0 := s3) (e := 0) (r := 0) ⟨by omega, by omega⟩ hq3 hl3 hl3 (Or.inl ⟨rfl, rfl⟩)) my_X13_condition mv_X13_condition ca_703 rfl rfl lm_X13_193 rfl (by decide) (Nat.le_of_ble_eq_true rfl) hm dX13_clause_67 (fun rY1 nY1 IY1 JY1 RY1 hpY1 => ?_)
        obtain ⟨rfl, rfl, rfl, v1, a1, q1, d1, rfl, rfl, hy1, hb1⟩ := hpY1
        have hv1 : g32 v1 := hy1.1
        have ha1 : 0 ≤ a1 ∧ a1 ≤ n := hy1.2.1
        have hd1 := hy1.2.2.1
        have hq1 : -1 ≤ q1 ∧ q1 ≤ 240 := hy1.2.2.2.1
        have hz1 : v1 = 0 ∨ v1 = 1 := hb1 rfl
        refine g_istore_2 hc dX13_clause_70 rfl ?_
        refine g_aldn hc dX13_clause_71 rfl ?_
        refine g_bipush hc dX13_clause_72 (by decide +kernel) ?_
        refine g_V1r hc (c_X13_takes w hR he (by omega) (by omega) (by omega) (by exact ⟨by decide, by decide⟩)) my_X13_takes mv_X13_takes ca_703 rfl rfl lm_X13_170 rfl (by decide) (Nat.le_of_ble_eq_true rfl) hm dX13_clause_74 ?_
        refine g_ifb_ne (tgt := 81) hc dX13_clause_77 (by decide)  (fun c4 => ?_) (fun c4 => ?_)
        · skip
          obtain ⟨hq9, hs9⟩ : q1 = -1 ∧ g_sgn (q_by M tx o) n a1 = 63 := c4
          rw [if_pos hq9, if_pos hq9, if_pos hs9, if_pos hs9]
          subst hq9
          obtain ⟨f1, f2, f3, f4⟩ := hy1.at
          have hlt4 := y_sgp (B := (q_by M tx o)) (n := n) (a := a1) (by omega)
          have hp4 := g_pos_in (B := (q_by M tx o)) (len := n) (a := a1) (by omega)
          have hl4 := hy1.len hl3
          obtain ⟨s6, hs6⟩ : ∃ s6 : g_S, s6 = t_put (-63) (t_wn (q_by M tx o) n 63 (t_cok (q_by M tx o) n 6 0 s3)) := ⟨_, rfl⟩
          have ew : t_wn (q_by M tx o) n 63 (t_cok (q_by M tx o) n 6 0 s3) = t_adv (t_sk (q_by M tx o) n (t_cok (q_by M tx o) n 6 0 s3)) := y_wn1 (by rw [← f1]; exact hs9)
          have e6 : s6.1 = g_pos (q_by M tx o) n a1 + 1 := by rw [hs6, ew, f1]; rfl
          have e6b : s6.2.1 = -1 := by rw [hs6, ew]; exact f3
          have e6c : s6.2.2 = (t_cok (q_by M tx o) n 6 0 s3).2.2 ++ [-63] := by rw [hs6, ew]; show (if (t_cok (q_by M tx o) n 6 0 s3).2.2.length < 256 then _ else _) = _; rw [if_pos (by omega)]; rfl
          have hl6 : (s6.2.2.length : Int) ≤ s6.1 := by rw [e6c, List.length_append, List.length_singleton]; omega
          rw [show g_pos (q_by M tx o) n a1 + 1 = s6.1 from e6.symm, f2]
          refine g_aldn hc dX13_clause_81 rfl ?_
          refine g_V0 hc (hsu hR he (s := s6) ⟨by omega, by omega⟩ e6b hl6) my_X13_sum mv_X13_sum ca_703 rfl rfl lm_X13_167 rfl (by decide) (Nat.le_of_ble_eq_true rfl) hm dX13_clause_82 (fun rY2 nY2 IY2 JY2 RY2 hpY2 => ?_)
          obtain ⟨rfl, rfl, rfl, v2, a2, q2, d2, rfl, rfl, hy2, hb2⟩ := hpY2
          have hv2 : g32 v2 := hy2.1
          have ha2 : 0 ≤ a2 ∧ a2 ≤ n := hy2.2.1
          have hd2 := hy2.2.2.1
          have hq2 : -1 ≤ q2 ∧ q2 ≤ 240 := hy2.2.2.2.1
          refine g_istore_3 hc dX13_clause_85 rfl ?_
          refine g_goto (tgt := 134) hc dX13_clause_86 (by decide) ?_
          have lp_134 : ∀ (fu : Nat) (v b a q d : Int) (sF : g_S), y_cl n Lf (6 - ((6 : Nat) : Int)) s sF v b a q d → t_cls (q_by M tx o) n s = t_put (-59) sF → (0 : Int) < (fu : Int) → G w x (y_pcl w M J R n Lf (6 - ((6 : Nat) : Int)) s (t_cls (q_by M tx o) n s) h f) 0 0 g_n (y_M M a q d) J R 134 [some (gvr w 703), some (gvI (g_sgn (q_by M tx o) n s.1)), some (gvI b), some (gvI v), none] [] := by
            intro fu
            induction fu with
            | zero => intro v b a q d sF hcl hF hfu; exfalso; omega
            | succ fu ih =>
              intro v b a q d sF hcl hF hfu
              have hv := hcl.1
              have hbb := hcl.2.1
              have hqb := hcl.2.2.2.2.1
              have ih_134 := ih
              refine g_aldn hc dX13_clause_134 rfl ?_
              refine g_getIe hc lk_X13_134 ca_703 11 rfl (y_M_q) dX13_clause_135 ?_
              refine g_iconst hc dX13_clause_138 ?_
              refine g_icmp_ne (tgt := 161) hc dX13_clause_139 (by decide) (by first | exact hI _ _ | exact y_sg32 (by omega) hB | exact g_b32 | exact g_and32 | assumption | exact ⟨by omega, by omega⟩) (by first | exact hI _ _ | exact y_sg32 (by omega) hB | exact g_b32 | exact g_and32 | assumption | exact ⟨by omega, by omega⟩) (fun c5 => ?_) (fun c5 => ?_)
              · skip
                refine g_vret hc hm dX13_clause_161 ?_
                have hp := hcl.put hl he6.2 hf hh
                rw [if_neg (by omega), if_neg (by omega)] at hp
                exact hend _ _ _ (by rw [hF]; exact hp)
              · skip
                refine g_aldn hc dX13_clause_142 rfl ?_
                refine g_getIe hc lk_X13_203 ca_703 17 rfl ((y_M_j (by decide)).trans hh1) dX13_clause_143 ?_
                refine g_if_ne (tgt := 161) hc dX13_clause_146 (by decide) (by rcases hh with z | z <;> rw [z] <;> exact ⟨by decide, by decide⟩) (fun c6 => ?_) (fun c6 => ?_)
                · skip
                  refine g_vret hc hm dX13_clause_161 ?_
                  have hp := hcl.put hl he6.2 hf hh
                  rw [if_neg (by omega), if_neg (by omega)] at hp
                  exact hend _ _ _ (by rw [hF]; exact hp)
                · skip
                  refine g_iload_n hc dX13_clause_149 rfl ?_
                  refine g_aldn hc dX13_clause_150 rfl ?_
                  refine g_getIe hc lk_X13_207 ca_703 13 rfl ((y_M_j (by decide)).trans hlab) dX13_clause_151 ?_
                  refine g_icmp_ne (tgt := 161) hc dX13_clause_154 (by decide) (by first | exact hI _ _ | exact y_sg32 (by omega) hB | exact g_b32 | exact g_and32 | assumption | exact ⟨by omega, by omega⟩) (by first | exact hI _ _ | exact y_sg32 (by omega) hB | exact g_b32 | exact g_and32 | assumption | exact ⟨by omega, by omega⟩) (fun c7 => ?_) (fun c7 => ?_)
                  · exfalso; omega
                  · skip
                    refine g_iload_n hc dX13_clause_157 rfl ?_
                    refine g_if_ne (tgt := 162) hc dX13_clause_158 (by decide) (by first | exact hI _ _ | exact y_sg32 (by omega) hB | exact g_b32 | exact g_and32 | assumption | exact ⟨by omega, by omega⟩) (fun c8 => ?_) (fun c8 => ?_)
                    · skip
                      refine g_aldn hc dX13_clause_162 rfl ?_
                      refine g_iconst hc dX13_clause_163 ?_
                      obtain ⟨M3, hM3⟩ : ∃ M3, M3 = g_up M 703 17 1 := ⟨_, rfl⟩
                      have kM3 : g_up (y_M M a q d) 703 17 1 = (y_M M3 a q d) := (y_M_p (by omega)).trans (by rw [hM3])
                      refine g_putZ' hc lk_X13_203 ca_703 (by first | exact g_b01 | omega) 17 rfl dX13_clause_164 (fun z9 hz9 => ?_)
                      rw [kM3] at hz9
                      subst hz9
                      refine g_aldn hc dX13_clause_167 rfl ?_
                      refine g_iload_n hc dX13_clause_168 rfl ?_
                      obtain ⟨M4, hM4⟩ : ∃ M4, M4 = g_up M3 703 14 v := ⟨_, rfl⟩
                      have kM4 : g_up (y_M M3 a q d) 703 14 v = (y_M M4 a q d) := (y_M_p (by omega)).trans (by rw [hM4])
                      refine g_putIe (I2 := (y_M M4 a q d)) hc lk_X13_210 ca_703 14 rfl kM4 dX13_clause_169 ?_
                      refine g_vret hc hm dX13_clause_172 ?_
                      have hp := hcl.put hl he6.2 hf hh
                      rw [if_pos (by omega), if_pos (by omega)] at hp
                      rw [show M4 = y_F M 1 v from by rw [hM4, hM3]; rfl]
                      exact y_cend (by rw [hF]; exact hp)
                    · skip
                      refine g_vret hc hm dX13_clause_161 ?_
                      have hp := hcl.put hl he6.2 hf hh
                      rw [if_neg (by omega), if_neg (by omega)] at hp
                      exact hend _ _ _ (by rw [hF]; exact hp)
          refine G_sub (L' := [some (gvr w 703), some (gvI (g_sgn (q_by M tx o) n s.1)), some (gvI v1), some (gvI v2), none]) (show g_le _ _ from ⟨rfl, ⟨rfl, ⟨rfl, ⟨rfl, trivial⟩⟩⟩⟩) ?_
          refine lp_134 1 _ _ _ _ _ (t_suk (q_by M tx o) n 6 s6) ?_ ?_ (?_)
          · exact y_cl.of2 hy1 hz1 (by omega) (by rw [e3b]) (by omega) e6c (by omega) hy2 (by omega)
          · rw [hcls2]; unfold t_cl8; rw [if_pos h33, ← hs3]; show t_put (-59) (t_suk _ _ 6 (t_put (-63) (t_wn _ _ 63 (t_cok _ _ 6 0 s3)))) = _; rw [← hs6]
          · decide
        · skip
          have hnc := c4
          refine g_vret hc hm dX13_clause_80 ?_
          have hw := hy1.wnF (B := (q_by M tx o)) (c := 63) (h' := 0) (s0 := s3) he6.2 hnc (by decide) (Int.le_refl _)
          obtain ⟨qq, hqq⟩ : ∃ z, z = (if q1 = -1 then (if g_sgn (q_by M tx o) n a1 = 63 then -1 else g_pos (q_by M tx o) n a1) else q1) := ⟨_, rfl⟩
          have hpz := g_pos_in (B := (q_by M tx o)) (len := n) (a := a1) (by omega)
          have hqn : ¬ qq = -1 := by
            rw [hqq]
            by_cases z : q1 = -1
            · rw [if_pos z, if_neg (fun y => hnc ⟨z, y⟩)]; omega
            · rw [if_neg z]; exact z
          rw [← hqq] at hw ⊢
          have hcl : t_cls (q_by M tx o) n s = t_put (-59) (t_suk (q_by M tx o) n 6 (t_put (-63) (t_wn (q_by M tx o) n 63 (t_cok (q_by M tx o) n 6 0 s3)))) := by
            rw [hcls2]; unfold t_cl8; rw [if_pos h33, ← hs3]; rfl
          exact hend _ _ _ (by rw [hcl]; exact y_cr.bad (G := fun z => t_put (-59) (t_suk (q_by M tx o) n 6 (t_put (-63) z))) (hw.bd hqn) pb_c63 hw.2.2.2.2.1 hf hh hw.2.1 hw.2.2.1 hw.2.2.2.1)
      · skip
        refine g_iload hc dX13_clause_57 rfl ?_
        refine g_bipush hc dX13_clause_59 (by decide +kernel) ?_
        refine g_icmp_ne (tgt := 89) hc dX13_clause_61 (by decide) (by first | exact hI _ _ | exact y_sg32 (by omega) hB | exact g_b32 | exact g_and32 | assumption | exact ⟨by omega, by omega⟩) (by first | exact hI _ _ | exact y_sg32 (by omega) hB | exact g_b32 | exact g_and32 | assumption | exact ⟨by omega, by omega⟩) (fun c9 => ?_) (fun c9 => ?_)
        · skip
          have h33 : ¬ (t_sg (q_by M tx o) n s2 = 33 ∨ t_sg (q_by M tx o) n s2 = 40) := fun z => by
            have z2 : g_sgn (q_by M tx o) n s2.1 = 33 ∨ g_sgn (q_by M tx o) n s2.1 = 40 := z
            omega
          refine g_aldn hc dX13_clause_89 rfl ?_
          refine g_V0 hc (hsu hR he (s := s3) ⟨by omega, by omega⟩ hq3 hl3) my_X13_sum mv_X13_sum ca_703 rfl rfl lm_X13_167 rfl (by decide) (Nat.le_of_ble_eq_true rfl) hm dX13_clause_90 (fun rY3 nY3 IY3 JY3 RY3 hpY3 => ?_)
          obtain ⟨rfl, rfl, rfl, v3, a3, q3, d3, rfl, rfl, hy3, hb3⟩ := hpY3
          have hv3 : g32 v3 := hy3.1
          have ha3 : 0 ≤ a3 ∧ a3 ≤ n := hy3.2.1
          have hd3 := hy3.2.2.1
          have hq3 : -1 ≤ q3 ∧ q3 ≤ 240 := hy3.2.2.2.1
          refine g_istore_3 hc dX13_clause_93 rfl ?_
          refine g_aldn hc dX13_clause_94 rfl ?_
          refine g_getIe hc lk_X13_134 ca_703 11 rfl (y_M_q) dX13_clause_95 ?_
          refine g_iconst hc dX13_clause_98 ?_
          refine g_icmp_ne (tgt := 134) hc dX13_clause_99 (by decide) (by first | exact hI _ _ | exact y_sg32 (by omega) hB | exact g_b32 | exact g_and32 | assumption | exact ⟨by omega, by omega⟩) (by first | exact hI _ _ | exact y_sg32 (by omega) hB | exact g_b32 | exact g_and32 | assumption | exact ⟨by omega, by omega⟩) (fun c10 => ?_) (fun c10 => ?_)
          · skip
            have lp_134 : ∀ (fu : Nat) (v b a q d : Int) (sF : g_S), y_cl n Lf (6 - ((6 : Nat) : Int)) s sF v b a q d → t_cls (q_by M tx o) n s = t_put (-59) sF → (0 : Int) < (fu : Int) → G w x (y_pcl w M J R n Lf (6 - ((6 : Nat) : Int)) s (t_cls (q_by M tx o) n s) h f) 0 0 g_n (y_M M a q d) J R 134 [some (gvr w 703), some (gvI (g_sgn (q_by M tx o) n s.1)), some (gvI b), some (gvI v), none] [] := by
              intro fu
              induction fu with
              | zero => intro v b a q d sF hcl hF hfu; exfalso; omega
              | succ fu ih =>
                intro v b a q d sF hcl hF hfu
                have hv := hcl.1
                have hbb := hcl.2.1
                have hqb := hcl.2.2.2.2.1
                have ih_134 := ih
                refine g_aldn hc dX13_clause_134 rfl ?_
                refine g_getIe hc lk_X13_134 ca_703 11 rfl (y_M_q) dX13_clause_135 ?_
                refine g_iconst hc dX13_clause_138 ?_
                refine g_icmp_ne (tgt := 161) hc dX13_clause_139 (by decide) (by first | exact hI _ _ | exact y_sg32 (by omega) hB | exact g_b32 | exact g_and32 | assumption | exact ⟨by omega, by omega⟩) (by first | exact hI _ _ | exact y_sg32 (by omega) hB | exact g_b32 | exact g_and32 | assumption | exact ⟨by omega, by omega⟩) (fun c11 => ?_) (fun c11 => ?_)
                · skip
                  refine g_vret hc hm dX13_clause_161 ?_
                  have hp := hcl.put hl he6.2 hf hh
                  rw [if_neg (by omega), if_neg (by omega)] at hp
                  exact hend _ _ _ (by rw [hF]; exact hp)
                · skip
                  refine g_aldn hc dX13_clause_142 rfl ?_
                  refine g_getIe hc lk_X13_203 ca_703 17 rfl ((y_M_j (by decide)).trans hh1) dX13_clause_143 ?_
                  refine g_if_ne (tgt := 161) hc dX13_clause_146 (by decide) (by rcases hh with z | z <;> rw [z] <;> exact ⟨by decide, by decide⟩) (fun c12 => ?_) (fun c12 => ?_)
                  · skip
                    refine g_vret hc hm dX13_clause_161 ?_
                    have hp := hcl.put hl he6.2 hf hh
                    rw [if_neg (by omega), if_neg (by omega)] at hp
                    exact hend _ _ _ (by rw [hF]; exact hp)
                  · skip
                    refine g_iload_n hc dX13_clause_149 rfl ?_
                    refine g_aldn hc dX13_clause_150 rfl ?_
                    refine g_getIe hc lk_X13_207 ca_703 13 rfl ((y_M_j (by decide)).trans hlab) dX13_clause_151 ?_
                    refine g_icmp_ne (tgt := 161) hc dX13_clause_154 (by decide) (by first | exact hI _ _ | exact y_sg32 (by omega) hB | exact g_b32 | exact g_and32 | assumption | exact ⟨by omega, by omega⟩) (by first | exact hI _ _ | exact y_sg32 (by omega) hB | exact g_b32 | exact g_and32 | assumption | exact ⟨by omega, by omega⟩) (fun c13 => ?_) (fun c13 => ?_)
                    · exfalso; omega
                    · skip
                      refine g_iload_n hc dX13_clause_157 rfl ?_
                      refine g_if_ne (tgt := 162) hc dX13_clause_158 (by decide) (by first | exact hI _ _ | exact y_sg32 (by omega) hB | exact g_b32 | exact g_and32 | assumption | exact ⟨by omega, by omega⟩) (fun c14 => ?_) (fun c14 => ?_)
                      · skip
                        refine g_aldn hc dX13_clause_162 rfl ?_
                        refine g_iconst hc dX13_clause_163 ?_
                        obtain ⟨M5, hM5⟩ : ∃ M5, M5 = g_up M 703 17 1 := ⟨_, rfl⟩
                        have kM5 : g_up (y_M M a q d) 703 17 1 = (y_M M5 a q d) := (y_M_p (by omega)).trans (by rw [hM5])
                        refine g_putZ' hc lk_X13_203 ca_703 (by first | exact g_b01 | omega) 17 rfl dX13_clause_164 (fun z9 hz9 => ?_)
                        rw [kM5] at hz9
                        subst hz9
                        refine g_aldn hc dX13_clause_167 rfl ?_
                        refine g_iload_n hc dX13_clause_168 rfl ?_
                        obtain ⟨M6, hM6⟩ : ∃ M6, M6 = g_up M5 703 14 v := ⟨_, rfl⟩
                        have kM6 : g_up (y_M M5 a q d) 703 14 v = (y_M M6 a q d) := (y_M_p (by omega)).trans (by rw [hM6])
                        refine g_putIe (I2 := (y_M M6 a q d)) hc lk_X13_210 ca_703 14 rfl kM6 dX13_clause_169 ?_
                        refine g_vret hc hm dX13_clause_172 ?_
                        have hp := hcl.put hl he6.2 hf hh
                        rw [if_pos (by omega), if_pos (by omega)] at hp
                        rw [show M6 = y_F M 1 v from by rw [hM6, hM5]; rfl]
                        exact y_cend (by rw [hF]; exact hp)
                      · skip
                        refine g_vret hc hm dX13_clause_161 ?_
                        have hp := hcl.put hl he6.2 hf hh
                        rw [if_neg (by omega), if_neg (by omega)] at hp
                        exact hend _ _ _ (by rw [hF]; exact hp)
            refine G_sub (L' := [some (gvr w 703), some (gvI (g_sgn (q_by M tx o) n s.1)), some (gvI 1), some (gvI v3), none]) (show g_le _ _ from ⟨rfl, ⟨rfl, ⟨rfl, ⟨rfl, trivial⟩⟩⟩⟩) ?_
            refine lp_134 1 _ _ _ _ _ (t_sk (q_by M tx o) n (t_suk (q_by M tx o) n 6 s3)) ?_ ?_ (?_)
            · exact y_cl.of (hy3.bad (F := t_sk (q_by M tx o) n) (h' := 15) (s0 := s3) (by omega) pb_sk hv3 (Int.le_refl _)) (by decide) (by rw [e3b]) (by omega)
            · rw [hcls2]; unfold t_cl8; rw [if_neg h33, ← hs3, t_sgb (hy3.bd (by omega)), if_neg (by unfold t_cp; decide)]
            · decide
          · skip
            have hqz : q3 = -1 := by omega
            subst hqz
            obtain ⟨g1, g2, g3, g4⟩ := hy3.at
            obtain ⟨sA, hsA⟩ : ∃ sA : g_S, sA = t_suk (q_by M tx o) n 6 s3 := ⟨_, rfl⟩
            rw [← hsA] at hy3 g1 g3 g4
            rw [g1, g2]
            have hpA := g_pos_in (B := (q_by M tx o)) (len := n) (a := sA.1) (by omega)
            refine g_aldn hc dX13_clause_102 rfl ?_
            refine g_V0r hc (c_X13_look w hR he (by omega) (by omega) (by omega)) my_X13_look mv_X13_look ca_703 rfl rfl lm_X13_144 rfl (by decide) (Nat.le_of_ble_eq_true rfl) hm dX13_clause_103 ?_
            obtain ⟨sB, hsB⟩ : ∃ sB : g_S, sB = t_sk (q_by M tx o) n sA := ⟨_, rfl⟩
            have eB : sB.1 = g_pos (q_by M tx o) n sA.1 := by rw [hsB]; rfl
            have hyB : y_res n Lf (6 - ((6 : Nat) : Int)) (2 * 6 + 3) s3 sB v3 sB.1 (-1) (6 - ((6 : Nat) : Int)) := by
              have z := hy3.sk (B := (q_by M tx o))
              rw [g1, g2] at z
              rw [hsB]
              exact z
            have hlB := hyB.len hl3
            have hqB := hyB.at.2.2.1
            rw [show g_pos (q_by M tx o) n sA.1 = sB.1 from eB.symm]
            refine g_S1r hc (c_X13_isSign w (by first | exact hI _ _ | exact y_sg32 (by omega) hB | exact g_b32 | exact g_and32 | assumption | exact ⟨by omega, by omega⟩)) my_X13_isSign ms_X13_isSign lm_X13_187 rfl (by decide) (Nat.le_of_ble_eq_true rfl) hm dX13_clause_106 ?_
            refine g_ifb_eq (tgt := 134) hc dX13_clause_109 (by decide)  (fun c15 => ?_) (fun c15 => ?_)
            · skip
              have hcp := c15
              have lp_134 : ∀ (fu : Nat) (v b a q d : Int) (sF : g_S), y_cl n Lf (6 - ((6 : Nat) : Int)) s sF v b a q d → t_cls (q_by M tx o) n s = t_put (-59) sF → (0 : Int) < (fu : Int) → G w x (y_pcl w M J R n Lf (6 - ((6 : Nat) : Int)) s (t_cls (q_by M tx o) n s) h f) 0 0 g_n (y_M M a q d) J R 134 [some (gvr w 703), some (gvI (g_sgn (q_by M tx o) n s.1)), some (gvI b), some (gvI v), none] [] := by
                intro fu
                induction fu with
                | zero => intro v b a q d sF hcl hF hfu; exfalso; omega
                | succ fu ih =>
                  intro v b a q d sF hcl hF hfu
                  have hv := hcl.1
                  have hbb := hcl.2.1
                  have hqb := hcl.2.2.2.2.1
                  have ih_134 := ih
                  refine g_aldn hc dX13_clause_134 rfl ?_
                  refine g_getIe hc lk_X13_134 ca_703 11 rfl (y_M_q) dX13_clause_135 ?_
                  refine g_iconst hc dX13_clause_138 ?_
                  refine g_icmp_ne (tgt := 161) hc dX13_clause_139 (by decide) (by first | exact hI _ _ | exact y_sg32 (by omega) hB | exact g_b32 | exact g_and32 | assumption | exact ⟨by omega, by omega⟩) (by first | exact hI _ _ | exact y_sg32 (by omega) hB | exact g_b32 | exact g_and32 | assumption | exact ⟨by omega, by omega⟩) (fun c16 => ?_) (fun c16 => ?_)
                  · skip
                    refine g_vret hc hm dX13_clause_161 ?_
                    have hp := hcl.put hl he6.2 hf hh
                    rw [if_neg (by omega), if_neg (by omega)] at hp
                    exact hend _ _ _ (by rw [hF]; exact hp)
                  · skip
                    refine g_aldn hc dX13_clause_142 rfl ?_
                    refine g_getIe hc lk_X13_203 ca_703 17 rfl ((y_M_j (by decide)).trans hh1) dX13_clause_143 ?_
                    refine g_if_ne (tgt := 161) hc dX13_clause_146 (by decide) (by rcases hh with z | z <;> rw [z] <;> exact ⟨by decide, by decide⟩) (fun c17 => ?_) (fun c17 => ?_)
                    · skip
                      refine g_vret hc hm dX13_clause_161 ?_
                      have hp := hcl.put hl he6.2 hf hh
                      rw [if_neg (by omega), if_neg (by omega)] at hp
                      exact hend _ _ _ (by rw [hF]; exact hp)
                    · skip
                      refine g_iload_n hc dX13_clause_149 rfl ?_
                      refine g_aldn hc dX13_clause_150 rfl ?_
                      refine g_getIe hc lk_X13_207 ca_703 13 rfl ((y_M_j (by decide)).trans hlab) dX13_clause_151 ?_
                      refine g_icmp_ne (tgt := 161) hc dX13_clause_154 (by decide) (by first | exact hI _ _ | exact y_sg32 (by omega) hB | exact g_b32 | exact g_and32 | assumption | exact ⟨by omega, by omega⟩) (by first | exact hI _ _ | exact y_sg32 (by omega) hB | exact g_b32 | exact g_and32 | assumption | exact ⟨by omega, by omega⟩) (fun c18 => ?_) (fun c18 => ?_)
                      · exfalso; omega
                      · skip
                        refine g_iload_n hc dX13_clause_157 rfl ?_
                        refine g_if_ne (tgt := 162) hc dX13_clause_158 (by decide) (by first | exact hI _ _ | exact y_sg32 (by omega) hB | exact g_b32 | exact g_and32 | assumption | exact ⟨by omega, by omega⟩) (fun c19 => ?_) (fun c19 => ?_)
                        · skip
                          refine g_aldn hc dX13_clause_162 rfl ?_
                          refine g_iconst hc dX13_clause_163 ?_
                          obtain ⟨M7, hM7⟩ : ∃ M7, M7 = g_up M 703 17 1 := ⟨_, rfl⟩
                          have kM7 : g_up (y_M M a q d) 703 17 1 = (y_M M7 a q d) := (y_M_p (by omega)).trans (by rw [hM7])
                          refine g_putZ' hc lk_X13_203 ca_703 (by first | exact g_b01 | omega) 17 rfl dX13_clause_164 (fun z9 hz9 => ?_)
                          rw [kM7] at hz9
                          subst hz9
                          refine g_aldn hc dX13_clause_167 rfl ?_
                          refine g_iload_n hc dX13_clause_168 rfl ?_
                          obtain ⟨M8, hM8⟩ : ∃ M8, M8 = g_up M7 703 14 v := ⟨_, rfl⟩
                          have kM8 : g_up (y_M M7 a q d) 703 14 v = (y_M M8 a q d) := (y_M_p (by omega)).trans (by rw [hM8])
                          refine g_putIe (I2 := (y_M M8 a q d)) hc lk_X13_210 ca_703 14 rfl kM8 dX13_clause_169 ?_
                          refine g_vret hc hm dX13_clause_172 ?_
                          have hp := hcl.put hl he6.2 hf hh
                          rw [if_pos (by omega), if_pos (by omega)] at hp
                          rw [show M8 = y_F M 1 v from by rw [hM8, hM7]; rfl]
                          exact y_cend (by rw [hF]; exact hp)
                        · skip
                          refine g_vret hc hm dX13_clause_161 ?_
                          have hp := hcl.put hl he6.2 hf hh
                          rw [if_neg (by omega), if_neg (by omega)] at hp
                          exact hend _ _ _ (by rw [hF]; exact hp)
              refine G_sub (L' := [some (gvr w 703), some (gvI (g_sgn (q_by M tx o) n s.1)), some (gvI 1), some (gvI v3), none]) (show g_le _ _ from ⟨rfl, ⟨rfl, ⟨rfl, ⟨rfl, trivial⟩⟩⟩⟩) ?_
              refine lp_134 1 _ _ _ _ _ sB ?_ ?_ (?_)
              · exact y_cl.of hyB (by decide) (by rw [e3b]) (by omega)
              · rw [hcls2]; unfold t_cl8; rw [if_neg h33, ← hs3, ← hsA, if_neg (show ¬ t_cp (t_sg _ _ _) from hcp), ← hsB]
              · decide
            · skip
              have hcp := c15
              refine g_aldn hc dX13_clause_112 rfl ?_
              refine g_iconst hc dX13_clause_113 ?_
              refine g_iload_n hc dX13_clause_114 rfl ?_
              refine g_V2 hc (hco hR he (s := sB) (s0 := s3) (e := 1) (r := v3) ⟨by omega, by omega⟩ hqB hlB hl3 (Or.inr ⟨rfl, hyB⟩)) my_X13_condition mv_X13_condition ca_703 rfl rfl lm_X13_193 rfl (by decide) (Nat.le_of_ble_eq_true rfl) hm dX13_clause_115 (fun rY4 nY4 IY4 JY4 RY4 hpY4 => ?_)
              obtain ⟨rfl, rfl, rfl, v4, a4, q4, d4, rfl, rfl, hy4, hb4⟩ := hpY4
              have hv4 : g32 v4 := hy4.1
              have ha4 : 0 ≤ a4 ∧ a4 ≤ n := hy4.2.1
              have hd4 := hy4.2.2.1
              have hq4 : -1 ≤ q4 ∧ q4 ≤ 240 := hy4.2.2.2.1
              have hz4 : v4 = 0 ∨ v4 = 1 := hb4 rfl
              refine g_istore_2 hc dX13_clause_118 rfl ?_
              refine g_aldn hc dX13_clause_119 rfl ?_
              refine g_bipush hc dX13_clause_120 (by decide +kernel) ?_
              refine g_V1r hc (c_X13_takes w hR he (by omega) (by omega) (by omega) (by exact ⟨by decide, by decide⟩)) my_X13_takes mv_X13_takes ca_703 rfl rfl lm_X13_170 rfl (by decide) (Nat.le_of_ble_eq_true rfl) hm dX13_clause_122 ?_
              refine g_ifb_ne (tgt := 129) hc dX13_clause_125 (by decide)  (fun c20 => ?_) (fun c20 => ?_)
              · skip
                obtain ⟨hq9, hs9⟩ : q4 = -1 ∧ g_sgn (q_by M tx o) n a4 = 63 := c20
                rw [if_pos hq9, if_pos hq9, if_pos hs9, if_pos hs9]
                subst hq9
                obtain ⟨f1, f2, f3, f4⟩ := hy4.at
                have hlt4 := y_sgp (B := (q_by M tx o)) (n := n) (a := a4) (by omega)
                have hp4 := g_pos_in (B := (q_by M tx o)) (len := n) (a := a4) (by omega)
                have hl4 := hy4.len hl3
                obtain ⟨s6, hs6⟩ : ∃ s6 : g_S, s6 = t_put (-63) (t_wn (q_by M tx o) n 63 (t_cok (q_by M tx o) n 6 1 sB)) := ⟨_, rfl⟩
                have ew : t_wn (q_by M tx o) n 63 (t_cok (q_by M tx o) n 6 1 sB) = t_adv (t_sk (q_by M tx o) n (t_cok (q_by M tx o) n 6 1 sB)) := y_wn1 (by rw [← f1]; exact hs9)
                have e6 : s6.1 = g_pos (q_by M tx o) n a4 + 1 := by rw [hs6, ew, f1]; rfl
                have e6b : s6.2.1 = -1 := by rw [hs6, ew]; exact f3
                have e6c : s6.2.2 = (t_cok (q_by M tx o) n 6 1 sB).2.2 ++ [-63] := by rw [hs6, ew]; show (if (t_cok (q_by M tx o) n 6 1 sB).2.2.length < 256 then _ else _) = _; rw [if_pos (by omega)]; rfl
                have hl6 : (s6.2.2.length : Int) ≤ s6.1 := by rw [e6c, List.length_append, List.length_singleton]; omega
                rw [show g_pos (q_by M tx o) n a4 + 1 = s6.1 from e6.symm, f2]
                refine g_aldn hc dX13_clause_129 rfl ?_
                refine g_V0 hc (hsu hR he (s := s6) ⟨by omega, by omega⟩ e6b hl6) my_X13_sum mv_X13_sum ca_703 rfl rfl lm_X13_167 rfl (by decide) (Nat.le_of_ble_eq_true rfl) hm dX13_clause_130 (fun rY5 nY5 IY5 JY5 RY5 hpY5 => ?_)
                obtain ⟨rfl, rfl, rfl, v5, a5, q5, d5, rfl, rfl, hy5, hb5⟩ := hpY5
                have hv5 : g32 v5 := hy5.1
                have ha5 : 0 ≤ a5 ∧ a5 ≤ n := hy5.2.1
                have hd5 := hy5.2.2.1
                have hq5 : -1 ≤ q5 ∧ q5 ≤ 240 := hy5.2.2.2.1
                refine g_istore_3 hc dX13_clause_133 rfl ?_
                have lp_134 : ∀ (fu : Nat) (v b a q d : Int) (sF : g_S), y_cl n Lf (6 - ((6 : Nat) : Int)) s sF v b a q d → t_cls (q_by M tx o) n s = t_put (-59) sF → (0 : Int) < (fu : Int) → G w x (y_pcl w M J R n Lf (6 - ((6 : Nat) : Int)) s (t_cls (q_by M tx o) n s) h f) 0 0 g_n (y_M M a q d) J R 134 [some (gvr w 703), some (gvI (g_sgn (q_by M tx o) n s.1)), some (gvI b), some (gvI v), none] [] := by
                  intro fu
                  induction fu with
                  | zero => intro v b a q d sF hcl hF hfu; exfalso; omega
                  | succ fu ih =>
                    intro v b a q d sF hcl hF hfu
                    have hv := hcl.1
                    have hbb := hcl.2.1
                    have hqb := hcl.2.2.2.2.1
                    have ih_134 := ih
                    refine g_aldn hc dX13_clause_134 rfl ?_
                    refine g_getIe hc lk_X13_134 ca_703 11 rfl (y_M_q) dX13_clause_135 ?_
                    refine g_iconst hc dX13_clause_138 ?_
                    refine g_icmp_ne (tgt := 161) hc dX13_clause_139 (by decide) (by first | exact hI _ _ | exact y_sg32 (by omega) hB | exact g_b32 | exact g_and32 | assumption | exact ⟨by omega, by omega⟩) (by first | exact hI _ _ | exact y_sg32 (by omega) hB | exact g_b32 | exact g_and32 | assumption | exact ⟨by omega, by omega⟩) (fun c21 => ?_) (fun c21 => ?_)
                    · skip
                      refine g_vret hc hm dX13_clause_161 ?_
                      have hp := hcl.put hl he6.2 hf hh
                      rw [if_neg (by omega), if_neg (by omega)] at hp
                      exact hend _ _ _ (by rw [hF]; exact hp)
                    · skip
                      refine g_aldn hc dX13_clause_142 rfl ?_
                      refine g_getIe hc lk_X13_203 ca_703 17 rfl ((y_M_j (by decide)).trans hh1) dX13_clause_143 ?_
                      refine g_if_ne (tgt := 161) hc dX13_clause_146 (by decide) (by rcases hh with z | z <;> rw [z] <;> exact ⟨by decide, by decide⟩) (fun c22 => ?_) (fun c22 => ?_)
                      · skip
                        refine g_vret hc hm dX13_clause_161 ?_
                        have hp := hcl.put hl he6.2 hf hh
                        rw [if_neg (by omega), if_neg (by omega)] at hp
                        exact hend _ _ _ (by rw [hF]; exact hp)
                      · skip
                        refine g_iload_n hc dX13_clause_149 rfl ?_
                        refine g_aldn hc dX13_clause_150 rfl ?_
                        refine g_getIe hc lk_X13_207 ca_703 13 rfl ((y_M_j (by decide)).trans hlab) dX13_clause_151 ?_
                        refine g_icmp_ne (tgt := 161) hc dX13_clause_154 (by decide) (by first | exact hI _ _ | exact y_sg32 (by omega) hB | exact g_b32 | exact g_and32 | assumption | exact ⟨by omega, by omega⟩) (by first | exact hI _ _ | exact y_sg32 (by omega) hB | exact g_b32 | exact g_and32 | assumption | exact ⟨by omega, by omega⟩) (fun c23 => ?_) (fun c23 => ?_)
                        · exfalso; omega
                        · skip
                          refine g_iload_n hc dX13_clause_157 rfl ?_
                          refine g_if_ne (tgt := 162) hc dX13_clause_158 (by decide) (by first | exact hI _ _ | exact y_sg32 (by omega) hB | exact g_b32 | exact g_and32 | assumption | exact ⟨by omega, by omega⟩) (fun c24 => ?_) (fun c24 => ?_)
                          · skip
                            refine g_aldn hc dX13_clause_162 rfl ?_
                            refine g_iconst hc dX13_clause_163 ?_
                            obtain ⟨M9, hM9⟩ : ∃ M9, M9 = g_up M 703 17 1 := ⟨_, rfl⟩
                            have kM9 : g_up (y_M M a q d) 703 17 1 = (y_M M9 a q d) := (y_M_p (by omega)).trans (by rw [hM9])
                            refine g_putZ' hc lk_X13_203 ca_703 (by first | exact g_b01 | omega) 17 rfl dX13_clause_164 (fun z9 hz9 => ?_)
                            rw [kM9] at hz9
                            subst hz9
                            refine g_aldn hc dX13_clause_167 rfl ?_
                            refine g_iload_n hc dX13_clause_168 rfl ?_
                            obtain ⟨M10, hM10⟩ : ∃ M10, M10 = g_up M9 703 14 v := ⟨_, rfl⟩
                            have kM10 : g_up (y_M M9 a q d) 703 14 v = (y_M M10 a q d) := (y_M_p (by omega)).trans (by rw [hM10])
                            refine g_putIe (I2 := (y_M M10 a q d)) hc lk_X13_210 ca_703 14 rfl kM10 dX13_clause_169 ?_
                            refine g_vret hc hm dX13_clause_172 ?_
                            have hp := hcl.put hl he6.2 hf hh
                            rw [if_pos (by omega), if_pos (by omega)] at hp
                            rw [show M10 = y_F M 1 v from by rw [hM10, hM9]; rfl]
                            exact y_cend (by rw [hF]; exact hp)
                          · skip
                            refine g_vret hc hm dX13_clause_161 ?_
                            have hp := hcl.put hl he6.2 hf hh
                            rw [if_neg (by omega), if_neg (by omega)] at hp
                            exact hend _ _ _ (by rw [hF]; exact hp)
                refine G_sub (L' := [some (gvr w 703), some (gvI (g_sgn (q_by M tx o) n s.1)), some (gvI v4), some (gvI v5), none]) (show g_le _ _ from ⟨rfl, ⟨rfl, ⟨rfl, ⟨rfl, trivial⟩⟩⟩⟩) ?_
                refine lp_134 1 _ _ _ _ _ (t_suk (q_by M tx o) n 6 s6) ?_ ?_ (?_)
                · exact y_cl.of2 hy4 hz4 (by omega) (by rw [e3b]) (by omega) e6c (by omega) hy5 (by omega)
                · rw [hcls2]; unfold t_cl8; rw [if_neg h33, ← hs3, ← hsA, if_pos (show t_cp (t_sg _ _ _) from hcp), ← hsB]; show t_put (-59) (t_suk _ _ 6 (t_put (-63) (t_wn _ _ 63 (t_cok _ _ 6 1 sB)))) = _; rw [← hs6]
                · decide
              · skip
                have hnc := c20
                refine g_vret hc hm dX13_clause_128 ?_
                have hw := hy4.wnF (B := (q_by M tx o)) (c := 63) (h' := 0) (s0 := s3) he6.2 hnc (by decide) (Int.le_refl _)
                obtain ⟨qq, hqq⟩ : ∃ z, z = (if q4 = -1 then (if g_sgn (q_by M tx o) n a4 = 63 then -1 else g_pos (q_by M tx o) n a4) else q4) := ⟨_, rfl⟩
                have hpz := g_pos_in (B := (q_by M tx o)) (len := n) (a := a4) (by omega)
                have hqn : ¬ qq = -1 := by
                  rw [hqq]
                  by_cases z : q4 = -1
                  · rw [if_pos z, if_neg (fun y => hnc ⟨z, y⟩)]; omega
                  · rw [if_neg z]; exact z
                rw [← hqq] at hw ⊢
                have hcl : t_cls (q_by M tx o) n s = t_put (-59) (t_suk (q_by M tx o) n 6 (t_put (-63) (t_wn (q_by M tx o) n 63 (t_cok (q_by M tx o) n 6 1 sB)))) := by
                  rw [hcls2]; unfold t_cl8; rw [if_neg h33, ← hs3, ← hsA, if_pos (show t_cp (t_sg _ _ _) from hcp), ← hsB]; rfl
                exact hend _ _ _ (by rw [hcl]; exact y_cr.bad (G := fun z => t_put (-59) (t_suk (q_by M tx o) n 6 (t_put (-63) z))) (hw.bd hqn) pb_c63 hw.2.2.2.2.1 hf hh hw.2.1 hw.2.2.1 hw.2.2.2.1)
        · skip
          have h33 : t_sg (q_by M tx o) n s2 = 33 ∨ t_sg (q_by M tx o) n s2 = 40 := Or.inr c9
          refine g_aldn hc dX13_clause_64 rfl ?_
          refine g_iconst hc dX13_clause_65 ?_
          refine g_iconst hc dX13_clause_66 ?_
          refine g_V2 hc (hco hR he (s := s3) (s0 := s3) (e := 0) (r := 0) ⟨by omega, by omega⟩ hq3 hl3 hl3 (Or.inl ⟨rfl, rfl⟩)) my_X13_condition mv_X13_condition ca_703 rfl rfl lm_X13_193 rfl (by decide) (Nat.le_of_ble_eq_true rfl) hm dX13_clause_67 (fun rY1 nY1 IY1 JY1 RY1 hpY1 => ?_)
          obtain ⟨rfl, rfl, rfl, v1, a1, q1, d1, rfl, rfl, hy1, hb1⟩ := hpY1
          have hv1 : g32 v1 := hy1.1
          have ha1 : 0 ≤ a1 ∧ a1 ≤ n := hy1.2.1
          have hd1 := hy1.2.2.1
          have hq1 : -1 ≤ q1 ∧ q1 ≤ 240 := hy1.2.2.2.1
          have hz1 : v1 = 0 ∨ v1 = 1 := hb1 rfl
          refine g_istore_2 hc dX13_clause_70 rfl ?_
          refine g_aldn hc dX13_clause_71 rfl ?_
          refine g_bipush hc dX13_clause_72 (by decide +kernel) ?_
          refine g_V1r hc (c_X13_takes w hR he (by omega) (by omega) (by omega) (by exact ⟨by decide, by decide⟩)) my_X13_takes mv_X13_takes ca_703 rfl rfl lm_X13_170 rfl (by decide) (Nat.le_of_ble_eq_true rfl) hm dX13_clause_74 ?_
          refine g_ifb_ne (tgt := 81) hc dX13_clause_77 (by decide)  (fun c25 => ?_) (fun c25 => ?_)
          · skip
            obtain ⟨hq9, hs9⟩ : q1 = -1 ∧ g_sgn (q_by M tx o) n a1 = 63 := c25
            rw [if_pos hq9, if_pos hq9, if_pos hs9, if_pos hs9]
            subst hq9
            obtain ⟨f1, f2, f3, f4⟩ := hy1.at
            have hlt4 := y_sgp (B := (q_by M tx o)) (n := n) (a := a1) (by omega)
            have hp4 := g_pos_in (B := (q_by M tx o)) (len := n) (a := a1) (by omega)
            have hl4 := hy1.len hl3
            obtain ⟨s6, hs6⟩ : ∃ s6 : g_S, s6 = t_put (-63) (t_wn (q_by M tx o) n 63 (t_cok (q_by M tx o) n 6 0 s3)) := ⟨_, rfl⟩
            have ew : t_wn (q_by M tx o) n 63 (t_cok (q_by M tx o) n 6 0 s3) = t_adv (t_sk (q_by M tx o) n (t_cok (q_by M tx o) n 6 0 s3)) := y_wn1 (by rw [← f1]; exact hs9)
            have e6 : s6.1 = g_pos (q_by M tx o) n a1 + 1 := by rw [hs6, ew, f1]; rfl
            have e6b : s6.2.1 = -1 := by rw [hs6, ew]; exact f3
            have e6c : s6.2.2 = (t_cok (q_by M tx o) n 6 0 s3).2.2 ++ [-63] := by rw [hs6, ew]; show (if (t_cok (q_by M tx o) n 6 0 s3).2.2.length < 256 then _ else _) = _; rw [if_pos (by omega)]; rfl
            have hl6 : (s6.2.2.length : Int) ≤ s6.1 := by rw [e6c, List.length_append, List.length_singleton]; omega
            rw [show g_pos (q_by M tx o) n a1 + 1 = s6.1 from e6.symm, f2]
            refine g_aldn hc dX13_clause_81 rfl ?_
            refine g_V0 hc (hsu hR he (s := s6) ⟨by omega, by omega⟩ e6b hl6) my_X13_sum mv_X13_sum ca_703 rfl rfl lm_X13_167 rfl (by decide) (Nat.le_of_ble_eq_true rfl) hm dX13_clause_82 (fun rY2 nY2 IY2 JY2 RY2 hpY2 => ?_)
            obtain ⟨rfl, rfl, rfl, v2, a2, q2, d2, rfl, rfl, hy2, hb2⟩ := hpY2
            have hv2 : g32 v2 := hy2.1
            have ha2 : 0 ≤ a2 ∧ a2 ≤ n := hy2.2.1
            have hd2 := hy2.2.2.1
            have hq2 : -1 ≤ q2 ∧ q2 ≤ 240 := hy2.2.2.2.1
            refine g_istore_3 hc dX13_clause_85 rfl ?_
            refine g_goto (tgt := 134) hc dX13_clause_86 (by decide) ?_
            have lp_134 : ∀ (fu : Nat) (v b a q d : Int) (sF : g_S), y_cl n Lf (6 - ((6 : Nat) : Int)) s sF v b a q d → t_cls (q_by M tx o) n s = t_put (-59) sF → (0 : Int) < (fu : Int) → G w x (y_pcl w M J R n Lf (6 - ((6 : Nat) : Int)) s (t_cls (q_by M tx o) n s) h f) 0 0 g_n (y_M M a q d) J R 134 [some (gvr w 703), some (gvI (g_sgn (q_by M tx o) n s.1)), some (gvI b), some (gvI v), none] [] := by
              intro fu
              induction fu with
              | zero => intro v b a q d sF hcl hF hfu; exfalso; omega
              | succ fu ih =>
                intro v b a q d sF hcl hF hfu
                have hv := hcl.1
                have hbb := hcl.2.1
                have hqb := hcl.2.2.2.2.1
                have ih_134 := ih
                refine g_aldn hc dX13_clause_134 rfl ?_
                refine g_getIe hc lk_X13_134 ca_703 11 rfl (y_M_q) dX13_clause_135 ?_
                refine g_iconst hc dX13_clause_138 ?_
                refine g_icmp_ne (tgt := 161) hc dX13_clause_139 (by decide) (by first | exact hI _ _ | exact y_sg32 (by omega) hB | exact g_b32 | exact g_and32 | assumption | exact ⟨by omega, by omega⟩) (by first | exact hI _ _ | exact y_sg32 (by omega) hB | exact g_b32 | exact g_and32 | assumption | exact ⟨by omega, by omega⟩) (fun c26 => ?_) (fun c26 => ?_)
                · skip
                  refine g_vret hc hm dX13_clause_161 ?_
                  have hp := hcl.put hl he6.2 hf hh
                  rw [if_neg (by omega), if_neg (by omega)] at hp
                  exact hend _ _ _ (by rw [hF]; exact hp)
                · skip
                  refine g_aldn hc dX13_clause_142 rfl ?_
                  refine g_getIe hc lk_X13_203 ca_703 17 rfl ((y_M_j (by decide)).trans hh1) dX13_clause_143 ?_
                  refine g_if_ne (tgt := 161) hc dX13_clause_146 (by decide) (by rcases hh with z | z <;> rw [z] <;> exact ⟨by decide, by decide⟩) (fun c27 => ?_) (fun c27 => ?_)
                  · skip
                    refine g_vret hc hm dX13_clause_161 ?_
                    have hp := hcl.put hl he6.2 hf hh
                    rw [if_neg (by omega), if_neg (by omega)] at hp
                    exact hend _ _ _ (by rw [hF]; exact hp)
                  · skip
                    refine g_iload_n hc dX13_clause_149 rfl ?_
                    refine g_aldn hc dX13_clause_150 rfl ?_
                    refine g_getIe hc lk_X13_207 ca_703 13 rfl ((y_M_j (by decide)).trans hlab) dX13_clause_151 ?_
                    refine g_icmp_ne (tgt := 161) hc dX13_clause_154 (by decide) (by first | exact hI _ _ | exact y_sg32 (by omega) hB | exact g_b32 | exact g_and32 | assumption | exact ⟨by omega, by omega⟩) (by first | exact hI _ _ | exact y_sg32 (by omega) hB | exact g_b32 | exact g_and32 | assumption | exact ⟨by omega, by omega⟩) (fun c28 => ?_) (fun c28 => ?_)
                    · exfalso; omega
                    · skip
                      refine g_iload_n hc dX13_clause_157 rfl ?_
                      refine g_if_ne (tgt := 162) hc dX13_clause_158 (by decide) (by first | exact hI _ _ | exact y_sg32 (by omega) hB | exact g_b32 | exact g_and32 | assumption | exact ⟨by omega, by omega⟩) (fun c29 => ?_) (fun c29 => ?_)
                      · skip
                        refine g_aldn hc dX13_clause_162 rfl ?_
                        refine g_iconst hc dX13_clause_163 ?_
                        obtain ⟨M11, hM11⟩ : ∃ M11, M11 = g_up M 703 17 1 := ⟨_, rfl⟩
                        have kM11 : g_up (y_M M a q d) 703 17 1 = (y_M M11 a q d) := (y_M_p (by omega)).trans (by rw [hM11])
                        refine g_putZ' hc lk_X13_203 ca_703 (by first | exact g_b01 | omega) 17 rfl dX13_clause_164 (fun z9 hz9 => ?_)
                        rw [kM11] at hz9
                        subst hz9
                        refine g_aldn hc dX13_clause_167 rfl ?_
                        refine g_iload_n hc dX13_clause_168 rfl ?_
                        obtain ⟨M12, hM12⟩ : ∃ M12, M12 = g_up M11 703 14 v := ⟨_, rfl⟩
                        have kM12 : g_up (y_M M11 a q d) 703 14 v = (y_M M12 a q d) := (y_M_p (by omega)).trans (by rw [hM12])
                        refine g_putIe (I2 := (y_M M12 a q d)) hc lk_X13_210 ca_703 14 rfl kM12 dX13_clause_169 ?_
                        refine g_vret hc hm dX13_clause_172 ?_
                        have hp := hcl.put hl he6.2 hf hh
                        rw [if_pos (by omega), if_pos (by omega)] at hp
                        rw [show M12 = y_F M 1 v from by rw [hM12, hM11]; rfl]
                        exact y_cend (by rw [hF]; exact hp)
                      · skip
                        refine g_vret hc hm dX13_clause_161 ?_
                        have hp := hcl.put hl he6.2 hf hh
                        rw [if_neg (by omega), if_neg (by omega)] at hp
                        exact hend _ _ _ (by rw [hF]; exact hp)
            refine G_sub (L' := [some (gvr w 703), some (gvI (g_sgn (q_by M tx o) n s.1)), some (gvI v1), some (gvI v2), none]) (show g_le _ _ from ⟨rfl, ⟨rfl, ⟨rfl, ⟨rfl, trivial⟩⟩⟩⟩) ?_
            refine lp_134 1 _ _ _ _ _ (t_suk (q_by M tx o) n 6 s6) ?_ ?_ (?_)
            · exact y_cl.of2 hy1 hz1 (by omega) (by rw [e3b]) (by omega) e6c (by omega) hy2 (by omega)
            · rw [hcls2]; unfold t_cl8; rw [if_pos h33, ← hs3]; show t_put (-59) (t_suk _ _ 6 (t_put (-63) (t_wn _ _ 63 (t_cok _ _ 6 0 s3)))) = _; rw [← hs6]
            · decide
          · skip
            have hnc := c25
            refine g_vret hc hm dX13_clause_80 ?_
            have hw := hy1.wnF (B := (q_by M tx o)) (c := 63) (h' := 0) (s0 := s3) he6.2 hnc (by decide) (Int.le_refl _)
            obtain ⟨qq, hqq⟩ : ∃ z, z = (if q1 = -1 then (if g_sgn (q_by M tx o) n a1 = 63 then -1 else g_pos (q_by M tx o) n a1) else q1) := ⟨_, rfl⟩
            have hpz := g_pos_in (B := (q_by M tx o)) (len := n) (a := a1) (by omega)
            have hqn : ¬ qq = -1 := by
              rw [hqq]
              by_cases z : q1 = -1
              · rw [if_pos z, if_neg (fun y => hnc ⟨z, y⟩)]; omega
              · rw [if_neg z]; exact z
            rw [← hqq] at hw ⊢
            have hcl : t_cls (q_by M tx o) n s = t_put (-59) (t_suk (q_by M tx o) n 6 (t_put (-63) (t_wn (q_by M tx o) n 63 (t_cok (q_by M tx o) n 6 0 s3)))) := by
              rw [hcls2]; unfold t_cl8; rw [if_pos h33, ← hs3]; rfl
            exact hend _ _ _ (by rw [hcl]; exact y_cr.bad (G := fun z => t_put (-59) (t_suk (q_by M tx o) n 6 (t_put (-63) z))) (hw.bd hqn) pb_c63 hw.2.2.2.2.1 hf hh hw.2.1 hw.2.2.1 hw.2.2.2.1)
    · skip
      have h58 : ¬ g_sgn (q_by M tx o) n s1.1 = 58 := fun z => c2 ⟨rfl, z⟩
      refine g_vret hc hm dX13_clause_39 ?_
      obtain ⟨w1, w2⟩ := y_wn0 (B := (q_by M tx o)) (n := n) (s := s1) (by rw [e1b]; exact hq0) (by omega) h58
      rw [if_pos rfl, if_pos rfl, if_neg h58, if_neg h58]
      exact hend _ _ _ (by rw [t_cls8, hw1]; exact y_cr.bad (G := fun z => t_put (-59) (t_cl8 (q_by M tx o) n z)) ⟨w1, by rw [w2]; omega⟩ pb_cl7 w2 hf hh ⟨by omega, by omega⟩ ⟨by omega, by omega⟩ ⟨by omega, by omega⟩)
  · skip
    have h121 := c1
    refine g_aldn hc dX13_clause_14 rfl ?_
    refine g_V0r hc (c_X13_fails w hR he (by omega) (by omega) (by omega)) my_X13_fails mv_X13_fails ca_703 rfl rfl lm_X13_140 rfl (by decide) (Nat.le_of_ble_eq_true rfl) hm dX13_clause_15 ?_
    rw [show g_q1 (-1) (g_pos (q_by M tx o) n s.1) = g_pos (q_by M tx o) n s.1 from if_pos rfl]
    refine g_pop hc dX13_clause_18 rfl ?_
    refine g_vret hc hm dX13_clause_19 ?_
    obtain ⟨w1, w2⟩ := y_wn0 (B := (q_by M tx o)) (n := n) hq0 hs.2 h121
    exact hend _ _ _ (by rw [t_cls8]; exact y_cr.bad (G := fun z => t_put (-59) (t_cl8 (q_by M tx o) n (t_wn (q_by M tx o) n 58 z))) ⟨w1, by rw [w2]; omega⟩ pb_cl9 w2 hf hh ⟨by omega, hp.2⟩ ⟨by omega, by omega⟩ ⟨by omega, by omega⟩)
