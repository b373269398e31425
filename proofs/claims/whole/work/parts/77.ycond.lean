theorem y_unk1 {B : Int → Int} {n : Int} {s : g_S} (k : Nat) (h : s.1 ≤ n) : t_unk B n k 1 s = t_cmp B n (t_suk B n k) 1 s := by
  cases k with
  | zero =>
    show t_unit B n (t_suk B n 0) none 1 s = _
    unfold t_unit
    rw [if_neg (fun z => absurd z.1 (by decide)), if_neg (fun z => absurd z.1 (by decide)), t_cmp_sk h]
  | succ k =>
    show t_unit B n (t_suk B n (k + 1)) (some (t_unk B n k 0, t_con B n (t_tru B n (t_unk B n k)) 0)) 1 s = _
    unfold t_unit
    rw [if_neg (fun z => absurd z.1 (by decide)), if_neg (fun z => absurd z.1 (by decide)), t_cmp_sk h]
set_option maxHeartbeats 4000000 in
set_option maxRecDepth 100000 in
/-- X13_compares -/
theorem y_compares (w : g_W) {J : g_J} {R : g_R} {lb tx ln : Nat} (hR : g_rf w R lb tx) {M : g_I} {o n : Int} {Lf : Int → Int} (he : y_env M tx ln o n Lf) {k : Nat} (hk : k ≤ 6) {s : g_S} (hs : 0 ≤ s.1 ∧ s.1 ≤ n) (hq0 : s.2.1 = -1) (hl : (s.2.2.length : Int) ≤ s.1) {s0 : g_S} {e r : Int} (hl0 : (s0.2.2.length : Int) ≤ s0.1) (H : e = 0 ∧ s0 = s ∨ e = 1 ∧ y_res n Lf (6 - (k : Int)) (2 * k + 3) s0 s r s.1 (-1) (6 - (k : Int))) (hA : y_Csum w k) : g_Met w g_n (y_M M s.1 (-1) (6 - (k : Int))) J R yX13_compares cX13_compares 6 (some .boolean) (9 + 3 * k) 0 0 [(gvr w 703), (gvI e), (gvI r)] (y_post w M J R n Lf (6 - (k : Int)) (2 * k + 4) s0 (t_cmp (q_by M tx o) n (t_suk (q_by M tx o) n k) e s) true) := by
  refine g_intro (own := RX13) [some (gvr w 703), some (gvI e), some (gvI r), none, none, none] (by decide +kernel) rfl (by decide) (Nat.le_of_ble_eq_true rfl) rfl (fun i v hv => g_args 3 i v hv rfl) (fun x hc hm => ?_)
  obtain ⟨⟨he1, he2⟩, ⟨he3, he4, he5⟩, he6, hB, hI, hLt, hat, hx3⟩ := id he
  have he01 : e = 0 ∨ e = 1 := by rcases H with ⟨h, -⟩ | ⟨h, -⟩ <;> omega
  have H1 : ¬ e = 0 → y_res n Lf (6 - (k : Int)) (2 * k + 3) s0 s r s.1 (-1) (6 - (k : Int)) := fun z => by
    rcases H with ⟨h, -⟩ | ⟨-, h⟩
    · exact absurd h z
    · exact h
  have H0 : e = 0 → s0 = s := fun z => by
    rcases H with ⟨-, h⟩ | ⟨h, -⟩
    · exact h
    · omega
  refine g_iload_n hc dX13_compares_0 rfl ?_
  refine g_if_eq (tgt := 8) hc dX13_compares_1 (by decide) (by first | exact hI _ _ | exact y_sg32 (by omega) hB | exact g_b32 | exact g_and32 | assumption | exact ⟨by omega, by omega⟩) (fun c1 => ?_) (fun c1 => ?_)
  · skip
    refine g_aldn hc dX13_compares_8 rfl ?_
    refine g_V0 hc (hA hR he hs hq0 hl) my_X13_sum mv_X13_sum ca_703 rfl rfl lm_X13_167 rfl (by omega) (Nat.le_of_ble_eq_true rfl) hm dX13_compares_9 (fun rY1 nY1 IY1 JY1 RY1 hpY1 => ?_)
    obtain ⟨rfl, rfl, rfl, v1, a1, q1, d1, rfl, rfl, hy1, hb1⟩ := hpY1
    have hv1 : g32 v1 := hy1.1
    have ha1 : 0 ≤ a1 ∧ a1 ≤ n := hy1.2.1
    have hd1 := hy1.2.2.1
    have hq1 : -1 ≤ q1 ∧ q1 ≤ 240 := hy1.2.2.2.1
    refine g_istore_3 hc dX13_compares_12 rfl ?_
    have lp_13 : ∀ (fu : Nat) (v i q dd : Int) (sA : g_S), y_res n Lf (6 - (k : Int)) (2 * k + 3) s0 sA v i q dd → (if e = 0 then t_suk (q_by M tx o) n k s else s) = sA → (0 : Int) < (fu : Int) → G w x (y_post w M J R n Lf (6 - (k : Int)) (2 * k + 4) s0 (t_cmp (q_by M tx o) n (t_suk (q_by M tx o) n k) e s) true) 0 0 g_n (y_M M i q dd) J R 13 [some (gvr w 703), some (gvI e), some (gvI r), some (gvI v), none, none] [] := by
      intro fu
      induction fu with
      | zero => intro v i q dd sA hy hA9 hfu; exfalso; omega
      | succ fu ih =>
        intro v i q dd sA hy hA9 hfu
        have hv := hy.1
        have hqb := hy.2.2.2.1
        have ih_13 := ih
        refine g_aldn hc dX13_compares_13 rfl ?_
        refine g_getIe hc lk_X13_134 ca_703 11 rfl (y_M_q) dX13_compares_14 ?_
        refine g_iconst hc dX13_compares_17 ?_
        refine g_icmp_eq (tgt := 23) hc dX13_compares_18 (by decide) (by first | exact hI _ _ | exact y_sg32 (by omega) hB | exact g_b32 | exact g_and32 | assumption | exact ⟨by omega, by omega⟩) (by first | exact hI _ _ | exact y_sg32 (by omega) hB | exact g_b32 | exact g_and32 | assumption | exact ⟨by omega, by omega⟩) (fun c2 => ?_) (fun c2 => ?_)
        · skip
          have hqz : q = -1 := by omega
          subst hqz
          obtain ⟨hi1, he8, hQ, hss⟩ := hy.at
          subst hi1
          subst he8
          have hl1 := hy.len hl0
          have hi := hy.2.1
          have hp := g_pos_in (B := (q_by M tx o)) (len := n) (a := sA.1) hi.2
          refine g_aldn hc dX13_compares_23 rfl ?_
          refine g_V0r hc (c_X13_look w hR he (by omega) (by omega) (by omega)) my_X13_look mv_X13_look ca_703 rfl rfl lm_X13_144 rfl (by omega) (Nat.le_of_ble_eq_true rfl) hm dX13_compares_24 ?_
          refine g_istore_4 hc dX13_compares_27 rfl ?_
          refine g_iload hc dX13_compares_29 rfl ?_
          refine g_S1r hc (c_X13_isSign w (by first | exact hI _ _ | exact y_sg32 (by omega) hB | exact g_b32 | exact g_and32 | assumption | exact ⟨by omega, by omega⟩)) my_X13_isSign ms_X13_isSign lm_X13_187 rfl (by omega) (Nat.le_of_ble_eq_true rfl) hm dX13_compares_31 ?_
          refine g_ifb_ne (tgt := 42) hc dX13_compares_34 (by decide)  (fun c3 => ?_) (fun c3 => ?_)
          · skip
            have hcp := c3
            have hlt := y_sgp (B := (q_by M tx o)) (n := n) (a := sA.1) (by unfold t_cp at hcp; omega)
            refine g_aldn hc dX13_compares_42 rfl ?_
            refine g_dup hc dX13_compares_43 rfl ?_
            refine g_getIe hc lk_X13_125 ca_703 10 rfl (y_M_a) dX13_compares_44 ?_
            refine g_iconst hc dX13_compares_47 ?_
            refine g_iadd hc dX13_compares_48 ?_
            refine g_putIe (I2 := (y_M M ((g_pos (q_by M tx o) n sA.1) + 1) (-1) (6 - (k : Int)))) hc lk_X13_125 ca_703 10 rfl y_M_pa dX13_compares_49 ?_
            refine g_aldn hc dX13_compares_52 rfl ?_
            refine g_V0 hc ((hA hR he (s := (t_adv (t_sk (q_by M tx o) n sA))) ⟨by show 0 ≤ g_pos (q_by M tx o) n sA.1 + 1; omega, by show g_pos (q_by M tx o) n sA.1 + 1 ≤ n; omega⟩ (show sA.2.1 = -1 from hQ) (by show (sA.2.2.length : Int) ≤ g_pos (q_by M tx o) n sA.1 + 1; omega))) my_X13_sum mv_X13_sum ca_703 rfl rfl lm_X13_167 rfl (by omega) (Nat.le_of_ble_eq_true rfl) hm dX13_compares_53 (fun rY9 nY9 IY9 JY9 RY9 hpY9 => ?_)
            obtain ⟨rfl, rfl, rfl, v9, a9, q9, d9, rfl, rfl, hy9, hb9⟩ := hpY9
            have hv9 : g32 v9 := hy9.1
            have ha9 : 0 ≤ a9 ∧ a9 ≤ n := hy9.2.1
            have hd9 := hy9.2.2.1
            have hq9 : -1 ≤ q9 ∧ q9 ≤ 240 := hy9.2.2.2.1
            obtain ⟨vB, hvB⟩ : ∃ z, z = v9 := ⟨_, rfl⟩
            have hop := (hy.mono (h2 := 2 * k + 4) (by omega)).op (s2 := (t_adv (t_sk (q_by M tx o) n sA))) hl0 he6.2 rfl (by show sA.1 + 1 ≤ g_pos (q_by M tx o) n sA.1 + 1; omega) hy9 (by omega) (op := g_sgn (q_by M tx o) n sA.1) (by unfold t_cp at hcp; omega)
            have hFc : t_cmp (q_by M tx o) n (t_suk (q_by M tx o) n k) e s = t_put (-(g_sgn (q_by M tx o) n sA.1)) (t_suk (q_by M tx o) n k (t_adv (t_sk (q_by M tx o) n sA))) := by
              unfold t_cmp
              rw [hA9, if_pos (show t_cp (t_sg _ _ _) from hcp)]; rfl
            rw [← hFc, ← hvB] at hop
            unfold t_cp at hcp
            refine g_istore_5 hc dX13_compares_56 rfl ?_
            refine g_iload hc dX13_compares_58 rfl ?_
            refine g_bipush hc dX13_compares_60 (by decide +kernel) ?_
            refine g_icmp_ne (tgt := 79) hc dX13_compares_62 (by decide) (by first | exact hI _ _ | exact y_sg32 (by omega) hB | exact g_b32 | exact g_and32 | assumption | exact ⟨by omega, by omega⟩) (by first | exact hI _ _ | exact y_sg32 (by omega) hB | exact g_b32 | exact g_and32 | assumption | exact ⟨by omega, by omega⟩) (fun c4 => ?_) (fun c4 => ?_)
            · skip
              refine g_iload hc dX13_compares_79 rfl ?_
              refine g_bipush hc dX13_compares_81 (by decide +kernel) ?_
              refine g_icmp_ne (tgt := 100) hc dX13_compares_83 (by decide) (by first | exact hI _ _ | exact y_sg32 (by omega) hB | exact g_b32 | exact g_and32 | assumption | exact ⟨by omega, by omega⟩) (by first | exact hI _ _ | exact y_sg32 (by omega) hB | exact g_b32 | exact g_and32 | assumption | exact ⟨by omega, by omega⟩) (fun c5 => ?_) (fun c5 => ?_)
              · skip
                refine g_iload_n hc dX13_compares_100 rfl ?_
                refine g_iload hc dX13_compares_101 rfl ?_
                refine g_icmp_le (tgt := 110) hc dX13_compares_103 (by decide) (by first | exact hI _ _ | exact y_sg32 (by omega) hB | exact g_b32 | exact g_and32 | assumption | exact ⟨by omega, by omega⟩) (by first | exact hI _ _ | exact y_sg32 (by omega) hB | exact g_b32 | exact g_and32 | assumption | exact ⟨by omega, by omega⟩) (fun c6 => ?_) (fun c6 => ?_)
                · skip
                  refine g_iconst hc dX13_compares_110 ?_
                  refine g_zret hc hm (by first | exact g_b01 | omega) dX13_compares_111 ?_
                  have e9 : g_jn (g_sgn (q_by M tx o) n sA.1) v vB = 0 := by
                    first | (rw [show g_sgn (q_by M tx o) n sA.1 = 61 by omega, y_j61]; first | rw [if_pos (by omega)] | rw [if_neg (by omega)]) | (rw [show g_sgn (q_by M tx o) n sA.1 = 60 by omega, y_j60]; first | rw [if_pos (by omega)] | rw [if_neg (by omega)]) | (rw [show g_sgn (q_by M tx o) n sA.1 = 62 by omega, y_j62]; first | rw [if_pos (by omega)] | rw [if_neg (by omega)])
                  rw [e9] at hop
                  exact y_end hop (fun _ => by omega)
                · skip
                  refine g_iconst hc dX13_compares_106 ?_
                  refine g_goto (tgt := 111) hc dX13_compares_107 (by decide) ?_
                  refine g_zret hc hm (by first | exact g_b01 | omega) dX13_compares_111 ?_
                  have e9 : g_jn (g_sgn (q_by M tx o) n sA.1) v vB = 1 := by
                    first | (rw [show g_sgn (q_by M tx o) n sA.1 = 61 by omega, y_j61]; first | rw [if_pos (by omega)] | rw [if_neg (by omega)]) | (rw [show g_sgn (q_by M tx o) n sA.1 = 60 by omega, y_j60]; first | rw [if_pos (by omega)] | rw [if_neg (by omega)]) | (rw [show g_sgn (q_by M tx o) n sA.1 = 62 by omega, y_j62]; first | rw [if_pos (by omega)] | rw [if_neg (by omega)])
                  rw [e9] at hop
                  exact y_end hop (fun _ => by omega)
              · skip
                refine g_iload_n hc dX13_compares_86 rfl ?_
                refine g_iload hc dX13_compares_87 rfl ?_
                refine g_icmp_ge (tgt := 96) hc dX13_compares_89 (by decide) (by first | exact hI _ _ | exact y_sg32 (by omega) hB | exact g_b32 | exact g_and32 | assumption | exact ⟨by omega, by omega⟩) (by first | exact hI _ _ | exact y_sg32 (by omega) hB | exact g_b32 | exact g_and32 | assumption | exact ⟨by omega, by omega⟩) (fun c7 => ?_) (fun c7 => ?_)
                · skip
                  refine g_iconst hc dX13_compares_96 ?_
                  refine g_goto (tgt := 111) hc dX13_compares_97 (by decide) ?_
                  refine g_zret hc hm (by first | exact g_b01 | omega) dX13_compares_111 ?_
                  have e9 : g_jn (g_sgn (q_by M tx o) n sA.1) v vB = 0 := by
                    first | (rw [show g_sgn (q_by M tx o) n sA.1 = 61 by omega, y_j61]; first | rw [if_pos (by omega)] | rw [if_neg (by omega)]) | (rw [show g_sgn (q_by M tx o) n sA.1 = 60 by omega, y_j60]; first | rw [if_pos (by omega)] | rw [if_neg (by omega)]) | (rw [show g_sgn (q_by M tx o) n sA.1 = 62 by omega, y_j62]; first | rw [if_pos (by omega)] | rw [if_neg (by omega)])
                  rw [e9] at hop
                  exact y_end hop (fun _ => by omega)
                · skip
                  refine g_iconst hc dX13_compares_92 ?_
                  refine g_goto (tgt := 111) hc dX13_compares_93 (by decide) ?_
                  refine g_zret hc hm (by first | exact g_b01 | omega) dX13_compares_111 ?_
                  have e9 : g_jn (g_sgn (q_by M tx o) n sA.1) v vB = 1 := by
                    first | (rw [show g_sgn (q_by M tx o) n sA.1 = 61 by omega, y_j61]; first | rw [if_pos (by omega)] | rw [if_neg (by omega)]) | (rw [show g_sgn (q_by M tx o) n sA.1 = 60 by omega, y_j60]; first | rw [if_pos (by omega)] | rw [if_neg (by omega)]) | (rw [show g_sgn (q_by M tx o) n sA.1 = 62 by omega, y_j62]; first | rw [if_pos (by omega)] | rw [if_neg (by omega)])
                  rw [e9] at hop
                  exact y_end hop (fun _ => by omega)
            · skip
              refine g_iload_n hc dX13_compares_65 rfl ?_
              refine g_iload hc dX13_compares_66 rfl ?_
              refine g_icmp_ne (tgt := 75) hc dX13_compares_68 (by decide) (by first | exact hI _ _ | exact y_sg32 (by omega) hB | exact g_b32 | exact g_and32 | assumption | exact ⟨by omega, by omega⟩) (by first | exact hI _ _ | exact y_sg32 (by omega) hB | exact g_b32 | exact g_and32 | assumption | exact ⟨by omega, by omega⟩) (fun c8 => ?_) (fun c8 => ?_)
              · skip
                refine g_iconst hc dX13_compares_75 ?_
                refine g_goto (tgt := 111) hc dX13_compares_76 (by decide) ?_
                refine g_zret hc hm (by first | exact g_b01 | omega) dX13_compares_111 ?_
                have e9 : g_jn (g_sgn (q_by M tx o) n sA.1) v vB = 0 := by
                  first | (rw [show g_sgn (q_by M tx o) n sA.1 = 61 by omega, y_j61]; first | rw [if_pos (by omega)] | rw [if_neg (by omega)]) | (rw [show g_sgn (q_by M tx o) n sA.1 = 60 by omega, y_j60]; first | rw [if_pos (by omega)] | rw [if_neg (by omega)]) | (rw [show g_sgn (q_by M tx o) n sA.1 = 62 by omega, y_j62]; first | rw [if_pos (by omega)] | rw [if_neg (by omega)])
                rw [e9] at hop
                exact y_end hop (fun _ => by omega)
              · skip
                refine g_iconst hc dX13_compares_71 ?_
                refine g_goto (tgt := 111) hc dX13_compares_72 (by decide) ?_
                refine g_zret hc hm (by first | exact g_b01 | omega) dX13_compares_111 ?_
                have e9 : g_jn (g_sgn (q_by M tx o) n sA.1) v vB = 1 := by
                  first | (rw [show g_sgn (q_by M tx o) n sA.1 = 61 by omega, y_j61]; first | rw [if_pos (by omega)] | rw [if_neg (by omega)]) | (rw [show g_sgn (q_by M tx o) n sA.1 = 60 by omega, y_j60]; first | rw [if_pos (by omega)] | rw [if_neg (by omega)]) | (rw [show g_sgn (q_by M tx o) n sA.1 = 62 by omega, y_j62]; first | rw [if_pos (by omega)] | rw [if_neg (by omega)])
                rw [e9] at hop
                exact y_end hop (fun _ => by omega)
          · skip
            have hcp := c3
            refine g_aldn hc dX13_compares_37 rfl ?_
            refine g_V0r hc (c_X13_fails w hR he (by omega) (by omega) (by omega)) my_X13_fails mv_X13_fails ca_703 rfl rfl lm_X13_140 rfl (by omega) (Nat.le_of_ble_eq_true rfl) hm dX13_compares_38 ?_
            refine g_zret hc hm (by first | exact g_b01 | omega) dX13_compares_41 ?_
            have hFc : t_cmp (q_by M tx o) n (t_suk (q_by M tx o) n k) e s = t_fl (q_by M tx o) n (t_sk (q_by M tx o) n sA) := by
              unfold t_cmp
              rw [hA9, if_neg (show ¬ t_cp (t_sg _ _ _) from hcp)]
            rw [show g_q1 (-1) (g_pos (q_by M tx o) n sA.1) = g_pos (q_by M tx o) n sA.1 from if_pos rfl]
            exact y_end (by rw [hFc]; exact y_res.fault ⟨by omega, hp.2⟩ ⟨by omega, by omega⟩ he6.2 rfl (by show g_q1 sA.2.1 (g_pos _ _ (g_pos _ _ _)) = _; rw [hQ, g_pos_pos hi.2]; rfl) ⟨by decide, by decide⟩) (fun _ => Or.inl rfl)
        · skip
          refine g_iconst hc dX13_compares_21 ?_
          refine g_zret hc hm (by first | exact g_b01 | omega) dX13_compares_22 ?_
          have hFc : t_cmp (q_by M tx o) n (t_suk (q_by M tx o) n k) e s = t_fl (q_by M tx o) n (t_sk (q_by M tx o) n sA) := by
            unfold t_cmp
            rw [hA9, t_sgb (hy.bd (by omega)), if_neg (by unfold t_cp; decide)]
          exact y_end (by rw [hFc]; exact hy.bad (F := fun s => t_fl (q_by M tx o) n (t_sk (q_by M tx o) n s)) (by omega) (pb_comp pb_sk pb_fl) ⟨by decide, by decide⟩ (Int.le_refl _)) (fun _ => Or.inl rfl)
    refine lp_13 1 _ _ _ _ (t_suk (q_by M tx o) n k s) ?_ ?_ (?_)
    · first | exact H1 (by omega) | (rw [H0 (by omega)]; exact hy1)
    · first | rw [if_neg (by omega)] | rw [if_pos (by omega)]
    · decide
  · skip
    refine g_iload_n hc dX13_compares_4 rfl ?_
    refine g_goto (tgt := 12) hc dX13_compares_5 (by decide) ?_
    refine g_istore_3 hc dX13_compares_12 rfl ?_
    have lp_13 : ∀ (fu : Nat) (v i q dd : Int) (sA : g_S), y_res n Lf (6 - (k : Int)) (2 * k + 3) s0 sA v i q dd → (if e = 0 then t_suk (q_by M tx o) n k s else s) = sA → (0 : Int) < (fu : Int) → G w x (y_post w M J R n Lf (6 - (k : Int)) (2 * k + 4) s0 (t_cmp (q_by M tx o) n (t_suk (q_by M tx o) n k) e s) true) 0 0 g_n (y_M M i q dd) J R 13 [some (gvr w 703), some (gvI e), some (gvI r), some (gvI v), none, none] [] := by
      intro fu
      induction fu with
      | zero => intro v i q dd sA hy hA9 hfu; exfalso; omega
      | succ fu ih =>
        intro v i q dd sA hy hA9 hfu
        have hv := hy.1
        have hqb := hy.2.2.2.1
        have ih_13 := ih
        refine g_aldn hc dX13_compares_13 rfl ?_
        refine g_getIe hc lk_X13_134 ca_703 11 rfl (y_M_q) dX13_compares_14 ?_
        refine g_iconst hc dX13_compares_17 ?_
        refine g_icmp_eq (tgt := 23) hc dX13_compares_18 (by decide) (by first | exact hI _ _ | exact y_sg32 (by omega) hB | exact g_b32 | exact g_and32 | assumption | exact ⟨by omega, by omega⟩) (by first | exact hI _ _ | exact y_sg32 (by omega) hB | exact g_b32 | exact g_and32 | assumption | exact ⟨by omega, by omega⟩) (fun c9 => ?_) (fun c9 => ?_)
        · skip
          have hqz : q = -1 := by omega
          subst hqz
          obtain ⟨hi1, he8, hQ, hss⟩ := hy.at
          subst hi1
          subst he8
          have hl1 := hy.len hl0
          have hi := hy.2.1
          have hp := g_pos_in (B := (q_by M tx o)) (len := n) (a := sA.1) hi.2
          refine g_aldn hc dX13_compares_23 rfl ?_
          refine g_V0r hc (c_X13_look w hR he (by omega) (by omega) (by omega)) my_X13_look mv_X13_look ca_703 rfl rfl lm_X13_144 rfl (by omega) (Nat.le_of_ble_eq_true rfl) hm dX13_compares_24 ?_
          refine g_istore_4 hc dX13_compares_27 rfl ?_
          refine g_iload hc dX13_compares_29 rfl ?_
          refine g_S1r hc (c_X13_isSign w (by first | exact hI _ _ | exact y_sg32 (by omega) hB | exact g_b32 | exact g_and32 | assumption | exact ⟨by omega, by omega⟩)) my_X13_isSign ms_X13_isSign lm_X13_187 rfl (by omega) (Nat.le_of_ble_eq_true rfl) hm dX13_compares_31 ?_
          refine g_ifb_ne (tgt := 42) hc dX13_compares_34 (by decide)  (fun c10 => ?_) (fun c10 => ?_)
          · skip
            have hcp := c10
            have hlt := y_sgp (B := (q_by M tx o)) (n := n) (a := sA.1) (by unfold t_cp at hcp; omega)
            refine g_aldn hc dX13_compares_42 rfl ?_
            refine g_dup hc dX13_compares_43 rfl ?_
            refine g_getIe hc lk_X13_125 ca_703 10 rfl (y_M_a) dX13_compares_44 ?_
            refine g_iconst hc dX13_compares_47 ?_
            refine g_iadd hc dX13_compares_48 ?_
            refine g_putIe (I2 := (y_M M ((g_pos (q_by M tx o) n sA.1) + 1) (-1) (6 - (k : Int)))) hc lk_X13_125 ca_703 10 rfl y_M_pa dX13_compares_49 ?_
            refine g_aldn hc dX13_compares_52 rfl ?_
            refine g_V0 hc ((hA hR he (s := (t_adv (t_sk (q_by M tx o) n sA))) ⟨by show 0 ≤ g_pos (q_by M tx o) n sA.1 + 1; omega, by show g_pos (q_by M tx o) n sA.1 + 1 ≤ n; omega⟩ (show sA.2.1 = -1 from hQ) (by show (sA.2.2.length : Int) ≤ g_pos (q_by M tx o) n sA.1 + 1; omega))) my_X13_sum mv_X13_sum ca_703 rfl rfl lm_X13_167 rfl (by omega) (Nat.le_of_ble_eq_true rfl) hm dX13_compares_53 (fun rY9 nY9 IY9 JY9 RY9 hpY9 => ?_)
            obtain ⟨rfl, rfl, rfl, v9, a9, q9, d9, rfl, rfl, hy9, hb9⟩ := hpY9
            have hv9 : g32 v9 := hy9.1
            have ha9 : 0 ≤ a9 ∧ a9 ≤ n := hy9.2.1
            have hd9 := hy9.2.2.1
            have hq9 : -1 ≤ q9 ∧ q9 ≤ 240 := hy9.2.2.2.1
            obtain ⟨vB, hvB⟩ : ∃ z, z = v9 := ⟨_, rfl⟩
            have hop := (hy.mono (h2 := 2 * k + 4) (by omega)).op (s2 := (t_adv (t_sk (q_by M tx o) n sA))) hl0 he6.2 rfl (by show sA.1 + 1 ≤ g_pos (q_by M tx o) n sA.1 + 1; omega) hy9 (by omega) (op := g_sgn (q_by M tx o) n sA.1) (by unfold t_cp at hcp; omega)
            have hFc : t_cmp (q_by M tx o) n (t_suk (q_by M tx o) n k) e s = t_put (-(g_sgn (q_by M tx o) n sA.1)) (t_suk (q_by M tx o) n k (t_adv (t_sk (q_by M tx o) n sA))) := by
              unfold t_cmp
              rw [hA9, if_pos (show t_cp (t_sg _ _ _) from hcp)]; rfl
            rw [← hFc, ← hvB] at hop
            unfold t_cp at hcp
            refine g_istore_5 hc dX13_compares_56 rfl ?_
            refine g_iload hc dX13_compares_58 rfl ?_
            refine g_bipush hc dX13_compares_60 (by decide +kernel) ?_
            refine g_icmp_ne (tgt := 79) hc dX13_compares_62 (by decide) (by first | exact hI _ _ | exact y_sg32 (by omega) hB | exact g_b32 | exact g_and32 | assumption | exact ⟨by omega, by omega⟩) (by first | exact hI _ _ | exact y_sg32 (by omega) hB | exact g_b32 | exact g_and32 | assumption | exact ⟨by omega, by omega⟩) (fun c11 => ?_) (fun c11 => ?_)
            · skip
              refine g_iload hc dX13_compares_79 rfl ?_
              refine g_bipush hc dX13_compares_81 (by decide +kernel) ?_
              refine g_icmp_ne (tgt := 100) hc dX13_compares_83 (by decide) (by first | exact hI _ _ | exact y_sg32 (by omega) hB | exact g_b32 | exact g_and32 | assumption | exact ⟨by omega, by omega⟩) (by first | exact hI _ _ | exact y_sg32 (by omega) hB | exact g_b32 | exact g_and32 | assumption | exact ⟨by omega, by omega⟩) (fun c12 => ?_) (fun c12 => ?_)
              · skip
                refine g_iload_n hc dX13_compares_100 rfl ?_
                refine g_iload hc dX13_compares_101 rfl ?_
                refine g_icmp_le (tgt := 110) hc dX13_compares_103 (by decide) (by first | exact hI _ _ | exact y_sg32 (by omega) hB | exact g_b32 | exact g_and32 | assumption | exact ⟨by omega, by omega⟩) (by first | exact hI _ _ | exact y_sg32 (by omega) hB | exact g_b32 | exact g_and32 | assumption | exact ⟨by omega, by omega⟩) (fun c13 => ?_) (fun c13 => ?_)
                · skip
                  refine g_iconst hc dX13_compares_110 ?_
                  refine g_zret hc hm (by first | exact g_b01 | omega) dX13_compares_111 ?_
                  have e9 : g_jn (g_sgn (q_by M tx o) n sA.1) v vB = 0 := by
                    first | (rw [show g_sgn (q_by M tx o) n sA.1 = 61 by omega, y_j61]; first | rw [if_pos (by omega)] | rw [if_neg (by omega)]) | (rw [show g_sgn (q_by M tx o) n sA.1 = 60 by omega, y_j60]; first | rw [if_pos (by omega)] | rw [if_neg (by omega)]) | (rw [show g_sgn (q_by M tx o) n sA.1 = 62 by omega, y_j62]; first | rw [if_pos (by omega)] | rw [if_neg (by omega)])
                  rw [e9] at hop
                  exact y_end hop (fun _ => by omega)
                · skip
                  refine g_iconst hc dX13_compares_106 ?_
                  refine g_goto (tgt := 111) hc dX13_compares_107 (by decide) ?_
                  refine g_zret hc hm (by first | exact g_b01 | omega) dX13_compares_111 ?_
                  have e9 : g_jn (g_sgn (q_by M tx o) n sA.1) v vB = 1 := by
                    first | (rw [show g_sgn (q_by M tx o) n sA.1 = 61 by omega, y_j61]; first | rw [if_pos (by omega)] | rw [if_neg (by omega)]) | (rw [show g_sgn (q_by M tx o) n sA.1 = 60 by omega, y_j60]; first | rw [if_pos (by omega)] | rw [if_neg (by omega)]) | (rw [show g_sgn (q_by M tx o) n sA.1 = 62 by omega, y_j62]; first | rw [if_pos (by omega)] | rw [if_neg (by omega)])
                  rw [e9] at hop
                  exact y_end hop (fun _ => by omega)
              · skip
                refine g_iload_n hc dX13_compares_86 rfl ?_
                refine g_iload hc dX13_compares_87 rfl ?_
                refine g_icmp_ge (tgt := 96) hc dX13_compares_89 (by decide) (by first | exact hI _ _ | exact y_sg32 (by omega) hB | exact g_b32 | exact g_and32 | assumption | exact ⟨by omega, by omega⟩) (by first | exact hI _ _ | exact y_sg32 (by omega) hB | exact g_b32 | exact g_and32 | assumption | exact ⟨by omega, by omega⟩) (fun c14 => ?_) (fun c14 => ?_)
                · skip
                  refine g_iconst hc dX13_compares_96 ?_
                  refine g_goto (tgt := 111) hc dX13_compares_97 (by decide) ?_
                  refine g_zret hc hm (by first | exact g_b01 | omega) dX13_compares_111 ?_
                  have e9 : g_jn (g_sgn (q_by M tx o) n sA.1) v vB = 0 := by
                    first | (rw [show g_sgn (q_by M tx o) n sA.1 = 61 by omega, y_j61]; first | rw [if_pos (by omega)] | rw [if_neg (by omega)]) | (rw [show g_sgn (q_by M tx o) n sA.1 = 60 by omega, y_j60]; first | rw [if_pos (by omega)] | rw [if_neg (by omega)]) | (rw [show g_sgn (q_by M tx o) n sA.1 = 62 by omega, y_j62]; first | rw [if_pos (by omega)] | rw [if_neg (by omega)])
                  rw [e9] at hop
                  exact y_end hop (fun _ => by omega)
                · skip
                  refine g_iconst hc dX13_compares_92 ?_
                  refine g_goto (tgt := 111) hc dX13_compares_93 (by decide) ?_
                  refine g_zret hc hm (by first | exact g_b01 | omega) dX13_compares_111 ?_
                  have e9 : g_jn (g_sgn (q_by M tx o) n sA.1) v vB = 1 := by
                    first | (rw [show g_sgn (q_by M tx o) n sA.1 = 61 by omega, y_j61]; first | rw [if_pos (by omega)] | rw [if_neg (by omega)]) | (rw [show g_sgn (q_by M tx o) n sA.1 = 60 by omega, y_j60]; first | rw [if_pos (by omega)] | rw [if_neg (by omega)]) | (rw [show g_sgn (q_by M tx o) n sA.1 = 62 by omega, y_j62]; first | rw [if_pos (by omega)] | rw [if_neg (by omega)])
                  rw [e9] at hop
                  exact y_end hop (fun _ => by omega)
            · skip
              refine g_iload_n hc dX13_compares_65 rfl ?_
              refine g_iload hc dX13_compares_66 rfl ?_
              refine g_icmp_ne (tgt := 75) hc dX13_compares_68 (by decide) (by first | exact hI _ _ | exact y_sg32 (by omega) hB | exact g_b32 | exact g_and32 | assumption | exact ⟨by omega, by omega⟩) (by first | exact hI _ _ | exact y_sg32 (by omega) hB | exact g_b32 | exact g_and32 | assumption | exact ⟨by omega, by omega⟩) (fun c15 => ?_) (fun c15 => ?_)
              · skip
                refine g_iconst hc dX13_compares_75 ?_
                refine g_goto (tgt := 111) hc dX13_compares_76 (by decide) ?_
                refine g_zret hc hm (by first | exact g_b01 | omega) dX13_compares_111 ?_
                have e9 : g_jn (g_sgn (q_by M tx o) n sA.1) v vB = 0 := by
                  first | (rw [show g_sgn (q_by M tx o) n sA.1 = 61 by omega, y_j61]; first | rw [if_pos (by omega)] | rw [if_neg (by omega)]) | (rw [show g_sgn (q_by M tx o) n sA.1 = 60 by omega, y_j60]; first | rw [if_pos (by omega)] | rw [if_neg (by omega)]) | (rw [show g_sgn (q_by M tx o) n sA.1 = 62 by omega, y_j62]; first | rw [if_pos (by omega)] | rw [if_neg (by omega)])
                rw [e9] at hop
                exact y_end hop (fun _ => by omega)
              · skip
                refine g_iconst hc dX13_compares_71 ?_
                refine g_goto (tgt := 111) hc dX13_compares_72 (by decide) ?_
                refine g_zret hc hm (by first | exact g_b01 | omega) dX13_compares_111 ?_
                have e9 : g_jn (g_sgn (q_by M tx o) n sA.1) v vB = 1 := by
                  first | (rw [show g_sgn (q_by M tx o) n sA.1 = 61 by omega, y_j61]; first | rw [if_pos (by omega)] | rw [if_neg (by omega)]) | (rw [show g_sgn (q_by M tx o) n sA.1 = 60 by omega, y_j60]; first | rw [if_pos (by omega)] | rw [if_neg (by omega)]) | (rw [show g_sgn (q_by M tx o) n sA.1 = 62 by omega, y_j62]; first | rw [if_pos (by omega)] | rw [if_neg (by omega)])
                rw [e9] at hop
                exact y_end hop (fun _ => by omega)
          · skip
            have hcp := c10
            refine g_aldn hc dX13_compares_37 rfl ?_
            refine g_V0r hc (c_X13_fails w hR he (by omega) (by omega) (by omega)) my_X13_fails mv_X13_fails ca_703 rfl rfl lm_X13_140 rfl (by omega) (Nat.le_of_ble_eq_true rfl) hm dX13_compares_38 ?_
            refine g_zret hc hm (by first | exact g_b01 | omega) dX13_compares_41 ?_
            have hFc : t_cmp (q_by M tx o) n (t_suk (q_by M tx o) n k) e s = t_fl (q_by M tx o) n (t_sk (q_by M tx o) n sA) := by
              unfold t_cmp
              rw [hA9, if_neg (show ¬ t_cp (t_sg _ _ _) from hcp)]
            rw [show g_q1 (-1) (g_pos (q_by M tx o) n sA.1) = g_pos (q_by M tx o) n sA.1 from if_pos rfl]
            exact y_end (by rw [hFc]; exact y_res.fault ⟨by omega, hp.2⟩ ⟨by omega, by omega⟩ he6.2 rfl (by show g_q1 sA.2.1 (g_pos _ _ (g_pos _ _ _)) = _; rw [hQ, g_pos_pos hi.2]; rfl) ⟨by decide, by decide⟩) (fun _ => Or.inl rfl)
        · skip
          refine g_iconst hc dX13_compares_21 ?_
          refine g_zret hc hm (by first | exact g_b01 | omega) dX13_compares_22 ?_
          have hFc : t_cmp (q_by M tx o) n (t_suk (q_by M tx o) n k) e s = t_fl (q_by M tx o) n (t_sk (q_by M tx o) n sA) := by
            unfold t_cmp
            rw [hA9, t_sgb (hy.bd (by omega)), if_neg (by unfold t_cp; decide)]
          exact y_end (by rw [hFc]; exact hy.bad (F := fun s => t_fl (q_by M tx o) n (t_sk (q_by M tx o) n s)) (by omega) (pb_comp pb_sk pb_fl) ⟨by decide, by decide⟩ (Int.le_refl _)) (fun _ => Or.inl rfl)
    refine lp_13 1 _ _ _ _ s ?_ ?_ (?_)
    · first | exact H1 (by omega) | (rw [H0 (by omega)]; exact hy1)
    · first | rw [if_neg (by omega)] | rw [if_pos (by omega)]
    · decide
set_option maxHeartbeats 4000000 in
set_option maxRecDepth 100000 in
/-- X13_unit -/
theorem y_unit0 (w : g_W) {J : g_J} {R : g_R} {lb tx ln : Nat} (hR : g_rf w R lb tx) {M : g_I} {o n : Int} {Lf : Int → Int} (he : y_env M tx ln o n Lf) (hc9 : y_Ccmp w 0) {s : g_S} (hs : 0 ≤ s.1 ∧ s.1 ≤ n) (hq0 : s.2.1 = -1) (hl : (s.2.2.length : Int) ≤ s.1) : g_Met w g_n (y_M M s.1 (-1) (6 - ((0 : Nat) : Int))) J R yX13_unit cX13_unit 3 (some .boolean) (10 + 3 * 0) 0 0 [(gvr w 703)] (y_post w M J R n Lf (6 - ((0 : Nat) : Int)) (2 * 0 + 4) s (t_unk (q_by M tx o) n 0 0 s) true) := by
  refine g_intro (own := RX13) [some (gvr w 703), none, none] (by decide +kernel) rfl (by decide) (Nat.le_of_ble_eq_true rfl) rfl (fun i v hv => g_args 2 i v hv rfl) (fun x hc hm => ?_)
  obtain ⟨⟨he1, he2⟩, ⟨he3, he4, he5⟩, he6, hB, hI, hLt, hat, hx3⟩ := id he
  have hp := g_pos_in (B := (q_by M tx o)) (len := n) (a := s.1) hs.2
  refine g_aldn hc dX13_unit_0 rfl ?_
  refine g_V0r hc (c_X13_look w hR he (by omega) (by omega) (by omega)) my_X13_look mv_X13_look ca_703 rfl rfl lm_X13_144 rfl (by omega) (Nat.le_of_ble_eq_true rfl) hm dX13_unit_1 ?_
  refine g_istore_1 hc dX13_unit_4 rfl ?_
  refine g_iload_n hc dX13_unit_5 rfl ?_
  refine g_bipush hc dX13_unit_6 (by decide +kernel) ?_
  refine g_icmp_ne (tgt := 45) hc dX13_unit_8 (by decide) (by first | exact hI _ _ | exact y_sg32 (by omega) hB | exact g_b32 | exact g_and32 | assumption | exact ⟨by omega, by omega⟩) (by first | exact hI _ _ | exact y_sg32 (by omega) hB | exact g_b32 | exact g_and32 | assumption | exact ⟨by omega, by omega⟩) (fun c1 => ?_) (fun c1 => ?_)
  · skip
    have h33 : ¬ t_sg (q_by M tx o) n s = 33 := c1
    refine g_iload_n hc dX13_unit_45 rfl ?_
    refine g_bipush hc dX13_unit_46 (by decide +kernel) ?_
    refine g_icmp_ne (tgt := 90) hc dX13_unit_48 (by decide) (by first | exact hI _ _ | exact y_sg32 (by omega) hB | exact g_b32 | exact g_and32 | assumption | exact ⟨by omega, by omega⟩) (by first | exact hI _ _ | exact y_sg32 (by omega) hB | exact g_b32 | exact g_and32 | assumption | exact ⟨by omega, by omega⟩) (fun c2 => ?_) (fun c2 => ?_)
    · skip
      have h40 : ¬ t_sg (q_by M tx o) n s = 40 := c2
      refine g_aldn hc dX13_unit_90 rfl ?_
      refine g_iconst hc dX13_unit_91 ?_
      refine g_iconst hc dX13_unit_92 ?_
      refine g_V2 hc ((hc9 hR he (s := (t_sk (q_by M tx o) n s)) (s0 := (t_sk (q_by M tx o) n s)) (e := 0) (r := 0) ⟨by show 0 ≤ g_pos (q_by M tx o) n s.1; omega, hp.2⟩ hq0 (by show (s.2.2.length : Int) ≤ g_pos (q_by M tx o) n s.1; omega) (by show (s.2.2.length : Int) ≤ g_pos (q_by M tx o) n s.1; omega) (Or.inl ⟨rfl, rfl⟩))) my_X13_compares mv_X13_compares ca_703 rfl rfl lm_X13_197 rfl (by omega) (Nat.le_of_ble_eq_true rfl) hm dX13_unit_93 (fun rY1 nY1 IY1 JY1 RY1 hpY1 => ?_)
      obtain ⟨rfl, rfl, rfl, v1, a1, q1, d1, rfl, rfl, hy1, hb1⟩ := hpY1
      have hv1 : g32 v1 := hy1.1
      have ha1 : 0 ≤ a1 ∧ a1 ≤ n := hy1.2.1
      have hd1 := hy1.2.2.1
      have hq1 : -1 ≤ q1 ∧ q1 ≤ 240 := hy1.2.2.2.1
      have hz1 : v1 = 0 ∨ v1 = 1 := hb1 rfl
      refine g_zret hc hm (by first | exact g_b01 | omega) dX13_unit_96 ?_
      have hFa : t_unk (q_by M tx o) n 0 0 s = t_cmp (q_by M tx o) n (t_suk (q_by M tx o) n 0) 0 (t_sk (q_by M tx o) n s) := by
        show t_unit (q_by M tx o) n (t_suk (q_by M tx o) n 0) none 0 s = _
        unfold t_unit
        rw [if_neg (fun z => h33 z.2), if_neg (fun z => h40 z.2)]
      exact y_end (by rw [hFa]; exact hy1.from rfl (by show s.1 ≤ g_pos (q_by M tx o) n s.1; omega)) (fun _ => hz1)
    · skip
      have h40 : t_sg (q_by M tx o) n s = 40 := c2
      have hlt := y_sgp (B := (q_by M tx o)) (n := n) (a := s.1) (by omega)
      refine g_aldn hc dX13_unit_51 rfl ?_
      refine g_V0r hc (c_X13_goesIn w hR he (by omega) (by omega) (by omega)) my_X13_goesIn mv_X13_goesIn ca_703 rfl rfl lm_X13_164 rfl (by omega) (Nat.le_of_ble_eq_true rfl) hm dX13_unit_52 ?_
      refine g_ifb_ne (tgt := 60) hc dX13_unit_55 (by decide)  (fun c3 => ?_) (fun c3 => ?_)
      · exfalso; omega
      · skip
        rw [if_pos (by omega), if_pos (by omega), if_pos (by omega), show g_q1 (-1) (g_pos (q_by M tx o) n s.1) = g_pos (q_by M tx o) n s.1 from if_pos rfl]
        refine g_iconst hc dX13_unit_58 ?_
        refine g_zret hc hm (by first | exact g_b01 | omega) dX13_unit_59 ?_
        have hFa : t_unk (q_by M tx o) n 0 0 s = t_fl (q_by M tx o) n (t_sk (q_by M tx o) n s) := by
          show t_unit (q_by M tx o) n (t_suk (q_by M tx o) n 0) none 0 s = _
          unfold t_unit
          rw [if_neg (fun z => h33 z.2), if_pos ⟨rfl, h40⟩]
        exact y_end (by rw [hFa]; exact y_res.fault ⟨by omega, hp.2⟩ ⟨by omega, by omega⟩ he6.2 rfl (by show g_q1 s.2.1 (g_pos _ _ (g_pos _ _ _)) = _; rw [hq0, g_pos_pos hs.2]; rfl) ⟨by decide, by decide⟩) (fun _ => Or.inl rfl)
  · skip
    have h33 : t_sg (q_by M tx o) n s = 33 := c1
    have hlt := y_sgp (B := (q_by M tx o)) (n := n) (a := s.1) (by omega)
    refine g_aldn hc dX13_unit_11 rfl ?_
    refine g_V0r hc (c_X13_goesIn w hR he (by omega) (by omega) (by omega)) my_X13_goesIn mv_X13_goesIn ca_703 rfl rfl lm_X13_164 rfl (by omega) (Nat.le_of_ble_eq_true rfl) hm dX13_unit_12 ?_
    refine g_ifb_ne (tgt := 20) hc dX13_unit_15 (by decide)  (fun c4 => ?_) (fun c4 => ?_)
    · exfalso; omega
    · skip
      rw [if_pos (by omega), if_pos (by omega), if_pos (by omega), show g_q1 (-1) (g_pos (q_by M tx o) n s.1) = g_pos (q_by M tx o) n s.1 from if_pos rfl]
      refine g_iconst hc dX13_unit_18 ?_
      refine g_zret hc hm (by first | exact g_b01 | omega) dX13_unit_19 ?_
      have hFa : t_unk (q_by M tx o) n 0 0 s = t_fl (q_by M tx o) n (t_sk (q_by M tx o) n s) := by
        show t_unit (q_by M tx o) n (t_suk (q_by M tx o) n 0) none 0 s = _
        unfold t_unit
        rw [if_pos ⟨rfl, h33⟩]
      exact y_end (by rw [hFa]; exact y_res.fault ⟨by omega, hp.2⟩ ⟨by omega, by omega⟩ he6.2 rfl (by show g_q1 s.2.1 (g_pos _ _ (g_pos _ _ _)) = _; rw [hq0, g_pos_pos hs.2]; rfl) ⟨by decide, by decide⟩) (fun _ => Or.inl rfl)
set_option maxHeartbeats 4000000 in
set_option maxRecDepth 100000 in
/-- X13_unit -/
theorem y_unitS (w : g_W) {J : g_J} {R : g_R} {lb tx ln : Nat} (hR : g_rf w R lb tx) {M : g_I} {o n : Int} {Lf : Int → Int} (he : y_env M tx ln o n Lf) {k : Nat} (hk : k < 6) (hU : y_Cunit w k) (hCo : y_Ccond w k) (hc9 : y_Ccmp w (k + 1)) {s : g_S} (hs : 0 ≤ s.1 ∧ s.1 ≤ n) (hq0 : s.2.1 = -1) (hl : (s.2.2.length : Int) ≤ s.1) : g_Met w g_n (y_M M s.1 (-1) (6 - ((k + 1 : Nat) : Int))) J R yX13_unit cX13_unit 3 (some .boolean) (10 + 3 * (k + 1)) 0 0 [(gvr w 703)] (y_post w M J R n Lf (6 - ((k + 1 : Nat) : Int)) (2 * (k + 1) + 4) s (t_unk (q_by M tx o) n (k + 1) 0 s) true) := by
  refine g_intro (own := RX13) [some (gvr w 703), none, none] (by decide +kernel) rfl (by decide) (Nat.le_of_ble_eq_true rfl) rfl (fun i v hv => g_args 2 i v hv rfl) (fun x hc hm => ?_)
  obtain ⟨⟨he1, he2⟩, ⟨he3, he4, he5⟩, he6, hB, hI, hLt, hat, hx3⟩ := id he
  have hp := g_pos_in (B := (q_by M tx o)) (len := n) (a := s.1) hs.2
  refine g_aldn hc dX13_unit_0 rfl ?_
  refine g_V0r hc (c_X13_look w hR he (by omega) (by omega) (by omega)) my_X13_look mv_X13_look ca_703 rfl rfl lm_X13_144 rfl (by omega) (Nat.le_of_ble_eq_true rfl) hm dX13_unit_1 ?_
  refine g_istore_1 hc dX13_unit_4 rfl ?_
  refine g_iload_n hc dX13_unit_5 rfl ?_
  refine g_bipush hc dX13_unit_6 (by decide +kernel) ?_
  refine g_icmp_ne (tgt := 45) hc dX13_unit_8 (by decide) (by first | exact hI _ _ | exact y_sg32 (by omega) hB | exact g_b32 | exact g_and32 | assumption | exact ⟨by omega, by omega⟩) (by first | exact hI _ _ | exact y_sg32 (by omega) hB | exact g_b32 | exact g_and32 | assumption | exact ⟨by omega, by omega⟩) (fun c1 => ?_) (fun c1 => ?_)
  · skip
    have h33 : ¬ t_sg (q_by M tx o) n s = 33 := c1
    refine g_iload_n hc dX13_unit_45 rfl ?_
    refine g_bipush hc dX13_unit_46 (by decide +kernel) ?_
    refine g_icmp_ne (tgt := 90) hc dX13_unit_48 (by decide) (by first | exact hI _ _ | exact y_sg32 (by omega) hB | exact g_b32 | exact g_and32 | assumption | exact ⟨by omega, by omega⟩) (by first | exact hI _ _ | exact y_sg32 (by omega) hB | exact g_b32 | exact g_and32 | assumption | exact ⟨by omega, by omega⟩) (fun c2 => ?_) (fun c2 => ?_)
    · skip
      have h40 : ¬ t_sg (q_by M tx o) n s = 40 := c2
      refine g_aldn hc dX13_unit_90 rfl ?_
      refine g_iconst hc dX13_unit_91 ?_
      refine g_iconst hc dX13_unit_92 ?_
      refine g_V2 hc ((hc9 hR he (s := (t_sk (q_by M tx o) n s)) (s0 := (t_sk (q_by M tx o) n s)) (e := 0) (r := 0) ⟨by show 0 ≤ g_pos (q_by M tx o) n s.1; omega, hp.2⟩ hq0 (by show (s.2.2.length : Int) ≤ g_pos (q_by M tx o) n s.1; omega) (by show (s.2.2.length : Int) ≤ g_pos (q_by M tx o) n s.1; omega) (Or.inl ⟨rfl, rfl⟩))) my_X13_compares mv_X13_compares ca_703 rfl rfl lm_X13_197 rfl (by omega) (Nat.le_of_ble_eq_true rfl) hm dX13_unit_93 (fun rY1 nY1 IY1 JY1 RY1 hpY1 => ?_)
      obtain ⟨rfl, rfl, rfl, v1, a1, q1, d1, rfl, rfl, hy1, hb1⟩ := hpY1
      have hv1 : g32 v1 := hy1.1
      have ha1 : 0 ≤ a1 ∧ a1 ≤ n := hy1.2.1
      have hd1 := hy1.2.2.1
      have hq1 : -1 ≤ q1 ∧ q1 ≤ 240 := hy1.2.2.2.1
      have hz1 : v1 = 0 ∨ v1 = 1 := hb1 rfl
      refine g_zret hc hm (by first | exact g_b01 | omega) dX13_unit_96 ?_
      have hFa : t_unk (q_by M tx o) n (k + 1) 0 s = t_cmp (q_by M tx o) n (t_suk (q_by M tx o) n (k + 1)) 0 (t_sk (q_by M tx o) n s) := by
        show t_unit (q_by M tx o) n (t_suk (q_by M tx o) n (k + 1)) (some (t_unk (q_by M tx o) n k 0, t_con (q_by M tx o) n (t_tru (q_by M tx o) n (t_unk (q_by M tx o) n k)) 0)) 0 s = _
        unfold t_unit
        rw [if_neg (fun z => h33 z.2), if_neg (fun z => h40 z.2)]
      exact y_end (by rw [hFa]; exact hy1.from rfl (by show s.1 ≤ g_pos (q_by M tx o) n s.1; omega)) (fun _ => hz1)
    · skip
      have h40 : t_sg (q_by M tx o) n s = 40 := c2
      have hlt := y_sgp (B := (q_by M tx o)) (n := n) (a := s.1) (by omega)
      refine g_aldn hc dX13_unit_51 rfl ?_
      refine g_V0r hc (c_X13_goesIn w hR he (by omega) (by omega) (by omega)) my_X13_goesIn mv_X13_goesIn ca_703 rfl rfl lm_X13_164 rfl (by omega) (Nat.le_of_ble_eq_true rfl) hm dX13_unit_52 ?_
      refine g_ifb_ne (tgt := 60) hc dX13_unit_55 (by decide)  (fun c3 => ?_) (fun c3 => ?_)
      · skip
        rw [if_neg (by omega), if_neg (by omega), if_neg (by omega), show (6 - ((k + 1 : Nat) : Int)) + 1 = 6 - (k : Int) by omega]
        refine g_aldn hc dX13_unit_60 rfl ?_
        refine g_iconst hc dX13_unit_61 ?_
        refine g_iconst hc dX13_unit_62 ?_
        refine g_V2 hc ((hCo hR he (s := (t_adv (t_sk (q_by M tx o) n s))) (s0 := (t_adv (t_sk (q_by M tx o) n s))) (e := 0) (r := 0) ⟨by show 0 ≤ g_pos (q_by M tx o) n s.1 + 1; omega, by show g_pos (q_by M tx o) n s.1 + 1 ≤ n; omega⟩ (show s.2.1 = -1 from hq0) (by show (s.2.2.length : Int) ≤ g_pos (q_by M tx o) n s.1 + 1; omega) (by show (s.2.2.length : Int) ≤ g_pos (q_by M tx o) n s.1 + 1; omega) (Or.inl ⟨rfl, rfl⟩))) my_X13_condition mv_X13_condition ca_703 rfl rfl lm_X13_193 rfl (by omega) (Nat.le_of_ble_eq_true rfl) hm dX13_unit_63 (fun rY2 nY2 IY2 JY2 RY2 hpY2 => ?_)
        obtain ⟨rfl, rfl, rfl, v2, a2, q2, d2, rfl, rfl, hy2, hb2⟩ := hpY2
        have hv2 : g32 v2 := hy2.1
        have ha2 : 0 ≤ a2 ∧ a2 ≤ n := hy2.2.1
        have hd2 := hy2.2.2.1
        have hq2 : -1 ≤ q2 ∧ q2 ≤ 240 := hy2.2.2.2.1
        have hz2 : v2 = 0 ∨ v2 = 1 := hb2 rfl
        refine g_istore_2 hc dX13_unit_66 rfl ?_
        refine g_aldn hc dX13_unit_67 rfl ?_
        refine g_bipush hc dX13_unit_68 (by decide +kernel) ?_
        refine g_V1r hc (c_X13_takes w hR he (by omega) (by omega) (by omega) (by exact ⟨by decide, by decide⟩)) my_X13_takes mv_X13_takes ca_703 rfl rfl lm_X13_170 rfl (by omega) (Nat.le_of_ble_eq_true rfl) hm dX13_unit_70 ?_
        refine g_ifb_ne (tgt := 78) hc dX13_unit_73 (by decide)  (fun c4 => ?_) (fun c4 => ?_)
        · skip
          obtain ⟨hq9, hs9⟩ : q2 = -1 ∧ g_sgn (q_by M tx o) n a2 = 41 := c4
          rw [if_pos hq9, if_pos hq9, if_pos hs9, if_pos hs9]
          subst hq9
          refine g_aldn hc dX13_unit_78 rfl ?_
          refine g_dup hc dX13_unit_79 rfl ?_
          refine g_getIe hc lk_X13_137 ca_703 12 rfl (y_M_d) dX13_unit_80 ?_
          refine g_iconst hc dX13_unit_83 ?_
          refine g_isub hc dX13_unit_84 ?_
          refine g_putIe (I2 := (y_M M (g_pos (q_by M tx o) n a2 + 1) (-1) (d2 - 1))) hc lk_X13_137 ca_703 12 rfl y_M_pd dX13_unit_85 ?_
          refine g_iload_n hc dX13_unit_88 rfl ?_
          refine g_zret hc hm (by first | exact g_b01 | omega) dX13_unit_89 ?_
          have hFa : t_unk (q_by M tx o) n (k + 1) 0 s = t_wn (q_by M tx o) n 41 (t_cok (q_by M tx o) n k 0 (t_adv (t_sk (q_by M tx o) n s))) := by
            show t_unit (q_by M tx o) n (t_suk (q_by M tx o) n (k + 1)) (some (t_unk (q_by M tx o) n k 0, t_con (q_by M tx o) n (t_tru (q_by M tx o) n (t_unk (q_by M tx o) n k)) 0)) 0 s = _
            unfold t_unit
            rw [if_neg (fun z => h33 z.2), if_pos ⟨rfl, h40⟩]; rfl
          have hw := hy2.wnT (s0 := s) hs9 (by decide) rfl (by show s.1 ≤ g_pos (q_by M tx o) n s.1 + 1; omega)
          rw [show 6 - (k : Int) - 1 = (6 - ((k + 1 : Nat) : Int)) by omega] at hw
          exact y_end (by rw [hFa]; exact hw.mono (by omega)) (fun _ => hz2)
        · skip
          refine g_iconst hc dX13_unit_76 ?_
          refine g_zret hc hm (by first | exact g_b01 | omega) dX13_unit_77 ?_
          have hFa : t_unk (q_by M tx o) n (k + 1) 0 s = t_wn (q_by M tx o) n 41 (t_cok (q_by M tx o) n k 0 (t_adv (t_sk (q_by M tx o) n s))) := by
            show t_unit (q_by M tx o) n (t_suk (q_by M tx o) n (k + 1)) (some (t_unk (q_by M tx o) n k 0, t_con (q_by M tx o) n (t_tru (q_by M tx o) n (t_unk (q_by M tx o) n k)) 0)) 0 s = _
            unfold t_unit
            rw [if_neg (fun z => h33 z.2), if_pos ⟨rfl, h40⟩]; rfl
          exact y_end (by rw [hFa]; exact hy2.wnF he6.2 (by assumption) (by decide) (by omega)) (fun _ => Or.inl rfl)
      · exfalso; omega
  · skip
    have h33 : t_sg (q_by M tx o) n s = 33 := c1
    have hlt := y_sgp (B := (q_by M tx o)) (n := n) (a := s.1) (by omega)
    refine g_aldn hc dX13_unit_11 rfl ?_
    refine g_V0r hc (c_X13_goesIn w hR he (by omega) (by omega) (by omega)) my_X13_goesIn mv_X13_goesIn ca_703 rfl rfl lm_X13_164 rfl (by omega) (Nat.le_of_ble_eq_true rfl) hm dX13_unit_12 ?_
    refine g_ifb_ne (tgt := 20) hc dX13_unit_15 (by decide)  (fun c5 => ?_) (fun c5 => ?_)
    · skip
      rw [if_neg (by omega), if_neg (by omega), if_neg (by omega), show (6 - ((k + 1 : Nat) : Int)) + 1 = 6 - (k : Int) by omega]
      refine g_aldn hc dX13_unit_20 rfl ?_
      refine g_V0 hc ((hU hR he (s := (t_adv (t_sk (q_by M tx o) n s))) ⟨by show 0 ≤ g_pos (q_by M tx o) n s.1 + 1; omega, by show g_pos (q_by M tx o) n s.1 + 1 ≤ n; omega⟩ (show s.2.1 = -1 from hq0) (by show (s.2.2.length : Int) ≤ g_pos (q_by M tx o) n s.1 + 1; omega))) my_X13_unit mv_X13_unit ca_703 rfl rfl lm_X13_190 rfl (by omega) (Nat.le_of_ble_eq_true rfl) hm dX13_unit_21 (fun rY3 nY3 IY3 JY3 RY3 hpY3 => ?_)
      obtain ⟨rfl, rfl, rfl, v3, a3, q3, d3, rfl, rfl, hy3, hb3⟩ := hpY3
      have hv3 : g32 v3 := hy3.1
      have ha3 : 0 ≤ a3 ∧ a3 ≤ n := hy3.2.1
      have hd3 := hy3.2.2.1
      have hq3 : -1 ≤ q3 ∧ q3 ≤ 240 := hy3.2.2.2.1
      have hz3 : v3 = 0 ∨ v3 = 1 := hb3 rfl
      refine g_istore_2 hc dX13_unit_24 rfl ?_
      refine g_aldn hc dX13_unit_25 rfl ?_
      refine g_dup hc dX13_unit_26 rfl ?_
      refine g_getIe hc lk_X13_137 ca_703 12 rfl (y_M_d) dX13_unit_27 ?_
      refine g_iconst hc dX13_unit_30 ?_
      refine g_isub hc dX13_unit_31 ?_
      refine g_putIe (I2 := (y_M M a3 q3 (d3 - 1))) hc lk_X13_137 ca_703 12 rfl y_M_pd dX13_unit_32 ?_
      refine g_iload_n hc dX13_unit_35 rfl ?_
      refine g_if_ne (tgt := 43) hc dX13_unit_36 (by decide) (by first | exact hI _ _ | exact y_sg32 (by omega) hB | exact g_b32 | exact g_and32 | assumption | exact ⟨by omega, by omega⟩) (fun c6 => ?_) (fun c6 => ?_)
      · skip
        refine g_iconst hc dX13_unit_43 ?_
        refine g_zret hc hm (by first | exact g_b01 | omega) dX13_unit_44 ?_
        have hFa : t_unk (q_by M tx o) n (k + 1) 0 s = t_put (-33) (t_unk (q_by M tx o) n k 0 (t_adv (t_sk (q_by M tx o) n s))) := by
          show t_unit (q_by M tx o) n (t_suk (q_by M tx o) n (k + 1)) (some (t_unk (q_by M tx o) n k 0, t_con (q_by M tx o) n (t_tru (q_by M tx o) n (t_unk (q_by M tx o) n k)) 0)) 0 s = _
          unfold t_unit
          rw [if_pos ⟨rfl, h33⟩]
        have h9 := (hy3.not (by show (s.2.2.length : Int) ≤ g_pos (q_by M tx o) n s.1 + 1; omega) he6.2 hz3 s rfl (by show s.1 + 1 ≤ g_pos (q_by M tx o) n s.1 + 1; omega)).dd.mono (h2 := (2 * (k + 1) + 4)) (by omega)
        rw [show 6 - (k : Int) - 1 = (6 - ((k + 1 : Nat) : Int)) by omega, show 1 - v3 = 0 by omega] at h9
        exact y_end (by rw [hFa]; exact h9) (fun _ => by omega)
      · skip
        refine g_iconst hc dX13_unit_39 ?_
        refine g_goto (tgt := 44) hc dX13_unit_40 (by decide) ?_
        refine g_zret hc hm (by first | exact g_b01 | omega) dX13_unit_44 ?_
        have hFa : t_unk (q_by M tx o) n (k + 1) 0 s = t_put (-33) (t_unk (q_by M tx o) n k 0 (t_adv (t_sk (q_by M tx o) n s))) := by
          show t_unit (q_by M tx o) n (t_suk (q_by M tx o) n (k + 1)) (some (t_unk (q_by M tx o) n k 0, t_con (q_by M tx o) n (t_tru (q_by M tx o) n (t_unk (q_by M tx o) n k)) 0)) 0 s = _
          unfold t_unit
          rw [if_pos ⟨rfl, h33⟩]
        have h9 := (hy3.not (by show (s.2.2.length : Int) ≤ g_pos (q_by M tx o) n s.1 + 1; omega) he6.2 hz3 s rfl (by show s.1 + 1 ≤ g_pos (q_by M tx o) n s.1 + 1; omega)).dd.mono (h2 := (2 * (k + 1) + 4)) (by omega)
        rw [show 6 - (k : Int) - 1 = (6 - ((k + 1 : Nat) : Int)) by omega, show 1 - v3 = 1 by omega] at h9
        exact y_end (by rw [hFa]; exact h9) (fun _ => by omega)
    · exfalso; omega
set_option maxHeartbeats 4000000 in
set_option maxRecDepth 100000 in
/-- X13_part -/
theorem y_part (w : g_W) {J : g_J} {R : g_R} {lb tx ln : Nat} (hR : g_rf w R lb tx) {M : g_I} {o n : Int} {Lf : Int → Int} (he : y_env M tx ln o n Lf) {k : Nat} (hk : k ≤ 6) {s : g_S} (hs : 0 ≤ s.1 ∧ s.1 ≤ n) (hq0 : s.2.1 = -1) (hl : (s.2.2.length : Int) ≤ s.1) {s0 : g_S} {e r : Int} (hl0 : (s0.2.2.length : Int) ≤ s0.1) (H : e = 0 ∧ s0 = s ∨ e = 1 ∧ y_res n Lf (6 - (k : Int)) (2 * k + 3) s0 s r s.1 (-1) (6 - (k : Int))) (hU : y_Cunit w k) (hc9 : y_Ccmp w k) : g_Met w g_n (y_M M s.1 (-1) (6 - (k : Int))) J R yX13_part cX13_part 5 (some .boolean) (11 + 3 * k) 0 0 [(gvr w 703), (gvI e), (gvI r)] (y_post w M J R n Lf (6 - (k : Int)) (2 * k + 5) s0 (t_trk (q_by M tx o) n k e s) true) := by
  refine g_intro (own := RX13) [some (gvr w 703), some (gvI e), some (gvI r), none, none] (by decide +kernel) rfl (by decide) (Nat.le_of_ble_eq_true rfl) rfl (fun i v hv => g_args 2 i v hv rfl) (fun x hc hm => ?_)
  obtain ⟨⟨he1, he2⟩, ⟨he3, he4, he5⟩, he6, hB, hI, hLt, hat, hx3⟩ := id he
  have he01 : e = 0 ∨ e = 1 := by rcases H with ⟨h, -⟩ | ⟨h, -⟩ <;> omega
  have H1 : ¬ e = 0 → y_res n Lf (6 - (k : Int)) (2 * k + 3) s0 s r s.1 (-1) (6 - (k : Int)) := fun z => by
    rcases H with ⟨h, -⟩ | ⟨-, h⟩
    · exact absurd h z
    · exact h
  have H0 : e = 0 → s0 = s := fun z => by
    rcases H with ⟨-, h⟩ | ⟨h, -⟩
    · exact h
    · omega
  refine g_iload_n hc dX13_part_0 rfl ?_
  refine g_if_eq (tgt := 13) hc dX13_part_1 (by decide) (by first | exact hI _ _ | exact y_sg32 (by omega) hB | exact g_b32 | exact g_and32 | assumption | exact ⟨by omega, by omega⟩) (fun c1 => ?_) (fun c1 => ?_)
  · skip
    refine g_aldn hc dX13_part_13 rfl ?_
    refine g_V0 hc (hU hR he hs hq0 hl) my_X13_unit mv_X13_unit ca_703 rfl rfl lm_X13_190 rfl (by omega) (Nat.le_of_ble_eq_true rfl) hm dX13_part_14 (fun rY1 nY1 IY1 JY1 RY1 hpY1 => ?_)
    obtain ⟨rfl, rfl, rfl, v1, a1, q1, d1, rfl, rfl, hy1, hb1⟩ := hpY1
    have hv1 : g32 v1 := hy1.1
    have ha1 : 0 ≤ a1 ∧ a1 ≤ n := hy1.2.1
    have hd1 := hy1.2.2.1
    have hq1 : -1 ≤ q1 ∧ q1 ≤ 240 := hy1.2.2.2.1
    have hz1 : v1 = 0 ∨ v1 = 1 := hb1 rfl
    refine g_istore_3 hc dX13_part_17 rfl ?_
    have lp_18 : ∀ (fu : Nat) (v i q dd : Int) (s1 : g_S) (m : Nat), y_res n Lf (6 - (k : Int)) (2 * k + 5) s0 s1 v i q dd → (v = 0 ∨ v = 1) → t_trk (q_by M tx o) n k e s = t_lq (q_by M tx o) n 38 (t_unk (q_by M tx o) n k 0) m s1 → (q = -1 → 240 - (m : Int) ≤ s1.1) → (m : Int) < (fu : Int) → G w x (y_post w M J R n Lf (6 - (k : Int)) (2 * k + 5) s0 (t_trk (q_by M tx o) n k e s) true) 0 0 g_n (y_M M i q dd) J R 18 [some (gvr w 703), some (gvI e), some (gvI r), some (gvI v), none] [] := by
      intro fu
      induction fu with
      | zero => intro v i q dd s1 m hy hb hF hm2 hfu; exfalso; omega
      | succ fu ih =>
        intro v i q dd s1 m hy hb hF hm2 hfu
        have hv := hy.1
        have hi := hy.2.1
        have hqb := hy.2.2.2.1
        have ih_18 := ih
        refine g_aldn hc dX13_part_18 rfl ?_
        refine g_getIe hc lk_X13_134 ca_703 11 rfl (y_M_q) dX13_part_19 ?_
        refine g_iconst hc dX13_part_22 ?_
        refine g_icmp_ne (tgt := 69) hc dX13_part_23 (by decide) (by first | exact hI _ _ | exact y_sg32 (by omega) hB | exact g_b32 | exact g_and32 | assumption | exact ⟨by omega, by omega⟩) (by first | exact hI _ _ | exact y_sg32 (by omega) hB | exact g_b32 | exact g_and32 | assumption | exact ⟨by omega, by omega⟩) (fun c2 => ?_) (fun c2 => ?_)
        · skip
          refine g_iload_n hc dX13_part_69 rfl ?_
          refine g_zret hc hm (by first | exact g_b01 | omega) dX13_part_70 ?_
          first | (exfalso; omega) | exact y_end (by rw [hF, t_lq_e hi.2 (fun z => by omega) (by show ¬ g_sgn _ _ _ = _; omega)]; exact hy.sk) (fun _ => hb) | exact y_end (by rw [hF]; exact hy.bad (by omega) (pb_lq (by decide) m) hy.1 (Int.le_refl _)) (fun _ => hb)
        · skip
          have hqz : q = -1 := by omega
          subst hqz
          obtain ⟨hi1, he8, hQ, hss⟩ := hy.at
          subst hi1
          subst he8
          have hl1 := hy.len hl0
          have hi := hy.2.1
          have hp := g_pos_in (B := (q_by M tx o)) (len := n) (a := s1.1) hi.2
          have hm3 := hm2 rfl
          refine g_aldn hc dX13_part_26 rfl ?_
          refine g_V0r hc (c_X13_look w hR he (by omega) (by omega) (by omega)) my_X13_look mv_X13_look ca_703 rfl rfl lm_X13_144 rfl (by omega) (Nat.le_of_ble_eq_true rfl) hm dX13_part_27 ?_
          refine g_bipush hc dX13_part_30 (by decide +kernel) ?_
          refine g_icmp_ne (tgt := 69) hc dX13_part_32 (by decide) (by first | exact hI _ _ | exact y_sg32 (by omega) hB | exact g_b32 | exact g_and32 | assumption | exact ⟨by omega, by omega⟩) (by first | exact hI _ _ | exact y_sg32 (by omega) hB | exact g_b32 | exact g_and32 | assumption | exact ⟨by omega, by omega⟩) (fun c3 => ?_) (fun c3 => ?_)
          · skip
            refine g_iload_n hc dX13_part_69 rfl ?_
            refine g_zret hc hm (by first | exact g_b01 | omega) dX13_part_70 ?_
            first | (exfalso; omega) | exact y_end (by rw [hF, t_lq_e hi.2 (fun z => by omega) (by show ¬ g_sgn _ _ _ = _; omega)]; exact hy.sk) (fun _ => hb) | exact y_end (by rw [hF]; exact hy.bad (by omega) (pb_lq (by decide) m) hy.1 (Int.le_refl _)) (fun _ => hb)
          · skip
            have hlt := y_sgp (B := (q_by M tx o)) (n := n) (a := s1.1) (by omega)
            have hm4 : 0 < m := by omega
            refine g_aldn hc dX13_part_35 rfl ?_
            refine g_dup hc dX13_part_36 rfl ?_
            refine g_getIe hc lk_X13_125 ca_703 10 rfl (y_M_a) dX13_part_37 ?_
            refine g_iconst hc dX13_part_40 ?_
            refine g_iadd hc dX13_part_41 ?_
            refine g_putIe (I2 := (y_M M ((g_pos (q_by M tx o) n s1.1) + 1) (-1) (6 - (k : Int)))) hc lk_X13_125 ca_703 10 rfl y_M_pa dX13_part_42 ?_
            refine g_aldn hc dX13_part_45 rfl ?_
            refine g_V0 hc ((hU hR he (s := (t_adv (t_sk (q_by M tx o) n s1))) ⟨by show 0 ≤ g_pos (q_by M tx o) n s1.1 + 1; omega, by show g_pos (q_by M tx o) n s1.1 + 1 ≤ n; omega⟩ (show s1.2.1 = -1 from hQ) (by show (s1.2.2.length : Int) ≤ g_pos (q_by M tx o) n s1.1 + 1; omega))) my_X13_unit mv_X13_unit ca_703 rfl rfl lm_X13_190 rfl (by omega) (Nat.le_of_ble_eq_true rfl) hm dX13_part_46 (fun rY9 nY9 IY9 JY9 RY9 hpY9 => ?_)
            obtain ⟨rfl, rfl, rfl, v9, a9, q9, d9, rfl, rfl, hy9, hb9⟩ := hpY9
            have hv9 : g32 v9 := hy9.1
            have ha9 : 0 ≤ a9 ∧ a9 ≤ n := hy9.2.1
            have hd9 := hy9.2.2.1
            have hq9 : -1 ≤ q9 ∧ q9 ≤ 240 := hy9.2.2.2.1
            have hz9 : v9 = 0 ∨ v9 = 1 := hb9 rfl
            have hyB := hy9
            have hzB := hz9
            have hop := hy.op (s2 := (t_adv (t_sk (q_by M tx o) n s1))) hl0 he6.2 rfl (by show s1.1 + 1 ≤ g_pos (q_by M tx o) n s1.1 + 1; omega) hy9 (by omega) (op := 38) (by decide)
            refine g_istore_4 hc dX13_part_49 rfl ?_
            refine g_iload_n hc dX13_part_51 rfl ?_
            refine g_if_eq (tgt := 64) hc dX13_part_52 (by decide) (by first | exact hI _ _ | exact y_sg32 (by omega) hB | exact g_b32 | exact g_and32 | assumption | exact ⟨by omega, by omega⟩) (fun c4 => ?_) (fun c4 => ?_)
            · skip
              refine g_iconst hc dX13_part_64 ?_
              refine g_istore_3 hc dX13_part_65 rfl ?_
              refine g_goto (tgt := 18) hc dX13_part_66 (by decide) ?_
              refine G_sub (L' := [some (gvr w 703), some (gvI e), some (gvI r), some (gvI 0), none]) (show g_le _ _ from ⟨rfl, ⟨rfl, ⟨rfl, ⟨rfl, trivial⟩⟩⟩⟩) ?_
              refine ih_18 _ _ _ _ (t_put (-38) (t_unk (q_by M tx o) n k 0 (t_adv (t_sk (q_by M tx o) n s1)))) (m - 1) ?_ ?_ ?_ ?_ ?_
              · rw [y_j38 hb hzB, if_neg (by omega)] at hop; exact hop
              · omega
              · rw [hF, t_lq_s (by omega) (by show g_sgn _ _ _ = _; omega)]
              · intro z; subst z; have h9 := hyB.at; have h7 : g_pos (q_by M tx o) n s1.1 + 1 ≤ _ := h9.2.2.2; show 240 - ((m - 1 : Nat) : Int) ≤ (t_unk (q_by M tx o) n k 0 (t_adv (t_sk (q_by M tx o) n s1))).1; omega
              · omega
            · skip
              refine g_iload hc dX13_part_55 rfl ?_
              refine g_if_eq (tgt := 64) hc dX13_part_57 (by decide) (by first | exact hI _ _ | exact y_sg32 (by omega) hB | exact g_b32 | exact g_and32 | assumption | exact ⟨by omega, by omega⟩) (fun c5 => ?_) (fun c5 => ?_)
              · skip
                refine g_iconst hc dX13_part_64 ?_
                refine g_istore_3 hc dX13_part_65 rfl ?_
                refine g_goto (tgt := 18) hc dX13_part_66 (by decide) ?_
                refine G_sub (L' := [some (gvr w 703), some (gvI e), some (gvI r), some (gvI 0), none]) (show g_le _ _ from ⟨rfl, ⟨rfl, ⟨rfl, ⟨rfl, trivial⟩⟩⟩⟩) ?_
                refine ih_18 _ _ _ _ (t_put (-38) (t_unk (q_by M tx o) n k 0 (t_adv (t_sk (q_by M tx o) n s1)))) (m - 1) ?_ ?_ ?_ ?_ ?_
                · rw [y_j38 hb hzB, if_neg (by omega)] at hop; exact hop
                · omega
                · rw [hF, t_lq_s (by omega) (by show g_sgn _ _ _ = _; omega)]
                · intro z; subst z; have h9 := hyB.at; have h7 : g_pos (q_by M tx o) n s1.1 + 1 ≤ _ := h9.2.2.2; show 240 - ((m - 1 : Nat) : Int) ≤ (t_unk (q_by M tx o) n k 0 (t_adv (t_sk (q_by M tx o) n s1))).1; omega
                · omega
              · skip
                refine g_iconst hc dX13_part_60 ?_
                refine g_goto (tgt := 65) hc dX13_part_61 (by decide) ?_
                refine g_istore_3 hc dX13_part_65 rfl ?_
                refine g_goto (tgt := 18) hc dX13_part_66 (by decide) ?_
                refine G_sub (L' := [some (gvr w 703), some (gvI e), some (gvI r), some (gvI 1), none]) (show g_le _ _ from ⟨rfl, ⟨rfl, ⟨rfl, ⟨rfl, trivial⟩⟩⟩⟩) ?_
                refine ih_18 _ _ _ _ (t_put (-38) (t_unk (q_by M tx o) n k 0 (t_adv (t_sk (q_by M tx o) n s1)))) (m - 1) ?_ ?_ ?_ ?_ ?_
                · rw [y_j38 hb hzB, if_pos (by omega)] at hop; exact hop
                · omega
                · rw [hF, t_lq_s (by omega) (by show g_sgn _ _ _ = _; omega)]
                · intro z; subst z; have h9 := hyB.at; have h7 : g_pos (q_by M tx o) n s1.1 + 1 ≤ _ := h9.2.2.2; show 240 - ((m - 1 : Nat) : Int) ≤ (t_unk (q_by M tx o) n k 0 (t_adv (t_sk (q_by M tx o) n s1))).1; omega
                · omega
    refine lp_18 241 _ _ _ _ (t_unk (q_by M tx o) n k 0 s) 240 ?_ ?_ ?_ ?_ (?_)
    · first | (rw [H0 (by omega)]; exact hy1.mono (by omega)) | exact hy3.mono (by omega)
    · first | exact hz1 | exact hz3
    · first | (rw [show e = 0 by omega]; rfl) | (rw [show e = 1 by omega, ← y_unk1 k hs.2]; rfl)
    · intro z; have h9 : (240 : Int) - ((240 : Nat) : Int) = 0 := by decide
      first | (have h8 := hy1; rw [z] at h8; have := h8.at; omega) | (have h8 := hy3; rw [z] at h8; have := h8.at; have := (H1 (by omega)).at; omega)
    · decide
  · skip
    refine g_aldn hc dX13_part_4 rfl ?_
    refine g_iconst hc dX13_part_5 ?_
    refine g_iload_n hc dX13_part_6 rfl ?_
    refine g_V2 hc (hc9 hR he (s := s) (s0 := s0) (e := 1) (r := r) hs hq0 hl hl0 (Or.inr ⟨rfl, H1 (by omega)⟩)) my_X13_compares mv_X13_compares ca_703 rfl rfl lm_X13_197 rfl (by omega) (Nat.le_of_ble_eq_true rfl) hm dX13_part_7 (fun rY3 nY3 IY3 JY3 RY3 hpY3 => ?_)
    obtain ⟨rfl, rfl, rfl, v3, a3, q3, d3, rfl, rfl, hy3, hb3⟩ := hpY3
    have hv3 : g32 v3 := hy3.1
    have ha3 : 0 ≤ a3 ∧ a3 ≤ n := hy3.2.1
    have hd3 := hy3.2.2.1
    have hq3 : -1 ≤ q3 ∧ q3 ≤ 240 := hy3.2.2.2.1
    have hz3 : v3 = 0 ∨ v3 = 1 := hb3 rfl
    refine g_goto (tgt := 17) hc dX13_part_10 (by decide) ?_
    refine g_istore_3 hc dX13_part_17 rfl ?_
    have lp_18 : ∀ (fu : Nat) (v i q dd : Int) (s1 : g_S) (m : Nat), y_res n Lf (6 - (k : Int)) (2 * k + 5) s0 s1 v i q dd → (v = 0 ∨ v = 1) → t_trk (q_by M tx o) n k e s = t_lq (q_by M tx o) n 38 (t_unk (q_by M tx o) n k 0) m s1 → (q = -1 → 240 - (m : Int) ≤ s1.1) → (m : Int) < (fu : Int) → G w x (y_post w M J R n Lf (6 - (k : Int)) (2 * k + 5) s0 (t_trk (q_by M tx o) n k e s) true) 0 0 g_n (y_M M i q dd) J R 18 [some (gvr w 703), some (gvI e), some (gvI r), some (gvI v), none] [] := by
      intro fu
      induction fu with
      | zero => intro v i q dd s1 m hy hb hF hm2 hfu; exfalso; omega
      | succ fu ih =>
        intro v i q dd s1 m hy hb hF hm2 hfu
        have hv := hy.1
        have hi := hy.2.1
        have hqb := hy.2.2.2.1
        have ih_18 := ih
        refine g_aldn hc dX13_part_18 rfl ?_
        refine g_getIe hc lk_X13_134 ca_703 11 rfl (y_M_q) dX13_part_19 ?_
        refine g_iconst hc dX13_part_22 ?_
        refine g_icmp_ne (tgt := 69) hc dX13_part_23 (by decide) (by first | exact hI _ _ | exact y_sg32 (by omega) hB | exact g_b32 | exact g_and32 | assumption | exact ⟨by omega, by omega⟩) (by first | exact hI _ _ | exact y_sg32 (by omega) hB | exact g_b32 | exact g_and32 | assumption | exact ⟨by omega, by omega⟩) (fun c6 => ?_) (fun c6 => ?_)
        · skip
          refine g_iload_n hc dX13_part_69 rfl ?_
          refine g_zret hc hm (by first | exact g_b01 | omega) dX13_part_70 ?_
          first | (exfalso; omega) | exact y_end (by rw [hF, t_lq_e hi.2 (fun z => by omega) (by show ¬ g_sgn _ _ _ = _; omega)]; exact hy.sk) (fun _ => hb) | exact y_end (by rw [hF]; exact hy.bad (by omega) (pb_lq (by decide) m) hy.1 (Int.le_refl _)) (fun _ => hb)
        · skip
          have hqz : q = -1 := by omega
          subst hqz
          obtain ⟨hi1, he8, hQ, hss⟩ := hy.at
          subst hi1
          subst he8
          have hl1 := hy.len hl0
          have hi := hy.2.1
          have hp := g_pos_in (B := (q_by M tx o)) (len := n) (a := s1.1) hi.2
          have hm3 := hm2 rfl
          refine g_aldn hc dX13_part_26 rfl ?_
          refine g_V0r hc (c_X13_look w hR he (by omega) (by omega) (by omega)) my_X13_look mv_X13_look ca_703 rfl rfl lm_X13_144 rfl (by omega) (Nat.le_of_ble_eq_true rfl) hm dX13_part_27 ?_
          refine g_bipush hc dX13_part_30 (by decide +kernel) ?_
          refine g_icmp_ne (tgt := 69) hc dX13_part_32 (by decide) (by first | exact hI _ _ | exact y_sg32 (by omega) hB | exact g_b32 | exact g_and32 | assumption | exact ⟨by omega, by omega⟩) (by first | exact hI _ _ | exact y_sg32 (by omega) hB | exact g_b32 | exact g_and32 | assumption | exact ⟨by omega, by omega⟩) (fun c7 => ?_) (fun c7 => ?_)
          · skip
            refine g_iload_n hc dX13_part_69 rfl ?_
            refine g_zret hc hm (by first | exact g_b01 | omega) dX13_part_70 ?_
            first | (exfalso; omega) | exact y_end (by rw [hF, t_lq_e hi.2 (fun z => by omega) (by show ¬ g_sgn _ _ _ = _; omega)]; exact hy.sk) (fun _ => hb) | exact y_end (by rw [hF]; exact hy.bad (by omega) (pb_lq (by decide) m) hy.1 (Int.le_refl _)) (fun _ => hb)
          · skip
            have hlt := y_sgp (B := (q_by M tx o)) (n := n) (a := s1.1) (by omega)
            have hm4 : 0 < m := by omega
            refine g_aldn hc dX13_part_35 rfl ?_
            refine g_dup hc dX13_part_36 rfl ?_
            refine g_getIe hc lk_X13_125 ca_703 10 rfl (y_M_a) dX13_part_37 ?_
            refine g_iconst hc dX13_part_40 ?_
            refine g_iadd hc dX13_part_41 ?_
            refine g_putIe (I2 := (y_M M ((g_pos (q_by M tx o) n s1.1) + 1) (-1) (6 - (k : Int)))) hc lk_X13_125 ca_703 10 rfl y_M_pa dX13_part_42 ?_
            refine g_aldn hc dX13_part_45 rfl ?_
            refine g_V0 hc ((hU hR he (s := (t_adv (t_sk (q_by M tx o) n s1))) ⟨by show 0 ≤ g_pos (q_by M tx o) n s1.1 + 1; omega, by show g_pos (q_by M tx o) n s1.1 + 1 ≤ n; omega⟩ (show s1.2.1 = -1 from hQ) (by show (s1.2.2.length : Int) ≤ g_pos (q_by M tx o) n s1.1 + 1; omega))) my_X13_unit mv_X13_unit ca_703 rfl rfl lm_X13_190 rfl (by omega) (Nat.le_of_ble_eq_true rfl) hm dX13_part_46 (fun rY9 nY9 IY9 JY9 RY9 hpY9 => ?_)
            obtain ⟨rfl, rfl, rfl, v9, a9, q9, d9, rfl, rfl, hy9, hb9⟩ := hpY9
            have hv9 : g32 v9 := hy9.1
            have ha9 : 0 ≤ a9 ∧ a9 ≤ n := hy9.2.1
            have hd9 := hy9.2.2.1
            have hq9 : -1 ≤ q9 ∧ q9 ≤ 240 := hy9.2.2.2.1
            have hz9 : v9 = 0 ∨ v9 = 1 := hb9 rfl
            have hyB := hy9
            have hzB := hz9
            have hop := hy.op (s2 := (t_adv (t_sk (q_by M tx o) n s1))) hl0 he6.2 rfl (by show s1.1 + 1 ≤ g_pos (q_by M tx o) n s1.1 + 1; omega) hy9 (by omega) (op := 38) (by decide)
            refine g_istore_4 hc dX13_part_49 rfl ?_
            refine g_iload_n hc dX13_part_51 rfl ?_
            refine g_if_eq (tgt := 64) hc dX13_part_52 (by decide) (by first | exact hI _ _ | exact y_sg32 (by omega) hB | exact g_b32 | exact g_and32 | assumption | exact ⟨by omega, by omega⟩) (fun c8 => ?_) (fun c8 => ?_)
            · skip
              refine g_iconst hc dX13_part_64 ?_
              refine g_istore_3 hc dX13_part_65 rfl ?_
              refine g_goto (tgt := 18) hc dX13_part_66 (by decide) ?_
              refine G_sub (L' := [some (gvr w 703), some (gvI e), some (gvI r), some (gvI 0), none]) (show g_le _ _ from ⟨rfl, ⟨rfl, ⟨rfl, ⟨rfl, trivial⟩⟩⟩⟩) ?_
              refine ih_18 _ _ _ _ (t_put (-38) (t_unk (q_by M tx o) n k 0 (t_adv (t_sk (q_by M tx o) n s1)))) (m - 1) ?_ ?_ ?_ ?_ ?_
              · rw [y_j38 hb hzB, if_neg (by omega)] at hop; exact hop
              · omega
              · rw [hF, t_lq_s (by omega) (by show g_sgn _ _ _ = _; omega)]
              · intro z; subst z; have h9 := hyB.at; have h7 : g_pos (q_by M tx o) n s1.1 + 1 ≤ _ := h9.2.2.2; show 240 - ((m - 1 : Nat) : Int) ≤ (t_unk (q_by M tx o) n k 0 (t_adv (t_sk (q_by M tx o) n s1))).1; omega
              · omega
            · skip
              refine g_iload hc dX13_part_55 rfl ?_
              refine g_if_eq (tgt := 64) hc dX13_part_57 (by decide) (by first | exact hI _ _ | exact y_sg32 (by omega) hB | exact g_b32 | exact g_and32 | assumption | exact ⟨by omega, by omega⟩) (fun c9 => ?_) (fun c9 => ?_)
              · skip
                refine g_iconst hc dX13_part_64 ?_
                refine g_istore_3 hc dX13_part_65 rfl ?_
                refine g_goto (tgt := 18) hc dX13_part_66 (by decide) ?_
                refine G_sub (L' := [some (gvr w 703), some (gvI e), some (gvI r), some (gvI 0), none]) (show g_le _ _ from ⟨rfl, ⟨rfl, ⟨rfl, ⟨rfl, trivial⟩⟩⟩⟩) ?_
                refine ih_18 _ _ _ _ (t_put (-38) (t_unk (q_by M tx o) n k 0 (t_adv (t_sk (q_by M tx o) n s1)))) (m - 1) ?_ ?_ ?_ ?_ ?_
                · rw [y_j38 hb hzB, if_neg (by omega)] at hop; exact hop
                · omega
                · rw [hF, t_lq_s (by omega) (by show g_sgn _ _ _ = _; omega)]
                · intro z; subst z; have h9 := hyB.at; have h7 : g_pos (q_by M tx o) n s1.1 + 1 ≤ _ := h9.2.2.2; show 240 - ((m - 1 : Nat) : Int) ≤ (t_unk (q_by M tx o) n k 0 (t_adv (t_sk (q_by M tx o) n s1))).1; omega
                · omega
              · skip
                refine g_iconst hc dX13_part_60 ?_
                refine g_goto (tgt := 65) hc dX13_part_61 (by decide) ?_
                refine g_istore_3 hc dX13_part_65 rfl ?_
                refine g_goto (tgt := 18) hc dX13_part_66 (by decide) ?_
                refine G_sub (L' := [some (gvr w 703), some (gvI e), some (gvI r), some (gvI 1), none]) (show g_le _ _ from ⟨rfl, ⟨rfl, ⟨rfl, ⟨rfl, trivial⟩⟩⟩⟩) ?_
                refine ih_18 _ _ _ _ (t_put (-38) (t_unk (q_by M tx o) n k 0 (t_adv (t_sk (q_by M tx o) n s1)))) (m - 1) ?_ ?_ ?_ ?_ ?_
                · rw [y_j38 hb hzB, if_pos (by omega)] at hop; exact hop
                · omega
                · rw [hF, t_lq_s (by omega) (by show g_sgn _ _ _ = _; omega)]
                · intro z; subst z; have h9 := hyB.at; have h7 : g_pos (q_by M tx o) n s1.1 + 1 ≤ _ := h9.2.2.2; show 240 - ((m - 1 : Nat) : Int) ≤ (t_unk (q_by M tx o) n k 0 (t_adv (t_sk (q_by M tx o) n s1))).1; omega
                · omega
    refine lp_18 241 _ _ _ _ (t_cmp (q_by M tx o) n (t_suk (q_by M tx o) n k) 1 s) 240 ?_ ?_ ?_ ?_ (?_)
    · first | (rw [H0 (by omega)]; exact hy1.mono (by omega)) | exact hy3.mono (by omega)
    · first | exact hz1 | exact hz3
    · first | (rw [show e = 0 by omega]; rfl) | (rw [show e = 1 by omega, ← y_unk1 k hs.2]; rfl)
    · intro z; have h9 : (240 : Int) - ((240 : Nat) : Int) = 0 := by decide
      first | (have h8 := hy1; rw [z] at h8; have := h8.at; omega) | (have h8 := hy3; rw [z] at h8; have := h8.at; have := (H1 (by omega)).at; omega)
    · decide
set_option maxHeartbeats 4000000 in
set_option maxRecDepth 100000 in
/-- X13_condition -/
theorem y_condition (w : g_W) {J : g_J} {R : g_R} {lb tx ln : Nat} (hR : g_rf w R lb tx) {M : g_I} {o n : Int} {Lf : Int → Int} (he : y_env M tx ln o n Lf) {k : Nat} (hk : k ≤ 6) {s : g_S} (hs : 0 ≤ s.1 ∧ s.1 ≤ n) (hq0 : s.2.1 = -1) (hl : (s.2.2.length : Int) ≤ s.1) {s0 : g_S} {e r : Int} (hl0 : (s0.2.2.length : Int) ≤ s0.1) (H : e = 0 ∧ s0 = s ∨ e = 1 ∧ y_res n Lf (6 - (k : Int)) (2 * k + 3) s0 s r s.1 (-1) (6 - (k : Int))) (hP : y_Cpart w k) : g_Met w g_n (y_M M s.1 (-1) (6 - (k : Int))) J R yX13_condition cX13_condition 5 (some .boolean) (12 + 3 * k) 0 0 [(gvr w 703), (gvI e), (gvI r)] (y_post w M J R n Lf (6 - (k : Int)) (2 * k + 6) s0 (t_cok (q_by M tx o) n k e s) true) := by
  refine g_intro (own := RX13) [some (gvr w 703), some (gvI e), some (gvI r), none, none] (by decide +kernel) rfl (by decide) (Nat.le_of_ble_eq_true rfl) rfl (fun i v hv => g_args 2 i v hv rfl) (fun x hc hm => ?_)
  obtain ⟨⟨he1, he2⟩, ⟨he3, he4, he5⟩, he6, hB, hI, hLt, hat, hx3⟩ := id he
  have he01 : e = 0 ∨ e = 1 := by rcases H with ⟨h, -⟩ | ⟨h, -⟩ <;> omega
  have H1 : ¬ e = 0 → y_res n Lf (6 - (k : Int)) (2 * k + 3) s0 s r s.1 (-1) (6 - (k : Int)) := fun z => by
    rcases H with ⟨h, -⟩ | ⟨-, h⟩
    · exact absurd h z
    · exact h
  have H0 : e = 0 → s0 = s := fun z => by
    rcases H with ⟨-, h⟩ | ⟨h, -⟩
    · exact h
    · omega
  refine g_aldn hc dX13_condition_0 rfl ?_
  refine g_iload_n hc dX13_condition_1 rfl ?_
  refine g_iload_n hc dX13_condition_2 rfl ?_
  refine g_V2 hc (hP hR he (s := s) (s0 := s0) (e := e) (r := r) hs hq0 hl hl0 H) my_X13_part mv_X13_part ca_703 rfl rfl lm_X13_200 rfl (by omega) (Nat.le_of_ble_eq_true rfl) hm dX13_condition_3 (fun rY1 nY1 IY1 JY1 RY1 hpY1 => ?_)
  obtain ⟨rfl, rfl, rfl, v1, a1, q1, d1, rfl, rfl, hy1, hb1⟩ := hpY1
  have hv1 : g32 v1 := hy1.1
  have ha1 : 0 ≤ a1 ∧ a1 ≤ n := hy1.2.1
  have hd1 := hy1.2.2.1
  have hq1 : -1 ≤ q1 ∧ q1 ≤ 240 := hy1.2.2.2.1
  have hz1 : v1 = 0 ∨ v1 = 1 := hb1 rfl
  refine g_istore_3 hc dX13_condition_6 rfl ?_
  have lp_7 : ∀ (fu : Nat) (v i q dd : Int) (s1 : g_S) (m : Nat), y_res n Lf (6 - (k : Int)) (2 * k + 6) s0 s1 v i q dd → (v = 0 ∨ v = 1) → t_cok (q_by M tx o) n k e s = t_lq (q_by M tx o) n 124 (t_trk (q_by M tx o) n k 0) m s1 → (q = -1 → 240 - (m : Int) ≤ s1.1) → (m : Int) < (fu : Int) → G w x (y_post w M J R n Lf (6 - (k : Int)) (2 * k + 6) s0 (t_cok (q_by M tx o) n k e s) true) 0 0 g_n (y_M M i q dd) J R 7 [some (gvr w 703), some (gvI e), some (gvI r), some (gvI v), none] [] := by
    intro fu
    induction fu with
    | zero => intro v i q dd s1 m hy hb hF hm2 hfu; exfalso; omega
    | succ fu ih =>
      intro v i q dd s1 m hy hb hF hm2 hfu
      have hv := hy.1
      have hi := hy.2.1
      have hqb := hy.2.2.2.1
      have ih_7 := ih
      refine g_aldn hc dX13_condition_7 rfl ?_
      refine g_getIe hc lk_X13_134 ca_703 11 rfl (y_M_q) dX13_condition_8 ?_
      refine g_iconst hc dX13_condition_11 ?_
      refine g_icmp_ne (tgt := 60) hc dX13_condition_12 (by decide) (by first | exact hI _ _ | exact y_sg32 (by omega) hB | exact g_b32 | exact g_and32 | assumption | exact ⟨by omega, by omega⟩) (by first | exact hI _ _ | exact y_sg32 (by omega) hB | exact g_b32 | exact g_and32 | assumption | exact ⟨by omega, by omega⟩) (fun c1 => ?_) (fun c1 => ?_)
      · skip
        refine g_iload_n hc dX13_condition_60 rfl ?_
        refine g_zret hc hm (by first | exact g_b01 | omega) dX13_condition_61 ?_
        first | (exfalso; omega) | exact y_end (by rw [hF, t_lq_e hi.2 (fun z => by omega) (by show ¬ g_sgn _ _ _ = _; omega)]; exact hy.sk) (fun _ => hb) | exact y_end (by rw [hF]; exact hy.bad (by omega) (pb_lq (by decide) m) hy.1 (Int.le_refl _)) (fun _ => hb)
      · skip
        have hqz : q = -1 := by omega
        subst hqz
        obtain ⟨hi1, he8, hQ, hss⟩ := hy.at
        subst hi1
        subst he8
        have hl1 := hy.len hl0
        have hi := hy.2.1
        have hp := g_pos_in (B := (q_by M tx o)) (len := n) (a := s1.1) hi.2
        have hm3 := hm2 rfl
        refine g_aldn hc dX13_condition_15 rfl ?_
        refine g_V0r hc (c_X13_look w hR he (by omega) (by omega) (by omega)) my_X13_look mv_X13_look ca_703 rfl rfl lm_X13_144 rfl (by omega) (Nat.le_of_ble_eq_true rfl) hm dX13_condition_16 ?_
        refine g_bipush hc dX13_condition_19 (by decide +kernel) ?_
        refine g_icmp_ne (tgt := 60) hc dX13_condition_21 (by decide) (by first | exact hI _ _ | exact y_sg32 (by omega) hB | exact g_b32 | exact g_and32 | assumption | exact ⟨by omega, by omega⟩) (by first | exact hI _ _ | exact y_sg32 (by omega) hB | exact g_b32 | exact g_and32 | assumption | exact ⟨by omega, by omega⟩) (fun c2 => ?_) (fun c2 => ?_)
        · skip
          refine g_iload_n hc dX13_condition_60 rfl ?_
          refine g_zret hc hm (by first | exact g_b01 | omega) dX13_condition_61 ?_
          first | (exfalso; omega) | exact y_end (by rw [hF, t_lq_e hi.2 (fun z => by omega) (by show ¬ g_sgn _ _ _ = _; omega)]; exact hy.sk) (fun _ => hb) | exact y_end (by rw [hF]; exact hy.bad (by omega) (pb_lq (by decide) m) hy.1 (Int.le_refl _)) (fun _ => hb)
        · skip
          have hlt := y_sgp (B := (q_by M tx o)) (n := n) (a := s1.1) (by omega)
          have hm4 : 0 < m := by omega
          refine g_aldn hc dX13_condition_24 rfl ?_
          refine g_dup hc dX13_condition_25 rfl ?_
          refine g_getIe hc lk_X13_125 ca_703 10 rfl (y_M_a) dX13_condition_26 ?_
          refine g_iconst hc dX13_condition_29 ?_
          refine g_iadd hc dX13_condition_30 ?_
          refine g_putIe (I2 := (y_M M ((g_pos (q_by M tx o) n s1.1) + 1) (-1) (6 - (k : Int)))) hc lk_X13_125 ca_703 10 rfl y_M_pa dX13_condition_31 ?_
          refine g_aldn hc dX13_condition_34 rfl ?_
          refine g_iconst hc dX13_condition_35 ?_
          refine g_iconst hc dX13_condition_36 ?_
          refine g_V2 hc ((hP hR he (s := (t_adv (t_sk (q_by M tx o) n s1))) (s0 := (t_adv (t_sk (q_by M tx o) n s1))) (e := 0) (r := 0) ⟨by show 0 ≤ g_pos (q_by M tx o) n s1.1 + 1; omega, by show g_pos (q_by M tx o) n s1.1 + 1 ≤ n; omega⟩ (show s1.2.1 = -1 from hQ) (by show (s1.2.2.length : Int) ≤ g_pos (q_by M tx o) n s1.1 + 1; omega) (by show (s1.2.2.length : Int) ≤ g_pos (q_by M tx o) n s1.1 + 1; omega) (Or.inl ⟨rfl, rfl⟩))) my_X13_part mv_X13_part ca_703 rfl rfl lm_X13_200 rfl (by omega) (Nat.le_of_ble_eq_true rfl) hm dX13_condition_37 (fun rY9 nY9 IY9 JY9 RY9 hpY9 => ?_)
          obtain ⟨rfl, rfl, rfl, v9, a9, q9, d9, rfl, rfl, hy9, hb9⟩ := hpY9
          have hv9 : g32 v9 := hy9.1
          have ha9 : 0 ≤ a9 ∧ a9 ≤ n := hy9.2.1
          have hd9 := hy9.2.2.1
          have hq9 : -1 ≤ q9 ∧ q9 ≤ 240 := hy9.2.2.2.1
          have hz9 : v9 = 0 ∨ v9 = 1 := hb9 rfl
          have hyB := hy9
          have hzB := hz9
          have hop := hy.op (s2 := (t_adv (t_sk (q_by M tx o) n s1))) hl0 he6.2 rfl (by show s1.1 + 1 ≤ g_pos (q_by M tx o) n s1.1 + 1; omega) hy9 (by omega) (op := 124) (by decide)
          refine g_istore_4 hc dX13_condition_40 rfl ?_
          refine g_iload_n hc dX13_condition_42 rfl ?_
          refine g_if_ne (tgt := 51) hc dX13_condition_43 (by decide) (by first | exact hI _ _ | exact y_sg32 (by omega) hB | exact g_b32 | exact g_and32 | assumption | exact ⟨by omega, by omega⟩) (fun c3 => ?_) (fun c3 => ?_)
          · skip
            refine g_iconst hc dX13_condition_51 ?_
            refine g_goto (tgt := 56) hc dX13_condition_52 (by decide) ?_
            refine g_istore_3 hc dX13_condition_56 rfl ?_
            refine g_goto (tgt := 7) hc dX13_condition_57 (by decide) ?_
            refine G_sub (L' := [some (gvr w 703), some (gvI e), some (gvI r), some (gvI 1), none]) (show g_le _ _ from ⟨rfl, ⟨rfl, ⟨rfl, ⟨rfl, trivial⟩⟩⟩⟩) ?_
            refine ih_7 _ _ _ _ (t_put (-124) (t_trk (q_by M tx o) n k 0 (t_adv (t_sk (q_by M tx o) n s1)))) (m - 1) ?_ ?_ ?_ ?_ ?_
            · rw [y_j124 hb hzB, if_pos (by omega)] at hop; exact hop
            · omega
            · rw [hF, t_lq_s (by omega) (by show g_sgn _ _ _ = _; omega)]
            · intro z; subst z; have h9 := hyB.at; have h7 : g_pos (q_by M tx o) n s1.1 + 1 ≤ _ := h9.2.2.2; show 240 - ((m - 1 : Nat) : Int) ≤ (t_trk (q_by M tx o) n k 0 (t_adv (t_sk (q_by M tx o) n s1))).1; omega
            · omega
          · skip
            refine g_iload hc dX13_condition_46 rfl ?_
            refine g_if_eq (tgt := 55) hc dX13_condition_48 (by decide) (by first | exact hI _ _ | exact y_sg32 (by omega) hB | exact g_b32 | exact g_and32 | assumption | exact ⟨by omega, by omega⟩) (fun c4 => ?_) (fun c4 => ?_)
            · skip
              refine g_iconst hc dX13_condition_55 ?_
              refine g_istore_3 hc dX13_condition_56 rfl ?_
              refine g_goto (tgt := 7) hc dX13_condition_57 (by decide) ?_
              refine G_sub (L' := [some (gvr w 703), some (gvI e), some (gvI r), some (gvI 0), none]) (show g_le _ _ from ⟨rfl, ⟨rfl, ⟨rfl, ⟨rfl, trivial⟩⟩⟩⟩) ?_
              refine ih_7 _ _ _ _ (t_put (-124) (t_trk (q_by M tx o) n k 0 (t_adv (t_sk (q_by M tx o) n s1)))) (m - 1) ?_ ?_ ?_ ?_ ?_
              · rw [y_j124 hb hzB, if_neg (by omega)] at hop; exact hop
              · omega
              · rw [hF, t_lq_s (by omega) (by show g_sgn _ _ _ = _; omega)]
              · intro z; subst z; have h9 := hyB.at; have h7 : g_pos (q_by M tx o) n s1.1 + 1 ≤ _ := h9.2.2.2; show 240 - ((m - 1 : Nat) : Int) ≤ (t_trk (q_by M tx o) n k 0 (t_adv (t_sk (q_by M tx o) n s1))).1; omega
              · omega
            · skip
              refine g_iconst hc dX13_condition_51 ?_
              refine g_goto (tgt := 56) hc dX13_condition_52 (by decide) ?_
              refine g_istore_3 hc dX13_condition_56 rfl ?_
              refine g_goto (tgt := 7) hc dX13_condition_57 (by decide) ?_
              refine G_sub (L' := [some (gvr w 703), some (gvI e), some (gvI r), some (gvI 1), none]) (show g_le _ _ from ⟨rfl, ⟨rfl, ⟨rfl, ⟨rfl, trivial⟩⟩⟩⟩) ?_
              refine ih_7 _ _ _ _ (t_put (-124) (t_trk (q_by M tx o) n k 0 (t_adv (t_sk (q_by M tx o) n s1)))) (m - 1) ?_ ?_ ?_ ?_ ?_
              · rw [y_j124 hb hzB, if_pos (by omega)] at hop; exact hop
              · omega
              · rw [hF, t_lq_s (by omega) (by show g_sgn _ _ _ = _; omega)]
              · intro z; subst z; have h9 := hyB.at; have h7 : g_pos (q_by M tx o) n s1.1 + 1 ≤ _ := h9.2.2.2; show 240 - ((m - 1 : Nat) : Int) ≤ (t_trk (q_by M tx o) n k 0 (t_adv (t_sk (q_by M tx o) n s1))).1; omega
              · omega
  refine lp_7 241 _ _ _ _ (t_trk (q_by M tx o) n k e s) 240 ?_ ?_ ?_ ?_ (?_)
  · exact hy1.mono (by omega)
  · exact hz1
  · rfl
  · intro z; have h8 := hy1; rw [z] at h8; have := h8.at; have h9 : 0 ≤ s0.1 := by have := hl0; omega
    omega
  · decide
