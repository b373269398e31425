section YN
variable {B : Int → Int} {n v e i j : Int} {s : g_S}
theorem y_n0 (hs : s.1 ≤ n) (hq : s.2.1 = -1) (h : ¬ (g_pos B n s.1 < n ∧ 48 ≤ B (g_pos B n s.1) ∧ B (g_pos B n s.1) ≤ 57)) : (t_nm B n (t_sk B n s)).1 = n ∧ (t_nm B n (t_sk B n s)).2.1 = g_pos B n s.1 := by
  have e : g_numr B n (g_pos B n s.1) s.2.1 4 0 9999 = (0, n, g_pos B n s.1) := by
    unfold g_numr
    rw [g_pos_pos hs, if_neg h, hq]
    rfl
  unfold t_nm t_sk
  dsimp only
  rw [e]
  exact ⟨rfl, rfl⟩
theorem y_n1 (hs : s.1 ≤ n) (hq : s.2.1 = -1) (h : g_pos B n s.1 < n ∧ 48 ≤ B (g_pos B n s.1) ∧ B (g_pos B n s.1) ≤ 57) (hd : g_dg B n 4 (g_pos B n s.1) 0 = (v, e)) (h2 : ¬ (e < n ∧ 48 ≤ B e ∧ B e ≤ 57)) (hv : 0 ≤ v ∧ v ≤ 9999) : t_nm B n (t_sk B n s) = (e, -1, s.2.2) ∧ t_nv B n (t_sk B n s) = v := by
  have e9 : g_numr B n (g_pos B n s.1) s.2.1 4 0 9999 = (v, e, -1) := by
    rw [g_numr_d (v := v) (e := e) (by rw [g_pos_pos hs]; exact h) (by rw [g_pos_pos hs]; exact hd), if_neg h2, if_neg (by omega), hq]
  unfold t_nm t_nv t_sk
  dsimp only
  rw [e9]
  exact ⟨rfl, rfl⟩
theorem y_n2 (hs : s.1 ≤ n) (hq : s.2.1 = -1) (h : g_pos B n s.1 < n ∧ 48 ≤ B (g_pos B n s.1) ∧ B (g_pos B n s.1) ≤ 57) (hd : g_dg B n 4 (g_pos B n s.1) 0 = (v, e)) (h2 : e < n ∧ 48 ≤ B e ∧ B e ≤ 57) : (t_nm B n (t_sk B n s)).1 = n ∧ (t_nm B n (t_sk B n s)).2.1 = e := by
  have e9 : g_numr B n (g_pos B n s.1) s.2.1 4 0 9999 = (v, n, e) := by
    rw [g_numr_d (v := v) (e := e) (by rw [g_pos_pos hs]; exact h) (by rw [g_pos_pos hs]; exact hd), if_pos h2, hq]
    rfl
  unfold t_nm t_sk
  dsimp only
  rw [e9]
  exact ⟨rfl, rfl⟩
theorem y_dgs (hj : 0 ≤ j ∧ j < 4) (h : i < n ∧ 48 ≤ B i ∧ B i ≤ 57) : g_dg B n (4 - j).toNat i v = g_dg B n (4 - (j + 1)).toNat (i + 1) (10 * v + B i - 48) := by
  rw [show (4 - j).toNat = (4 - (j + 1)).toNat + 1 by omega, g_dg, if_pos h]
theorem y_dge {m : Nat} (h : ¬ (i < n ∧ 48 ≤ B i ∧ B i ≤ 57)) : g_dg B n m i v = (v, i) := by
  cases m with
  | zero => rfl
  | succ m => rw [g_dg, if_neg h]
theorem y_lt_in {c : Int} (h : 0 ≤ t_lt c) : (0 ≤ c ∧ c < 128) ∧ t_lt c < 8 := by
  have htx : ∀ j : Fin 8, g_tx 3 j.val < 128 := by decide +kernel
  unfold t_lt at h ⊢
  by_cases e : c < 0
  · rw [if_pos e] at h; omega
  · rw [if_neg e] at h ⊢
    rcases g_first_in (p := fun j => decide (g_tx 3 j = c)) 8 0 (by decide) with h1 | ⟨h1, h2, h3⟩
    · omega
    · have h4 := of_decide_eq_true h3
      have h5 := htx ⟨(g_first (fun j => decide (g_tx 3 j = c)) 8 0).toNat, by omega⟩
      dsimp only at h5
      rw [show (((g_first (fun j => decide (g_tx 3 j = c)) 8 0).toNat : Nat) : Int) = g_first (fun j => decide (g_tx 3 j = c)) 8 0 by omega, h4] at h5
      omega
theorem t_lt91 : t_lt 91 < 0 := by decide +kernel
end YN
set_option maxHeartbeats 4000000 in
set_option maxRecDepth 100000 in
/-- X13_atom -/
theorem y_atom0 (w : g_W) {J : g_J} {R : g_R} {lb tx ln : Nat} (hR : g_rf w R lb tx) {M : g_I} {o n : Int} {Lf : Int → Int} (he : y_env M tx ln o n Lf) {s : g_S} (hs : 0 ≤ s.1 ∧ s.1 ≤ n) (hq0 : s.2.1 = -1) (hl : (s.2.2.length : Int) ≤ s.1) : g_Met w g_n (y_M M s.1 (-1) (6 - ((0 : Nat) : Int))) J R yX13_atom cX13_atom 4 (some .int) (6 + 3 * 0) 0 0 [(gvr w 703)] (y_post w M J R n Lf (6 - ((0 : Nat) : Int)) (2 * 0 + 1) s (t_atk (q_by M tx o) n 0 s) false) := by
  refine g_intro (own := RX13) [some (gvr w 703), none, none, none] (by decide +kernel) rfl (by decide) (Nat.le_of_ble_eq_true rfl) rfl (fun i v hv => g_args 3 i v hv rfl) (fun x hc hm => ?_)
  obtain ⟨⟨he1, he2⟩, ⟨he3, he4, he5⟩, he6, hB, hI, hLt, hat, hx3⟩ := id he
  have hp := g_pos_in (B := (q_by M tx o)) (len := n) (a := s.1) hs.2
  refine g_aldn hc dX13_atom_0 rfl ?_
  refine g_V0r hc (c_X13_look w hR he (by omega) (by omega) (by omega)) my_X13_look mv_X13_look ca_703 rfl rfl lm_X13_144 rfl (by omega) (Nat.le_of_ble_eq_true rfl) hm dX13_atom_1 ?_
  refine g_istore_1 hc dX13_atom_4 rfl ?_
  refine g_ldcS (i := 3) (tx := "gjoydtbw") hc (by decide) dX13_atom_5 ?_
  refine g_iload_n hc dX13_atom_7 rfl ?_
  refine g_S2r hc (c_isAmong3 w (by first | exact hI _ _ | exact y_sg32 (by omega) hB | exact g_b32 | exact g_and32 | assumption | exact ⟨by omega, by omega⟩)) my_X13_isAmong ms_X13_isAmong lm_X13_160 rfl (by omega) (Nat.le_of_ble_eq_true rfl) hm dX13_atom_8 ?_
  refine g_ifb_eq (tgt := 31) hc dX13_atom_11 (by decide)  (fun c1 => ?_) (fun c1 => ?_)
  · skip
    have hnl := c1
    refine g_iload_n hc dX13_atom_31 rfl ?_
    refine g_bipush hc dX13_atom_32 (by decide +kernel) ?_
    refine g_icmp_ne (tgt := 74) hc dX13_atom_34 (by decide) (by first | exact hI _ _ | exact y_sg32 (by omega) hB | exact g_b32 | exact g_and32 | assumption | exact ⟨by omega, by omega⟩) (by first | exact hI _ _ | exact y_sg32 (by omega) hB | exact g_b32 | exact g_and32 | assumption | exact ⟨by omega, by omega⟩) (fun c2 => ?_) (fun c2 => ?_)
    · skip
      have h91 : ¬ t_sg (q_by M tx o) n s = 91 := c2
      refine g_aldn hc dX13_atom_74 rfl ?_
      refine g_V0r hc (c_X13_isDigit w hR he (by omega) (by omega) (by omega)) my_X13_isDigit mv_X13_isDigit ca_703 rfl rfl lm_X13_174 rfl (by omega) (Nat.le_of_ble_eq_true rfl) hm dX13_atom_75 ?_
      refine g_ifb_ne (tgt := 86) hc dX13_atom_78 (by decide)  (fun c3 => ?_) (fun c3 => ?_)
      · skip
        have hdg := c3
        refine g_iconst hc dX13_atom_86 ?_
        refine g_istore_2 hc dX13_atom_87 rfl ?_
        refine g_iconst hc dX13_atom_88 ?_
        refine g_istore_3 hc dX13_atom_89 rfl ?_
        have lp_90 : ∀ (fu : Nat) (v i j : Int), (0 ≤ i ∧ i ≤ n) → (0 ≤ j ∧ j ≤ 4) → g_pos (q_by M tx o) n s.1 + j ≤ i → (j = 0 → i = g_pos (q_by M tx o) n s.1) → g_dg (q_by M tx o) n 4 (g_pos (q_by M tx o) n s.1) 0 = g_dg (q_by M tx o) n (4 - j).toNat i v → 5 - j < (fu : Int) → G w x (y_post w M J R n Lf (6 - ((0 : Nat) : Int)) (2 * 0 + 1) s (t_atk (q_by M tx o) n 0 s) false) 0 0 g_n (y_M M i (-1) (6 - ((0 : Nat) : Int))) J R 90 [some (gvr w 703), some (gvI (g_sgn (q_by M tx o) n s.1)), some (gvI v), some (gvI j)] [] := by
          intro fu
          induction fu with
          | zero => intro v i j hi hj h5 h6 h7 hfu; exfalso; omega
          | succ fu ih =>
            intro v i j hi hj h5 h6 h7 hfu
            have ih_90 := ih
            refine g_aldn hc dX13_atom_90 rfl ?_
            refine g_V0r hc (c_X13_isDigit w hR he (by omega) (by omega) (by omega)) my_X13_isDigit mv_X13_isDigit ca_703 rfl rfl lm_X13_174 rfl (by omega) (Nat.le_of_ble_eq_true rfl) hm dX13_atom_91 ?_
            refine g_ifb_eq (tgt := 156) hc dX13_atom_94 (by decide)  (fun c4 => ?_) (fun c4 => ?_)
            · skip
              have hdn := c4
              refine g_iload_n hc dX13_atom_156 rfl ?_
              refine g_iret hc hm dX13_atom_157 ?_
              have hFn : t_atk (q_by M tx o) n 0 s = t_put (t_nv (q_by M tx o) n (t_sk (q_by M tx o) n s)) (t_nm (q_by M tx o) n (t_sk (q_by M tx o) n s)) := by
                show t_atom (q_by M tx o) n none s = _
                unfold t_atom
                rw [if_neg h91, if_pos (by have hlt9 : ¬ 0 ≤ t_lt (g_sgn (q_by M tx o) n s.1) := hnl; show t_lt (g_sgn _ _ _) < 0; omega)]
              have hgd := g_dg_in (B := (q_by M tx o)) (n := n) 4 (g_pos (q_by M tx o) n s.1) 0 hp.2 (by decide)
              rw [show ((0 : Int) + 1) * 10 ^ 4 = 10000 by decide] at hgd
              have hdd : g_dg (q_by M tx o) n 4 (g_pos (q_by M tx o) n s.1) 0 = (v, i) := by rw [h7, y_dge hdn]
              rw [hdd] at hgd
              dsimp only at hgd
              have hj1 : ¬ j = 0 := fun z => by rw [h6 z] at hdn; exact hdn hdg
              have hz := y_n1 (s := s) (B := (q_by M tx o)) (n := n) (v := v) (e := i) hs.2 hq0 hdg hdd hdn ⟨by omega, by omega⟩
              exact y_end (by rw [hFn, hz.1, hz.2]; exact y_res.leaf (s' := (i, -1, s.2.2)) hl ⟨by omega, by omega⟩ he6.2 ⟨by omega, by omega⟩ (by omega) rfl rfl rfl (by omega) (by rw [if_pos (by omega)]) ⟨by omega, by omega⟩ (by omega)) (fun z => absurd z (by decide))
            · skip
              have hdi := c4
              refine g_aldn hc dX13_atom_97 rfl ?_
              refine g_getIe hc lk_X13_134 ca_703 11 rfl (y_M_q) dX13_atom_98 ?_
              refine g_iconst hc dX13_atom_101 ?_
              refine g_icmp_ne (tgt := 156) hc dX13_atom_102 (by decide) (by first | exact hI _ _ | exact y_sg32 (by omega) hB | exact g_b32 | exact g_and32 | assumption | exact ⟨by omega, by omega⟩) (by first | exact hI _ _ | exact y_sg32 (by omega) hB | exact g_b32 | exact g_and32 | assumption | exact ⟨by omega, by omega⟩) (fun c5 => ?_) (fun c5 => ?_)
              · exfalso; omega
              · skip
                refine g_iload_n hc dX13_atom_105 rfl ?_
                refine g_iconst hc dX13_atom_106 ?_
                refine g_icmp_ne (tgt := 117) hc dX13_atom_107 (by decide) (by first | exact hI _ _ | exact y_sg32 (by omega) hB | exact g_b32 | exact g_and32 | assumption | exact ⟨by omega, by omega⟩) (by first | exact hI _ _ | exact y_sg32 (by omega) hB | exact g_b32 | exact g_and32 | assumption | exact ⟨by omega, by omega⟩) (fun c6 => ?_) (fun c6 => ?_)
                · skip
                  refine g_bipush hc dX13_atom_117 (by decide +kernel) ?_
                  refine g_iload_n hc dX13_atom_119 rfl ?_
                  refine g_imul hc dX13_atom_120 ?_
                  refine g_aldn hc dX13_atom_121 rfl ?_
                  refine g_getRvk hc lk_X13_23 ca_703 (rc_703_5 hR) dX13_atom_122 ?_
                  refine g_aldn hc dX13_atom_125 rfl ?_
                  refine g_getIe hc lk_X13_131 ca_703 8 rfl ((y_M_j (by decide)).trans he1) dX13_atom_126 ?_
                  refine g_aldn hc dX13_atom_129 rfl ?_
                  refine g_getIe hc lk_X13_125 ca_703 10 rfl (y_M_a) dX13_atom_130 ?_
                  refine g_iadd hc dX13_atom_133 ?_
                  refine g_balde hc hat (Nat.lt_of_le_of_lt he5 (by decide)) (by omega) (by omega) (congrFun (y_M_k hx3) _) dX13_atom_134 ?_
                  refine g_iadd hc dX13_atom_135 ?_
                  refine g_bipush hc dX13_atom_136 (by decide +kernel) ?_
                  refine g_isub hc dX13_atom_138 ?_
                  refine g_istore_2 hc dX13_atom_139 rfl ?_
                  have hbi : q_by M tx o i = M tx (o + i) := by have h1 := y_bb (o := o) (j := i) hB; have h2 := hB (o + i); rw [h1] at hdi; rw [h1]; by_cases z : M tx (o + i) < 0; (rw [if_pos z] at hdi; exfalso; omega); (rw [if_neg z])
                  refine g_aldn hc dX13_atom_140 rfl ?_
                  refine g_dup hc dX13_atom_141 rfl ?_
                  refine g_getIe hc lk_X13_125 ca_703 10 rfl (y_M_a) dX13_atom_142 ?_
                  refine g_iconst hc dX13_atom_145 ?_
                  refine g_iadd hc dX13_atom_146 ?_
                  refine g_putIe (I2 := (y_M M (i + 1) (-1) (6 - ((0 : Nat) : Int)))) hc lk_X13_125 ca_703 10 rfl y_M_pa dX13_atom_147 ?_
                  refine g_iinc_3 hc dX13_atom_150 rfl ?_
                  refine g_goto (tgt := 90) hc dX13_atom_153 (by decide) ?_
                  refine ih_90 _ _ _ ?_ ?_ ?_ ?_ ?_ ?_
                  · omega
                  · omega
                  · omega
                  · omega
                  · rw [h7, y_dgs (by omega) hdi, hbi]
                  · omega
                · skip
                  refine g_aldn hc dX13_atom_110 rfl ?_
                  refine g_V0r hc (c_X13_fails w hR he (by omega) (by omega) (by omega)) my_X13_fails mv_X13_fails ca_703 rfl rfl lm_X13_140 rfl (by omega) (Nat.le_of_ble_eq_true rfl) hm dX13_atom_111 ?_
                  refine g_pop hc dX13_atom_114 rfl ?_
                  refine g_iconst hc dX13_atom_115 ?_
                  refine g_iret hc hm dX13_atom_116 ?_
                  have hFn : t_atk (q_by M tx o) n 0 s = t_put (t_nv (q_by M tx o) n (t_sk (q_by M tx o) n s)) (t_nm (q_by M tx o) n (t_sk (q_by M tx o) n s)) := by
                    show t_atom (q_by M tx o) n none s = _
                    unfold t_atom
                    rw [if_neg h91, if_pos (by have hlt9 : ¬ 0 ≤ t_lt (g_sgn (q_by M tx o) n s.1) := hnl; show t_lt (g_sgn _ _ _) < 0; omega)]
                  have hz := y_n2 (s := s) (B := (q_by M tx o)) (n := n) (v := v) (e := i) hs.2 hq0 hdg (by rw [h7, show (4 - j).toNat = 0 by omega]; rfl) hdi
                  rw [show g_q1 (-1) i = i from if_pos rfl]
                  exact y_end (by rw [hFn]; exact y_res.fault ⟨by omega, by omega⟩ ⟨by omega, by omega⟩ he6.2 hz.1 hz.2 ⟨by decide, by decide⟩) (fun z => absurd z (by decide))
        refine lp_90 6 _ _ _ ?_ ?_ ?_ ?_ ?_ (?_)
        · omega
        · omega
        · omega
        · intro z; rfl
        · rfl
        · omega
      · skip
        have hnd := c3
        refine g_aldn hc dX13_atom_81 rfl ?_
        refine g_V0r hc (c_X13_fails w hR he (by omega) (by omega) (by omega)) my_X13_fails mv_X13_fails ca_703 rfl rfl lm_X13_140 rfl (by omega) (Nat.le_of_ble_eq_true rfl) hm dX13_atom_82 ?_
        rw [show g_q1 (-1) (g_pos (q_by M tx o) n s.1) = g_pos (q_by M tx o) n s.1 from if_pos rfl]
        refine g_pop hc dX13_atom_85 rfl ?_
        refine g_iconst hc dX13_atom_86 ?_
        refine g_istore_2 hc dX13_atom_87 rfl ?_
        refine g_iconst hc dX13_atom_88 ?_
        refine g_istore_3 hc dX13_atom_89 rfl ?_
        refine g_aldn hc dX13_atom_90 rfl ?_
        refine g_V0r hc (c_X13_isDigit w hR he (by omega) (by omega) (by omega)) my_X13_isDigit mv_X13_isDigit ca_703 rfl rfl lm_X13_174 rfl (by omega) (Nat.le_of_ble_eq_true rfl) hm dX13_atom_91 ?_
        refine g_ifb_eq (tgt := 156) hc dX13_atom_94 (by decide)  (fun c7 => ?_) (fun c7 => ?_)
        · skip
          have hdn := c7
          refine g_iload_n hc dX13_atom_156 rfl ?_
          refine g_iret hc hm dX13_atom_157 ?_
          have hFn : t_atk (q_by M tx o) n 0 s = t_put (t_nv (q_by M tx o) n (t_sk (q_by M tx o) n s)) (t_nm (q_by M tx o) n (t_sk (q_by M tx o) n s)) := by
            show t_atom (q_by M tx o) n none s = _
            unfold t_atom
            rw [if_neg h91, if_pos (by have hlt9 : ¬ 0 ≤ t_lt (g_sgn (q_by M tx o) n s.1) := hnl; show t_lt (g_sgn _ _ _) < 0; omega)]
          have hz := y_n0 (s := s) (B := (q_by M tx o)) (n := n) hs.2 hq0 hnd
          exact y_end (by rw [hFn]; exact y_res.fault ⟨by omega, hp.2⟩ ⟨by omega, by omega⟩ he6.2 hz.1 hz.2 ⟨by decide, by decide⟩) (fun z => absurd z (by decide))
        · exact absurd c7 hnd
    · skip
      have h91 : t_sg (q_by M tx o) n s = 91 := c2
      have hlt := y_sgp (B := (q_by M tx o)) (n := n) (a := s.1) (by omega)
      refine g_aldn hc dX13_atom_37 rfl ?_
      refine g_V0r hc (c_X13_goesIn w hR he (by omega) (by omega) (by omega)) my_X13_goesIn mv_X13_goesIn ca_703 rfl rfl lm_X13_164 rfl (by omega) (Nat.le_of_ble_eq_true rfl) hm dX13_atom_38 ?_
      refine g_ifb_ne (tgt := 46) hc dX13_atom_41 (by decide)  (fun c8 => ?_) (fun c8 => ?_)
      · exfalso; omega
      · skip
        rw [if_pos (by omega), if_pos (by omega), if_pos (by omega), show g_q1 (-1) (g_pos (q_by M tx o) n s.1) = g_pos (q_by M tx o) n s.1 from if_pos rfl]
        refine g_iconst hc dX13_atom_44 ?_
        refine g_iret hc hm dX13_atom_45 ?_
        have hFa : t_atk (q_by M tx o) n 0 s = t_fl (q_by M tx o) n (t_sk (q_by M tx o) n s) := by
          show t_atom (q_by M tx o) n none s = _
          unfold t_atom
          rw [if_pos h91]
        exact y_end (by rw [hFa]; exact y_res.fault ⟨by omega, hp.2⟩ ⟨by omega, by omega⟩ he6.2 rfl (by show g_q1 s.2.1 (g_pos _ _ (g_pos _ _ _)) = _; rw [hq0, g_pos_pos hs.2]; rfl) ⟨by decide, by decide⟩) (fun z => absurd z (by decide))
  · skip
    refine g_aldn hc dX13_atom_14 rfl ?_
    refine g_dup hc dX13_atom_15 rfl ?_
    refine g_getIe hc lk_X13_125 ca_703 10 rfl (y_M_a) dX13_atom_16 ?_
    refine g_iconst hc dX13_atom_19 ?_
    refine g_iadd hc dX13_atom_20 ?_
    refine g_putIe (I2 := (y_M M ((g_pos (q_by M tx o) n s.1) + 1) (-1) (6 - ((0 : Nat) : Int)))) hc lk_X13_125 ca_703 10 rfl y_M_pa dX13_atom_21 ?_
    have hlt0 : 0 ≤ t_lt (g_sgn (q_by M tx o) n s.1) := c1
    have hti0 := y_lt_in hlt0
    have hlt := y_sgp (B := (q_by M tx o)) (n := n) (a := s.1) (by omega)
    have hL32 : g32 (Lf (t_lt (g_sgn (q_by M tx o) n s.1))) := by rw [← hLt _ hlt0]; exact hI _ _
    refine g_aldn hc dX13_atom_24 rfl ?_
    refine g_getRk hc lk_X13_20 ca_703 (rc_703_4 hR) dX13_atom_25 ?_
    refine g_iload_n hc dX13_atom_28 rfl ?_
    refine g_ialde hc ca_707 (by decide) (by omega) (by omega) ((congrFun (y_M_k (by decide)) _).trans (hLt _ hlt0)) dX13_atom_29 ?_
    refine g_iret hc hm dX13_atom_30 ?_
    have hti := y_lt_in hlt0
    have hF9 : t_atk (q_by M tx o) n 0 s = t_put (10000 + t_lt (g_sgn (q_by M tx o) n s.1)) (t_adv (t_sk (q_by M tx o) n s)) := by
      show t_atom (q_by M tx o) n none s = _
      unfold t_atom
      rw [if_neg (fun z => by have z9 : g_sgn (q_by M tx o) n s.1 = 91 := z; rw [z9] at hlt0; have := t_lt91; omega), if_neg (by show ¬ t_lt (g_sgn _ _ _) < 0; omega)]; rfl
    exact y_end (by rw [hF9]; exact y_res.leaf hl ⟨by omega, by omega⟩ he6.2 ⟨by omega, by omega⟩ (by omega) rfl hq0 rfl (by omega) (by rw [if_neg (by omega)]; congr 1; omega) hL32 (by omega)) (fun z => absurd z (by decide))
set_option maxHeartbeats 4000000 in
set_option maxRecDepth 100000 in
/-- X13_atom -/
theorem y_atomS (w : g_W) {J : g_J} {R : g_R} {lb tx ln : Nat} (hR : g_rf w R lb tx) {M : g_I} {o n : Int} {Lf : Int → Int} (he : y_env M tx ln o n Lf) {k : Nat} (hk : k < 6) (hS : y_Csum w k) {s : g_S} (hs : 0 ≤ s.1 ∧ s.1 ≤ n) (hq0 : s.2.1 = -1) (hl : (s.2.2.length : Int) ≤ s.1) : g_Met w g_n (y_M M s.1 (-1) (6 - ((k + 1 : Nat) : Int))) J R yX13_atom cX13_atom 4 (some .int) (6 + 3 * (k + 1)) 0 0 [(gvr w 703)] (y_post w M J R n Lf (6 - ((k + 1 : Nat) : Int)) (2 * (k + 1) + 1) s (t_atk (q_by M tx o) n (k + 1) s) false) := by
  refine g_intro (own := RX13) [some (gvr w 703), none, none, none] (by decide +kernel) rfl (by decide) (Nat.le_of_ble_eq_true rfl) rfl (fun i v hv => g_args 3 i v hv rfl) (fun x hc hm => ?_)
  obtain ⟨⟨he1, he2⟩, ⟨he3, he4, he5⟩, he6, hB, hI, hLt, hat, hx3⟩ := id he
  have hp := g_pos_in (B := (q_by M tx o)) (len := n) (a := s.1) hs.2
  refine g_aldn hc dX13_atom_0 rfl ?_
  refine g_V0r hc (c_X13_look w hR he (by omega) (by omega) (by omega)) my_X13_look mv_X13_look ca_703 rfl rfl lm_X13_144 rfl (by omega) (Nat.le_of_ble_eq_true rfl) hm dX13_atom_1 ?_
  refine g_istore_1 hc dX13_atom_4 rfl ?_
  refine g_ldcS (i := 3) (tx := "gjoydtbw") hc (by decide) dX13_atom_5 ?_
  refine g_iload_n hc dX13_atom_7 rfl ?_
  refine g_S2r hc (c_isAmong3 w (by first | exact hI _ _ | exact y_sg32 (by omega) hB | exact g_b32 | exact g_and32 | assumption | exact ⟨by omega, by omega⟩)) my_X13_isAmong ms_X13_isAmong lm_X13_160 rfl (by omega) (Nat.le_of_ble_eq_true rfl) hm dX13_atom_8 ?_
  refine g_ifb_eq (tgt := 31) hc dX13_atom_11 (by decide)  (fun c1 => ?_) (fun c1 => ?_)
  · skip
    have hnl := c1
    refine g_iload_n hc dX13_atom_31 rfl ?_
    refine g_bipush hc dX13_atom_32 (by decide +kernel) ?_
    refine g_icmp_ne (tgt := 74) hc dX13_atom_34 (by decide) (by first | exact hI _ _ | exact y_sg32 (by omega) hB | exact g_b32 | exact g_and32 | assumption | exact ⟨by omega, by omega⟩) (by first | exact hI _ _ | exact y_sg32 (by omega) hB | exact g_b32 | exact g_and32 | assumption | exact ⟨by omega, by omega⟩) (fun c2 => ?_) (fun c2 => ?_)
    · skip
      have h91 : ¬ t_sg (q_by M tx o) n s = 91 := c2
      refine g_aldn hc dX13_atom_74 rfl ?_
      refine g_V0r hc (c_X13_isDigit w hR he (by omega) (by omega) (by omega)) my_X13_isDigit mv_X13_isDigit ca_703 rfl rfl lm_X13_174 rfl (by omega) (Nat.le_of_ble_eq_true rfl) hm dX13_atom_75 ?_
      refine g_ifb_ne (tgt := 86) hc dX13_atom_78 (by decide)  (fun c3 => ?_) (fun c3 => ?_)
      · skip
        have hdg := c3
        refine g_iconst hc dX13_atom_86 ?_
        refine g_istore_2 hc dX13_atom_87 rfl ?_
        refine g_iconst hc dX13_atom_88 ?_
        refine g_istore_3 hc dX13_atom_89 rfl ?_
        have lp_90 : ∀ (fu : Nat) (v i j : Int), (0 ≤ i ∧ i ≤ n) → (0 ≤ j ∧ j ≤ 4) → g_pos (q_by M tx o) n s.1 + j ≤ i → (j = 0 → i = g_pos (q_by M tx o) n s.1) → g_dg (q_by M tx o) n 4 (g_pos (q_by M tx o) n s.1) 0 = g_dg (q_by M tx o) n (4 - j).toNat i v → 5 - j < (fu : Int) → G w x (y_post w M J R n Lf (6 - ((k + 1 : Nat) : Int)) (2 * (k + 1) + 1) s (t_atk (q_by M tx o) n (k + 1) s) false) 0 0 g_n (y_M M i (-1) (6 - ((k + 1 : Nat) : Int))) J R 90 [some (gvr w 703), some (gvI (g_sgn (q_by M tx o) n s.1)), some (gvI v), some (gvI j)] [] := by
          intro fu
          induction fu with
          | zero => intro v i j hi hj h5 h6 h7 hfu; exfalso; omega
          | succ fu ih =>
            intro v i j hi hj h5 h6 h7 hfu
            have ih_90 := ih
            refine g_aldn hc dX13_atom_90 rfl ?_
            refine g_V0r hc (c_X13_isDigit w hR he (by omega) (by omega) (by omega)) my_X13_isDigit mv_X13_isDigit ca_703 rfl rfl lm_X13_174 rfl (by omega) (Nat.le_of_ble_eq_true rfl) hm dX13_atom_91 ?_
            refine g_ifb_eq (tgt := 156) hc dX13_atom_94 (by decide)  (fun c4 => ?_) (fun c4 => ?_)
            · skip
              have hdn := c4
              refine g_iload_n hc dX13_atom_156 rfl ?_
              refine g_iret hc hm dX13_atom_157 ?_
              have hFn : t_atk (q_by M tx o) n (k + 1) s = t_put (t_nv (q_by M tx o) n (t_sk (q_by M tx o) n s)) (t_nm (q_by M tx o) n (t_sk (q_by M tx o) n s)) := by
                show t_atom (q_by M tx o) n (some (t_suk (q_by M tx o) n k)) s = _
                unfold t_atom
                rw [if_neg h91, if_pos (by have hlt9 : ¬ 0 ≤ t_lt (g_sgn (q_by M tx o) n s.1) := hnl; show t_lt (g_sgn _ _ _) < 0; omega)]
              have hgd := g_dg_in (B := (q_by M tx o)) (n := n) 4 (g_pos (q_by M tx o) n s.1) 0 hp.2 (by decide)
              rw [show ((0 : Int) + 1) * 10 ^ 4 = 10000 by decide] at hgd
              have hdd : g_dg (q_by M tx o) n 4 (g_pos (q_by M tx o) n s.1) 0 = (v, i) := by rw [h7, y_dge hdn]
              rw [hdd] at hgd
              dsimp only at hgd
              have hj1 : ¬ j = 0 := fun z => by rw [h6 z] at hdn; exact hdn hdg
              have hz := y_n1 (s := s) (B := (q_by M tx o)) (n := n) (v := v) (e := i) hs.2 hq0 hdg hdd hdn ⟨by omega, by omega⟩
              exact y_end (by rw [hFn, hz.1, hz.2]; exact y_res.leaf (s' := (i, -1, s.2.2)) hl ⟨by omega, by omega⟩ he6.2 ⟨by omega, by omega⟩ (by omega) rfl rfl rfl (by omega) (by rw [if_pos (by omega)]) ⟨by omega, by omega⟩ (by omega)) (fun z => absurd z (by decide))
            · skip
              have hdi := c4
              refine g_aldn hc dX13_atom_97 rfl ?_
              refine g_getIe hc lk_X13_134 ca_703 11 rfl (y_M_q) dX13_atom_98 ?_
              refine g_iconst hc dX13_atom_101 ?_
              refine g_icmp_ne (tgt := 156) hc dX13_atom_102 (by decide) (by first | exact hI _ _ | exact y_sg32 (by omega) hB | exact g_b32 | exact g_and32 | assumption | exact ⟨by omega, by omega⟩) (by first | exact hI _ _ | exact y_sg32 (by omega) hB | exact g_b32 | exact g_and32 | assumption | exact ⟨by omega, by omega⟩) (fun c5 => ?_) (fun c5 => ?_)
              · exfalso; omega
              · skip
                refine g_iload_n hc dX13_atom_105 rfl ?_
                refine g_iconst hc dX13_atom_106 ?_
                refine g_icmp_ne (tgt := 117) hc dX13_atom_107 (by decide) (by first | exact hI _ _ | exact y_sg32 (by omega) hB | exact g_b32 | exact g_and32 | assumption | exact ⟨by omega, by omega⟩) (by first | exact hI _ _ | exact y_sg32 (by omega) hB | exact g_b32 | exact g_and32 | assumption | exact ⟨by omega, by omega⟩) (fun c6 => ?_) (fun c6 => ?_)
                · skip
                  refine g_bipush hc dX13_atom_117 (by decide +kernel) ?_
                  refine g_iload_n hc dX13_atom_119 rfl ?_
                  refine g_imul hc dX13_atom_120 ?_
                  refine g_aldn hc dX13_atom_121 rfl ?_
                  refine g_getRvk hc lk_X13_23 ca_703 (rc_703_5 hR) dX13_atom_122 ?_
                  refine g_aldn hc dX13_atom_125 rfl ?_
                  refine g_getIe hc lk_X13_131 ca_703 8 rfl ((y_M_j (by decide)).trans he1) dX13_atom_126 ?_
                  refine g_aldn hc dX13_atom_129 rfl ?_
                  refine g_getIe hc lk_X13_125 ca_703 10 rfl (y_M_a) dX13_atom_130 ?_
                  refine g_iadd hc dX13_atom_133 ?_
                  refine g_balde hc hat (Nat.lt_of_le_of_lt he5 (by decide)) (by omega) (by omega) (congrFun (y_M_k hx3) _) dX13_atom_134 ?_
                  refine g_iadd hc dX13_atom_135 ?_
                  refine g_bipush hc dX13_atom_136 (by decide +kernel) ?_
                  refine g_isub hc dX13_atom_138 ?_
                  refine g_istore_2 hc dX13_atom_139 rfl ?_
                  have hbi : q_by M tx o i = M tx (o + i) := by have h1 := y_bb (o := o) (j := i) hB; have h2 := hB (o + i); rw [h1] at hdi; rw [h1]; by_cases z : M tx (o + i) < 0; (rw [if_pos z] at hdi; exfalso; omega); (rw [if_neg z])
                  refine g_aldn hc dX13_atom_140 rfl ?_
                  refine g_dup hc dX13_atom_141 rfl ?_
                  refine g_getIe hc lk_X13_125 ca_703 10 rfl (y_M_a) dX13_atom_142 ?_
                  refine g_iconst hc dX13_atom_145 ?_
                  refine g_iadd hc dX13_atom_146 ?_
                  refine g_putIe (I2 := (y_M M (i + 1) (-1) (6 - ((k + 1 : Nat) : Int)))) hc lk_X13_125 ca_703 10 rfl y_M_pa dX13_atom_147 ?_
                  refine g_iinc_3 hc dX13_atom_150 rfl ?_
                  refine g_goto (tgt := 90) hc dX13_atom_153 (by decide) ?_
                  refine ih_90 _ _ _ ?_ ?_ ?_ ?_ ?_ ?_
                  · omega
                  · omega
                  · omega
                  · omega
                  · rw [h7, y_dgs (by omega) hdi, hbi]
                  · omega
                · skip
                  refine g_aldn hc dX13_atom_110 rfl ?_
                  refine g_V0r hc (c_X13_fails w hR he (by omega) (by omega) (by omega)) my_X13_fails mv_X13_fails ca_703 rfl rfl lm_X13_140 rfl (by omega) (Nat.le_of_ble_eq_true rfl) hm dX13_atom_111 ?_
                  refine g_pop hc dX13_atom_114 rfl ?_
                  refine g_iconst hc dX13_atom_115 ?_
                  refine g_iret hc hm dX13_atom_116 ?_
                  have hFn : t_atk (q_by M tx o) n (k + 1) s = t_put (t_nv (q_by M tx o) n (t_sk (q_by M tx o) n s)) (t_nm (q_by M tx o) n (t_sk (q_by M tx o) n s)) := by
                    show t_atom (q_by M tx o) n (some (t_suk (q_by M tx o) n k)) s = _
                    unfold t_atom
                    rw [if_neg h91, if_pos (by have hlt9 : ¬ 0 ≤ t_lt (g_sgn (q_by M tx o) n s.1) := hnl; show t_lt (g_sgn _ _ _) < 0; omega)]
                  have hz := y_n2 (s := s) (B := (q_by M tx o)) (n := n) (v := v) (e := i) hs.2 hq0 hdg (by rw [h7, show (4 - j).toNat = 0 by omega]; rfl) hdi
                  rw [show g_q1 (-1) i = i from if_pos rfl]
                  exact y_end (by rw [hFn]; exact y_res.fault ⟨by omega, by omega⟩ ⟨by omega, by omega⟩ he6.2 hz.1 hz.2 ⟨by decide, by decide⟩) (fun z => absurd z (by decide))
        refine lp_90 6 _ _ _ ?_ ?_ ?_ ?_ ?_ (?_)
        · omega
        · omega
        · omega
        · intro z; rfl
        · rfl
        · omega
      · skip
        have hnd := c3
        refine g_aldn hc dX13_atom_81 rfl ?_
        refine g_V0r hc (c_X13_fails w hR he (by omega) (by omega) (by omega)) my_X13_fails mv_X13_fails ca_703 rfl rfl lm_X13_140 rfl (by omega) (Nat.le_of_ble_eq_true rfl) hm dX13_atom_82 ?_
        rw [show g_q1 (-1) (g_pos (q_by M tx o) n s.1) = g_pos (q_by M tx o) n s.1 from if_pos rfl]
        refine g_pop hc dX13_atom_85 rfl ?_
        refine g_iconst hc dX13_atom_86 ?_
        refine g_istore_2 hc dX13_atom_87 rfl ?_
        refine g_iconst hc dX13_atom_88 ?_
        refine g_istore_3 hc dX13_atom_89 rfl ?_
        refine g_aldn hc dX13_atom_90 rfl ?_
        refine g_V0r hc (c_X13_isDigit w hR he (by omega) (by omega) (by omega)) my_X13_isDigit mv_X13_isDigit ca_703 rfl rfl lm_X13_174 rfl (by omega) (Nat.le_of_ble_eq_true rfl) hm dX13_atom_91 ?_
        refine g_ifb_eq (tgt := 156) hc dX13_atom_94 (by decide)  (fun c7 => ?_) (fun c7 => ?_)
        · skip
          have hdn := c7
          refine g_iload_n hc dX13_atom_156 rfl ?_
          refine g_iret hc hm dX13_atom_157 ?_
          have hFn : t_atk (q_by M tx o) n (k + 1) s = t_put (t_nv (q_by M tx o) n (t_sk (q_by M tx o) n s)) (t_nm (q_by M tx o) n (t_sk (q_by M tx o) n s)) := by
            show t_atom (q_by M tx o) n (some (t_suk (q_by M tx o) n k)) s = _
            unfold t_atom
            rw [if_neg h91, if_pos (by have hlt9 : ¬ 0 ≤ t_lt (g_sgn (q_by M tx o) n s.1) := hnl; show t_lt (g_sgn _ _ _) < 0; omega)]
          have hz := y_n0 (s := s) (B := (q_by M tx o)) (n := n) hs.2 hq0 hnd
          exact y_end (by rw [hFn]; exact y_res.fault ⟨by omega, hp.2⟩ ⟨by omega, by omega⟩ he6.2 hz.1 hz.2 ⟨by decide, by decide⟩) (fun z => absurd z (by decide))
        · exact absurd c7 hnd
    · skip
      have h91 : t_sg (q_by M tx o) n s = 91 := c2
      have hlt := y_sgp (B := (q_by M tx o)) (n := n) (a := s.1) (by omega)
      refine g_aldn hc dX13_atom_37 rfl ?_
      refine g_V0r hc (c_X13_goesIn w hR he (by omega) (by omega) (by omega)) my_X13_goesIn mv_X13_goesIn ca_703 rfl rfl lm_X13_164 rfl (by omega) (Nat.le_of_ble_eq_true rfl) hm dX13_atom_38 ?_
      refine g_ifb_ne (tgt := 46) hc dX13_atom_41 (by decide)  (fun c8 => ?_) (fun c8 => ?_)
      · skip
        rw [if_neg (by omega), if_neg (by omega), if_neg (by omega), show (6 - ((k + 1 : Nat) : Int)) + 1 = 6 - (k : Int) by omega]
        refine g_aldn hc dX13_atom_46 rfl ?_
        refine g_V0 hc ((hS hR he (s := t_adv (t_sk (q_by M tx o) n s)) ⟨by show 0 ≤ g_pos (q_by M tx o) n s.1 + 1; omega, by show g_pos (q_by M tx o) n s.1 + 1 ≤ n; omega⟩ (show s.2.1 = -1 from hq0) (by show (s.2.2.length : Int) ≤ g_pos (q_by M tx o) n s.1 + 1; omega))) my_X13_sum mv_X13_sum ca_703 rfl rfl lm_X13_167 rfl (by omega) (Nat.le_of_ble_eq_true rfl) hm dX13_atom_47 (fun rY1 nY1 IY1 JY1 RY1 hpY1 => ?_)
        obtain ⟨rfl, rfl, rfl, v1, a1, q1, d1, rfl, rfl, hy1, hb1⟩ := hpY1
        have hv1 : g32 v1 := hy1.1
        have ha1 : 0 ≤ a1 ∧ a1 ≤ n := hy1.2.1
        have hd1 := hy1.2.2.1
        have hq1 : -1 ≤ q1 ∧ q1 ≤ 240 := hy1.2.2.2.1
        refine g_istore_2 hc dX13_atom_50 rfl ?_
        refine g_aldn hc dX13_atom_51 rfl ?_
        refine g_bipush hc dX13_atom_52 (by decide +kernel) ?_
        refine g_V1r hc (c_X13_takes w hR he (by omega) (by omega) (by omega) (by exact ⟨by decide, by decide⟩)) my_X13_takes mv_X13_takes ca_703 rfl rfl lm_X13_170 rfl (by omega) (Nat.le_of_ble_eq_true rfl) hm dX13_atom_54 ?_
        refine g_ifb_ne (tgt := 62) hc dX13_atom_57 (by decide)  (fun c9 => ?_) (fun c9 => ?_)
        · skip
          obtain ⟨hq9, hs9⟩ : q1 = -1 ∧ g_sgn (q_by M tx o) n a1 = 93 := c9
          rw [if_pos hq9, if_pos hq9, if_pos hs9, if_pos hs9]
          subst hq9
          refine g_aldn hc dX13_atom_62 rfl ?_
          refine g_dup hc dX13_atom_63 rfl ?_
          refine g_getIe hc lk_X13_137 ca_703 12 rfl (y_M_d) dX13_atom_64 ?_
          refine g_iconst hc dX13_atom_67 ?_
          refine g_isub hc dX13_atom_68 ?_
          refine g_putIe (I2 := (y_M M (g_pos (q_by M tx o) n a1 + 1) (-1) (d1 - 1))) hc lk_X13_137 ca_703 12 rfl y_M_pd dX13_atom_69 ?_
          refine g_iload_n hc dX13_atom_72 rfl ?_
          refine g_iret hc hm dX13_atom_73 ?_
          have hFa : t_atk (q_by M tx o) n (k + 1) s = t_wn (q_by M tx o) n 93 (t_suk (q_by M tx o) n k (t_adv (t_sk (q_by M tx o) n s))) := by
            show t_atom (q_by M tx o) n (some (t_suk (q_by M tx o) n k)) s = _
            unfold t_atom
            rw [if_pos h91]
          have hw := hy1.wnT (s0 := s) hs9 (by decide) rfl (by show s.1 ≤ g_pos (q_by M tx o) n s.1 + 1; omega)
          rw [show 6 - (k : Int) - 1 = (6 - ((k + 1 : Nat) : Int)) by omega] at hw
          exact y_end (by rw [hFa]; exact hw.mono (by omega)) (fun z => absurd z (by decide))
        · skip
          refine g_iconst hc dX13_atom_60 ?_
          refine g_iret hc hm dX13_atom_61 ?_
          have hFa : t_atk (q_by M tx o) n (k + 1) s = t_wn (q_by M tx o) n 93 (t_suk (q_by M tx o) n k (t_adv (t_sk (q_by M tx o) n s))) := by
            show t_atom (q_by M tx o) n (some (t_suk (q_by M tx o) n k)) s = _
            unfold t_atom
            rw [if_pos h91]
          exact y_end (by rw [hFa]; exact hy1.wnF he6.2 (by assumption) (by decide) (by omega)) (fun z => absurd z (by decide))
      · exfalso; omega
  · skip
    refine g_aldn hc dX13_atom_14 rfl ?_
    refine g_dup hc dX13_atom_15 rfl ?_
    refine g_getIe hc lk_X13_125 ca_703 10 rfl (y_M_a) dX13_atom_16 ?_
    refine g_iconst hc dX13_atom_19 ?_
    refine g_iadd hc dX13_atom_20 ?_
    refine g_putIe (I2 := (y_M M ((g_pos (q_by M tx o) n s.1) + 1) (-1) (6 - ((k + 1 : Nat) : Int)))) hc lk_X13_125 ca_703 10 rfl y_M_pa dX13_atom_21 ?_
    have hlt0 : 0 ≤ t_lt (g_sgn (q_by M tx o) n s.1) := c1
    have hti0 := y_lt_in hlt0
    have hlt := y_sgp (B := (q_by M tx o)) (n := n) (a := s.1) (by omega)
    have hL32 : g32 (Lf (t_lt (g_sgn (q_by M tx o) n s.1))) := by rw [← hLt _ hlt0]; exact hI _ _
    refine g_aldn hc dX13_atom_24 rfl ?_
    refine g_getRk hc lk_X13_20 ca_703 (rc_703_4 hR) dX13_atom_25 ?_
    refine g_iload_n hc dX13_atom_28 rfl ?_
    refine g_ialde hc ca_707 (by decide) (by omega) (by omega) ((congrFun (y_M_k (by decide)) _).trans (hLt _ hlt0)) dX13_atom_29 ?_
    refine g_iret hc hm dX13_atom_30 ?_
    have hti := y_lt_in hlt0
    have hF9 : t_atk (q_by M tx o) n (k + 1) s = t_put (10000 + t_lt (g_sgn (q_by M tx o) n s.1)) (t_adv (t_sk (q_by M tx o) n s)) := by
      show t_atom (q_by M tx o) n (some (t_suk (q_by M tx o) n k)) s = _
      unfold t_atom
      rw [if_neg (fun z => by have z9 : g_sgn (q_by M tx o) n s.1 = 91 := z; rw [z9] at hlt0; have := t_lt91; omega), if_neg (by show ¬ t_lt (g_sgn _ _ _) < 0; omega)]; rfl
    exact y_end (by rw [hF9]; exact y_res.leaf hl ⟨by omega, by omega⟩ he6.2 ⟨by omega, by omega⟩ (by omega) rfl hq0 rfl (by omega) (by rw [if_neg (by omega)]; congr 1; omega) hL32 (by omega)) (fun z => absurd z (by decide))
