set_option maxHeartbeats 4000000 in
set_option maxRecDepth 100000 in
/-- X13_remember -/
theorem c_X13_remember (w : g_W) {I : g_I} {J : g_J} {R : g_R} {lb tx : Nat} (hR : g_rf w R lb tx) {M : g_I} (hmM : q_rel I lb M) {A : Int} (hA : M 703 32 = A) (hA1 : 0 ≤ A ∧ A ≤ 40) (hz3 : q_01 M 713) (hz7 : q_01 M 717) : g_Met w g_n M J R yX13_remember cX13_remember 3 none 0 0 0 [(gvr w 703)] (fun rr nn II JJ RR => x_rel w none x_b4 M J lb rr nn II JJ RR ∧ ∃ a s : Int, (0 ≤ a ∧ a ≤ 39) ∧ (s = 0 ∨ s = 1) ∧ (s = 1 ↔ A = 40) ∧ a = A - s ∧ II 703 32 = a + 1 ∧ (∀ t : Int, 0 ≤ t → t < 72 * a → II 717 t = M 717 (t + 72 * s)) ∧ (∀ t : Int, 0 ≤ t → t < 72 → II 717 (72 * a + t) = M 713 t) ∧ (∀ t : Int, 0 ≤ t → t < 4 * a → II 718 t = M 718 (t + 4 * s)) ∧ (∀ t : Int, 0 ≤ t → t < 4 → II 718 (4 * a + t) = I 550 t) ∧ q_01 II 717) := by
  refine g_intro (own := RX13) [some (gvr w 703), none, none] (by decide +kernel) rfl (by decide) (Nat.le_of_ble_eq_true rfl) rfl (fun i v hv => g_args 2 i v hv rfl) (fun x hc hm => ?_)
  have hfM : ∀ (k : Nat) (j : Int), ¬ x_b4 k j → M k j = M k j := fun _ _ _ => rfl
  have hI := hmM.gi
  have hTb := q_b1 hmM
  have hLv := hmM.lv
  have hC := hmM.cin
  have hL := hC.1
  obtain ⟨hn0, hn1, hLs, hLf⟩ := id hL
  obtain ⟨-, hC1, hC2, hC3, hC4, hC5, hC6, hC7⟩ := id hC
  refine g_bipush hc dX13_remember_0 (by decide +kernel) ?_
  refine g_istore_1 hc dX13_remember_2 rfl ?_
  refine g_aldn hc dX13_remember_3 rfl ?_
  refine g_getIe hc lk_X13_292 ca_703 32 rfl (show M 703 32 = A from hA) dX13_remember_4 ?_
  refine g_bipush hc dX13_remember_7 (by decide +kernel) ?_
  refine g_icmp_ne (tgt := 81) hc dX13_remember_9 (by decide) (by first | exact hI _ _ | exact hxI2 _ _ | exact hIa _ _ | exact hIb _ _ | exact g_b32 | exact g_and32 | assumption | exact ⟨by omega, by omega⟩) (by first | exact hI _ _ | exact hxI2 _ _ | exact hIa _ _ | exact hIb _ _ | exact g_b32 | exact g_and32 | assumption | exact ⟨by omega, by omega⟩) (fun c1 => ?_) (fun c1 => ?_)
  · skip
    have hex : ∃ a s : Int, (0 ≤ a ∧ a ≤ 39) ∧ (s = 0 ∨ s = 1) ∧ (s = 1 ↔ A = 40) ∧ a = A - s ∧ M 703 32 = a ∧ (∀ t : Int, 0 ≤ t → t < 72 * a → M 717 t = M 717 (t + 72 * s)) ∧ (∀ t : Int, 0 ≤ t → t < 4 * a → M 718 t = M 718 (t + 4 * s)) ∧ q_01 M 717 := ⟨A, 0, by omega, Or.inl rfl, by omega, by omega, hA, fun t _ _ => by rw [Int.mul_zero, Int.add_zero], fun t _ _ => by rw [Int.mul_zero, Int.add_zero], hz7⟩
    obtain ⟨a, s, ha, hs, hs1, has, hA6, hT7, hT8, hz9⟩ := hex
    refine g_iconst hc dX13_remember_81 ?_
    refine g_istore_2 hc dX13_remember_82 rfl ?_
    have lp_83 : ∀ (fu : Nat) (i : Int) (Mm : g_I) (Rm : g_R), 0 ≤ i ∧ i ≤ 72 → (∀ t : Int, 0 ≤ t → t < 72 * a → Mm 717 t = M 717 (t + 72 * s)) → (∀ t : Int, 0 ≤ t → t < i → Mm 717 (72 * a + t) = M 713 t) → (∀ t : Int, 0 ≤ t → t < 4 * a → Mm 718 t = M 718 (t + 4 * s)) → Mm 703 32 = a → q_01 Mm 717 → (∃ tm, g_rf w Rm lb tm) → q_rel I lb Mm → (∀ (k : Nat) (j : Int), ¬ x_b4 k j → Mm k j = M k j) → 72 - i < (fu : Int) → G w x (fun rr nn II JJ RR => x_rel w none x_b4 M J lb rr nn II JJ RR ∧ ∃ a s : Int, (0 ≤ a ∧ a ≤ 39) ∧ (s = 0 ∨ s = 1) ∧ (s = 1 ↔ A = 40) ∧ a = A - s ∧ II 703 32 = a + 1 ∧ (∀ t : Int, 0 ≤ t → t < 72 * a → II 717 t = M 717 (t + 72 * s)) ∧ (∀ t : Int, 0 ≤ t → t < 72 → II 717 (72 * a + t) = M 713 t) ∧ (∀ t : Int, 0 ≤ t → t < 4 * a → II 718 t = M 718 (t + 4 * s)) ∧ (∀ t : Int, 0 ≤ t → t < 4 → II 718 (4 * a + t) = I 550 t) ∧ q_01 II 717) 0 0 g_n Mm J Rm 83 [some (gvr w 703), some (gvI 72), some (gvI i)] [] := by
      intro fu
      induction fu with
      | zero => intro i Mm Rm h3 k7 k7b k8 kA kz hR hmMm hfMm hfu; exfalso; omega
      | succ fu ih =>
        intro i Mm Rm h3 k7 k7b k8 kA kz hR hmMm hfMm hfu
        obtain ⟨tm, hR⟩ := hR
        have ih_83 := ih
        refine g_iload_n hc dX13_remember_83 rfl ?_
        refine g_iload_n hc dX13_remember_84 rfl ?_
        refine g_icmp_ge (tgt := 113) hc dX13_remember_85 (by decide) (by first | exact hI _ _ | exact hxI2 _ _ | exact hIa _ _ | exact hIb _ _ | exact g_b32 | exact g_and32 | assumption | exact ⟨by omega, by omega⟩) (by first | exact hI _ _ | exact hxI2 _ _ | exact hIa _ _ | exact hIb _ _ | exact g_b32 | exact g_and32 | assumption | exact ⟨by omega, by omega⟩) (fun c2 => ?_) (fun c2 => ?_)
        · skip
          refine g_iconst hc dX13_remember_113 ?_
          refine g_istore_2 hc dX13_remember_114 rfl ?_
          have lp_115 : ∀ (fu : Nat) (i : Int) (Mm : g_I) (Rm : g_R), 0 ≤ i ∧ i ≤ 4 → (∀ t : Int, 0 ≤ t → t < 72 * a → Mm 717 t = M 717 (t + 72 * s)) → (∀ t : Int, 0 ≤ t → t < 72 → Mm 717 (72 * a + t) = M 713 t) → (∀ t : Int, 0 ≤ t → t < 4 * a → Mm 718 t = M 718 (t + 4 * s)) → (∀ t : Int, 0 ≤ t → t < i → Mm 718 (4 * a + t) = I 550 t) → Mm 703 32 = a → q_01 Mm 717 → (∃ tm, g_rf w Rm lb tm) → q_rel I lb Mm → (∀ (k : Nat) (j : Int), ¬ x_b4 k j → Mm k j = M k j) → 4 - i < (fu : Int) → G w x (fun rr nn II JJ RR => x_rel w none x_b4 M J lb rr nn II JJ RR ∧ ∃ a s : Int, (0 ≤ a ∧ a ≤ 39) ∧ (s = 0 ∨ s = 1) ∧ (s = 1 ↔ A = 40) ∧ a = A - s ∧ II 703 32 = a + 1 ∧ (∀ t : Int, 0 ≤ t → t < 72 * a → II 717 t = M 717 (t + 72 * s)) ∧ (∀ t : Int, 0 ≤ t → t < 72 → II 717 (72 * a + t) = M 713 t) ∧ (∀ t : Int, 0 ≤ t → t < 4 * a → II 718 t = M 718 (t + 4 * s)) ∧ (∀ t : Int, 0 ≤ t → t < 4 → II 718 (4 * a + t) = I 550 t) ∧ q_01 II 717) 0 0 g_n Mm J Rm 115 [some (gvr w 703), some (gvI 72), some (gvI i)] [] := by
            intro fu
            induction fu with
            | zero => intro i Mm Rm h3 m7 m7b m8 m8b mA mz hR hmMm hfMm hfu; exfalso; omega
            | succ fu ih =>
              intro i Mm Rm h3 m7 m7b m8 m8b mA mz hR hmMm hfMm hfu
              obtain ⟨tm, hR⟩ := hR
              have ih_115 := ih
              refine g_iload_n hc dX13_remember_115 rfl ?_
              refine g_iconst hc dX13_remember_116 ?_
              refine g_icmp_ge (tgt := 145) hc dX13_remember_117 (by decide) (by first | exact hI _ _ | exact hxI2 _ _ | exact hIa _ _ | exact hIb _ _ | exact g_b32 | exact g_and32 | assumption | exact ⟨by omega, by omega⟩) (by first | exact hI _ _ | exact hxI2 _ _ | exact hIa _ _ | exact hIb _ _ | exact g_b32 | exact g_and32 | assumption | exact ⟨by omega, by omega⟩) (fun c3 => ?_) (fun c3 => ?_)
              · skip
                refine g_aldn hc dX13_remember_145 rfl ?_
                refine g_dup hc dX13_remember_146 rfl ?_
                refine g_getIe hc lk_X13_292 ca_703 32 rfl (show Mm 703 32 = a from mA) dX13_remember_147 ?_
                refine g_iconst hc dX13_remember_150 ?_
                refine g_iadd hc dX13_remember_151 ?_
                refine g_putI' hc lk_X13_292 ca_703 32 rfl dX13_remember_152 (fun I3 hI3 => ?_)
                have hmI3 : q_rel I lb I3 := by rw [hI3]; exact q_upb hmMm (by unfold x_b; omega) (by first | exact hI _ _ | exact hmM.g _ _ | exact g_b32 | exact g_and32 | exact g_or32 | exact g_shl32 | assumption | exact ⟨by omega, by omega⟩)
                have hfI3 : ∀ (k : Nat) (j : Int), ¬ x_b4 k j → I3 k j = M k j := fun k j hk => by rw [hI3]; exact (g_up_n (by unfold x_b4 at hk; omega)).trans (hfMm k j hk)
                refine g_vret hc hm dX13_remember_155 ?_
                exact ⟨x_endv hfI3 hmI3.g hR, a, s, ha, hs, hs1, has, by rw [hI3, g_up_s], fun t t0 t1 => by rw [hI3, g_up_k (by decide)]; exact m7 t t0 t1, fun t t0 t1 => by rw [hI3, g_up_k (by decide)]; exact m7b t t0 t1, fun t t0 t1 => by rw [hI3, g_up_k (by decide)]; exact m8 t t0 t1, fun t t0 t1 => by rw [hI3, g_up_k (by decide)]; exact m8b t t0 (by omega), fun t => by rw [hI3, g_up_k (by decide)]; exact mz t⟩
              · skip
                refine g_aldn hc dX13_remember_120 rfl ?_
                refine g_getRk hc lk_X13_72 ca_703 (rc_703_31 hR) dX13_remember_121 ?_
                refine g_iconst hc dX13_remember_124 ?_
                refine g_aldn hc dX13_remember_125 rfl ?_
                refine g_getIe hc lk_X13_292 ca_703 32 rfl (show Mm 703 32 = a from mA) dX13_remember_126 ?_
                refine g_imul hc dX13_remember_129 ?_
                refine g_iload_n hc dX13_remember_130 rfl ?_
                refine g_iadd hc dX13_remember_131 ?_
                refine g_aldn hc dX13_remember_132 rfl ?_
                refine g_getRk hc lk_X13_60 ca_703 (rc_703_26 hR) dX13_remember_133 ?_
                refine g_iload_n hc dX13_remember_136 rfl ?_
                refine g_ialde hc ca_714 (by decide) (by omega) (by omega) (show Mm 714 i = I 550 i from hmMm.told (by omega)) dX13_remember_137 ?_
                refine g_iast' hc ca_718 (by decide) (by omega) (by omega)  dX13_remember_138 (fun I4 hI4 => ?_)
                have hmI4 : q_rel I lb I4 := by rw [hI4]; exact q_upb hmMm (by unfold x_b; omega) (by first | exact hI _ _ | exact hmM.g _ _ | exact g_b32 | exact g_and32 | exact g_or32 | exact g_shl32 | assumption | exact ⟨by omega, by omega⟩)
                have hfI4 : ∀ (k : Nat) (j : Int), ¬ x_b4 k j → I4 k j = M k j := fun k j hk => by rw [hI4]; exact (g_up_n (by unfold x_b4 at hk; omega)).trans (hfMm k j hk)
                have n7 : (∀ t : Int, 0 ≤ t → t < 72 * a → I4 717 t = M 717 (t + 72 * s)) := fun t t0 t1 => by rw [hI4, g_up_k (by decide)]; exact m7 t t0 t1
                have n7b : (∀ t : Int, 0 ≤ t → t < 72 → I4 717 (72 * a + t) = M 713 t) := fun t t0 t1 => by rw [hI4, g_up_k (by decide)]; exact m7b t t0 t1
                have n8 : (∀ t : Int, 0 ≤ t → t < 4 * a → I4 718 t = M 718 (t + 4 * s)) := fun t t0 t1 => by rw [hI4, g_up_i (by omega)]; exact m8 t t0 t1
                have n8b : (∀ t : Int, 0 ≤ t → t < (i + 1) → I4 718 (4 * a + t) = I 550 t) := fun t t0 t1 => by
                  rw [hI4]
                  by_cases e : t = i
                  · rw [e, g_up_s]
                  · rw [g_up_i (by omega)]; exact m8b t t0 (by omega)
                have nA : I4 703 32 = a := by rw [hI4, g_up_k (by decide)]; exact mA
                have nz : q_01 I4 717 := fun t => by rw [hI4, g_up_k (by decide)]; exact mz t
                refine g_iinc_2 hc dX13_remember_139 rfl ?_
                refine g_goto (tgt := 115) hc dX13_remember_142 (by decide) ?_
                refine ih_115 _ _ _ ?_ ?_ ?_ ?_ ?_ ?_ ?_ ?_ ?_ ?_ ?_
                · omega
                · exact n7
                · exact n7b
                · exact n8
                · exact n8b
                · exact nA
                · exact nz
                · exact ⟨_, hR⟩
                · exact hmI4
                · exact hfI4
                · omega
          refine lp_115 5 _ _ _ ?_ ?_ ?_ ?_ ?_ ?_ ?_ ?_ ?_ ?_ (?_)
          · omega
          · exact k7
          · exact fun t t0 t1 => k7b t t0 (by omega)
          · exact k8
          · intro t t0 t1; omega
          · exact kA
          · exact kz
          · exact ⟨_, hR⟩
          · exact hmMm
          · exact hfMm
          · omega
        · skip
          refine g_aldn hc dX13_remember_88 rfl ?_
          refine g_getRk hc lk_X13_69 ca_703 (rc_703_30 hR) dX13_remember_89 ?_
          refine g_iload_n hc dX13_remember_92 rfl ?_
          refine g_aldn hc dX13_remember_93 rfl ?_
          refine g_getIe hc lk_X13_292 ca_703 32 rfl (show Mm 703 32 = a from kA) dX13_remember_94 ?_
          refine g_imul hc dX13_remember_97 ?_
          refine g_iload_n hc dX13_remember_98 rfl ?_
          refine g_iadd hc dX13_remember_99 ?_
          refine g_aldn hc dX13_remember_100 rfl ?_
          refine g_getRk hc lk_X13_56 ca_703 (rc_703_25 hR) dX13_remember_101 ?_
          refine g_iload_n hc dX13_remember_104 rfl ?_
          refine g_zalde hc ca_713 (by decide) (by omega) (by omega) (show Mm 713 i = M 713 i from hfMm 713 i (by unfold x_b4 x_a; omega)) dX13_remember_105 ?_
          refine g_zast' hc ca_717 (by decide) (by omega) (by omega) (hz3 i) dX13_remember_106 (fun I5 hI5 => ?_)
          have hmI5 : q_rel I lb I5 := by rw [hI5]; exact q_upb hmMm (by unfold x_b; omega) (by first | exact hI _ _ | exact hmM.g _ _ | exact g_b32 | exact g_and32 | exact g_or32 | exact g_shl32 | assumption | exact ⟨by omega, by omega⟩)
          have hfI5 : ∀ (k : Nat) (j : Int), ¬ x_b4 k j → I5 k j = M k j := fun k j hk => by rw [hI5]; exact (g_up_n (by unfold x_b4 at hk; omega)).trans (hfMm k j hk)
          have l7 : (∀ t : Int, 0 ≤ t → t < 72 * a → I5 717 t = M 717 (t + 72 * s)) := fun t t0 t1 => by rw [hI5, g_up_i (by omega)]; exact k7 t t0 t1
          have l7b : (∀ t : Int, 0 ≤ t → t < (i + 1) → I5 717 (72 * a + t) = M 713 t) := fun t t0 t1 => by
            rw [hI5]
            by_cases e : t = i
            · rw [e, g_up_s]
            · rw [g_up_i (by omega)]; exact k7b t t0 (by omega)
          have l8 : (∀ t : Int, 0 ≤ t → t < 4 * a → I5 718 t = M 718 (t + 4 * s)) := fun t t0 t1 => by rw [hI5, g_up_k (by decide)]; exact k8 t t0 t1
          have lA : I5 703 32 = a := by rw [hI5, g_up_k (by decide)]; exact kA
          have lz : q_01 I5 717 := by rw [hI5]; exact q_01_up kz (hz3 i)
          refine g_iinc_2 hc dX13_remember_107 rfl ?_
          refine g_goto (tgt := 83) hc dX13_remember_110 (by decide) ?_
          refine ih_83 _ _ _ ?_ ?_ ?_ ?_ ?_ ?_ ?_ ?_ ?_ ?_
          · omega
          · exact l7
          · exact l7b
          · exact l8
          · exact lA
          · exact lz
          · exact ⟨_, hR⟩
          · exact hmI5
          · exact hfI5
          · omega
    refine lp_83 73 _ _ _ ?_ ?_ ?_ ?_ ?_ ?_ ?_ ?_ ?_ (?_)
    · omega
    · exact hT7
    · intro t t0 t1; omega
    · exact hT8
    · exact hA6
    · exact hz9
    · exact ⟨_, hR⟩
    · exact hmM
    · exact hfM
    · omega
  · skip
    have e40 : A = 40 := by omega
    have hA40 : M 703 32 = 40 := hA.trans e40
    refine g_iconst hc dX13_remember_12 ?_
    refine g_istore_2 hc dX13_remember_13 rfl ?_
    have lp_14 : ∀ (fu : Nat) (i : Int) (Mm : g_I) (Rm : g_R), 0 ≤ i ∧ i ≤ 2808 → (∀ t : Int, 0 ≤ t → t < i → Mm 717 t = M 717 (t + 72)) → (∀ t : Int, i ≤ t → Mm 717 t = M 717 t) → (∀ t : Int, Mm 718 t = M 718 t) → Mm 703 32 = 40 → q_01 Mm 717 → (∃ tm, g_rf w Rm lb tm) → q_rel I lb Mm → (∀ (k : Nat) (j : Int), ¬ x_b4 k j → Mm k j = M k j) → 2808 - i < (fu : Int) → G w x (fun rr nn II JJ RR => x_rel w none x_b4 M J lb rr nn II JJ RR ∧ ∃ a s : Int, (0 ≤ a ∧ a ≤ 39) ∧ (s = 0 ∨ s = 1) ∧ (s = 1 ↔ A = 40) ∧ a = A - s ∧ II 703 32 = a + 1 ∧ (∀ t : Int, 0 ≤ t → t < 72 * a → II 717 t = M 717 (t + 72 * s)) ∧ (∀ t : Int, 0 ≤ t → t < 72 → II 717 (72 * a + t) = M 713 t) ∧ (∀ t : Int, 0 ≤ t → t < 4 * a → II 718 t = M 718 (t + 4 * s)) ∧ (∀ t : Int, 0 ≤ t → t < 4 → II 718 (4 * a + t) = I 550 t) ∧ q_01 II 717) 0 0 g_n Mm J Rm 14 [some (gvr w 703), some (gvI 72), some (gvI i)] [] := by
      intro fu
      induction fu with
      | zero => intro i Mm Rm h3 hp1 hp2 hp8 hpA hpz hR hmMm hfMm hfu; exfalso; omega
      | succ fu ih =>
        intro i Mm Rm h3 hp1 hp2 hp8 hpA hpz hR hmMm hfMm hfu
        obtain ⟨tm, hR⟩ := hR
        have ih_14 := ih
        refine g_iload_n hc dX13_remember_14 rfl ?_
        refine g_iload_n hc dX13_remember_15 rfl ?_
        refine g_bipush hc dX13_remember_16 (by decide +kernel) ?_
        refine g_imul hc dX13_remember_18 ?_
        refine g_icmp_ge (tgt := 42) hc dX13_remember_19 (by decide) (by first | exact hI _ _ | exact hxI2 _ _ | exact hIa _ _ | exact hIb _ _ | exact g_b32 | exact g_and32 | assumption | exact ⟨by omega, by omega⟩) (by first | exact hI _ _ | exact hxI2 _ _ | exact hIa _ _ | exact hIb _ _ | exact g_b32 | exact g_and32 | assumption | exact ⟨by omega, by omega⟩) (fun c4 => ?_) (fun c4 => ?_)
        · skip
          refine g_iconst hc dX13_remember_42 ?_
          refine g_istore_2 hc dX13_remember_43 rfl ?_
          have lp_44 : ∀ (fu : Nat) (i : Int) (Mm : g_I) (Rm : g_R), 0 ≤ i ∧ i ≤ 156 → (∀ t : Int, 0 ≤ t → t < 2808 → Mm 717 t = M 717 (t + 72)) → (∀ t : Int, 0 ≤ t → t < i → Mm 718 t = M 718 (t + 4)) → (∀ t : Int, i ≤ t → Mm 718 t = M 718 t) → Mm 703 32 = 40 → q_01 Mm 717 → (∃ tm, g_rf w Rm lb tm) → q_rel I lb Mm → (∀ (k : Nat) (j : Int), ¬ x_b4 k j → Mm k j = M k j) → 156 - i < (fu : Int) → G w x (fun rr nn II JJ RR => x_rel w none x_b4 M J lb rr nn II JJ RR ∧ ∃ a s : Int, (0 ≤ a ∧ a ≤ 39) ∧ (s = 0 ∨ s = 1) ∧ (s = 1 ↔ A = 40) ∧ a = A - s ∧ II 703 32 = a + 1 ∧ (∀ t : Int, 0 ≤ t → t < 72 * a → II 717 t = M 717 (t + 72 * s)) ∧ (∀ t : Int, 0 ≤ t → t < 72 → II 717 (72 * a + t) = M 713 t) ∧ (∀ t : Int, 0 ≤ t → t < 4 * a → II 718 t = M 718 (t + 4 * s)) ∧ (∀ t : Int, 0 ≤ t → t < 4 → II 718 (4 * a + t) = I 550 t) ∧ q_01 II 717) 0 0 g_n Mm J Rm 44 [some (gvr w 703), some (gvI 72), some (gvI i)] [] := by
            intro fu
            induction fu with
            | zero => intro i Mm Rm h3 hr7 hr81 hr82 hrA hrz hR hmMm hfMm hfu; exfalso; omega
            | succ fu ih =>
              intro i Mm Rm h3 hr7 hr81 hr82 hrA hrz hR hmMm hfMm hfu
              obtain ⟨tm, hR⟩ := hR
              have ih_44 := ih
              refine g_iload_n hc dX13_remember_44 rfl ?_
              refine g_sipush hc dX13_remember_45 (by decide +kernel) ?_
              refine g_icmp_ge (tgt := 71) hc dX13_remember_48 (by decide) (by first | exact hI _ _ | exact hxI2 _ _ | exact hIa _ _ | exact hIb _ _ | exact g_b32 | exact g_and32 | assumption | exact ⟨by omega, by omega⟩) (by first | exact hI _ _ | exact hxI2 _ _ | exact hIa _ _ | exact hIb _ _ | exact g_b32 | exact g_and32 | assumption | exact ⟨by omega, by omega⟩) (fun c5 => ?_) (fun c5 => ?_)
              · skip
                refine g_aldn hc dX13_remember_71 rfl ?_
                refine g_dup hc dX13_remember_72 rfl ?_
                refine g_getIe hc lk_X13_292 ca_703 32 rfl (show Mm 703 32 = 40 from hrA) dX13_remember_73 ?_
                refine g_iconst hc dX13_remember_76 ?_
                refine g_isub hc dX13_remember_77 ?_
                refine g_putI' hc lk_X13_292 ca_703 32 rfl dX13_remember_78 (fun I6 hI6 => ?_)
                have hmI6 : q_rel I lb I6 := by rw [hI6]; exact q_upb hmMm (by unfold x_b; omega) (by first | exact hI _ _ | exact hmM.g _ _ | exact g_b32 | exact g_and32 | exact g_or32 | exact g_shl32 | assumption | exact ⟨by omega, by omega⟩)
                have hfI6 : ∀ (k : Nat) (j : Int), ¬ x_b4 k j → I6 k j = M k j := fun k j hk => by rw [hI6]; exact (g_up_n (by unfold x_b4 at hk; omega)).trans (hfMm k j hk)
                have hex : ∃ a s : Int, (0 ≤ a ∧ a ≤ 39) ∧ (s = 0 ∨ s = 1) ∧ (s = 1 ↔ A = 40) ∧ a = A - s ∧ I6 703 32 = a ∧ (∀ t : Int, 0 ≤ t → t < 72 * a → I6 717 t = M 717 (t + 72 * s)) ∧ (∀ t : Int, 0 ≤ t → t < 4 * a → I6 718 t = M 718 (t + 4 * s)) ∧ q_01 I6 717 := ⟨39, 1, by omega, Or.inr rfl, by omega, by omega, by rw [hI6, g_up_s]; rfl, fun t t0 t1 => by rw [hI6, g_up_k (by decide)]; exact hr7 t t0 (by omega), fun t t0 t1 => by rw [hI6, g_up_k (by decide)]; exact hr81 t t0 (by omega), fun t => by rw [hI6, g_up_k (by decide)]; exact hrz t⟩
                obtain ⟨a, s, ha, hs, hs1, has, hA6, hT7, hT8, hz9⟩ := hex
                refine g_iconst hc dX13_remember_81 ?_
                refine g_istore_2 hc dX13_remember_82 rfl ?_
                have lp_83 : ∀ (fu : Nat) (i : Int) (Mm : g_I) (Rm : g_R), 0 ≤ i ∧ i ≤ 72 → (∀ t : Int, 0 ≤ t → t < 72 * a → Mm 717 t = M 717 (t + 72 * s)) → (∀ t : Int, 0 ≤ t → t < i → Mm 717 (72 * a + t) = M 713 t) → (∀ t : Int, 0 ≤ t → t < 4 * a → Mm 718 t = M 718 (t + 4 * s)) → Mm 703 32 = a → q_01 Mm 717 → (∃ tm, g_rf w Rm lb tm) → q_rel I lb Mm → (∀ (k : Nat) (j : Int), ¬ x_b4 k j → Mm k j = M k j) → 72 - i < (fu : Int) → G w x (fun rr nn II JJ RR => x_rel w none x_b4 M J lb rr nn II JJ RR ∧ ∃ a s : Int, (0 ≤ a ∧ a ≤ 39) ∧ (s = 0 ∨ s = 1) ∧ (s = 1 ↔ A = 40) ∧ a = A - s ∧ II 703 32 = a + 1 ∧ (∀ t : Int, 0 ≤ t → t < 72 * a → II 717 t = M 717 (t + 72 * s)) ∧ (∀ t : Int, 0 ≤ t → t < 72 → II 717 (72 * a + t) = M 713 t) ∧ (∀ t : Int, 0 ≤ t → t < 4 * a → II 718 t = M 718 (t + 4 * s)) ∧ (∀ t : Int, 0 ≤ t → t < 4 → II 718 (4 * a + t) = I 550 t) ∧ q_01 II 717) 0 0 g_n Mm J Rm 83 [some (gvr w 703), some (gvI 72), some (gvI i)] [] := by
                  intro fu
                  induction fu with
                  | zero => intro i Mm Rm h3 k7 k7b k8 kA kz hR hmMm hfMm hfu; exfalso; omega
                  | succ fu ih =>
                    intro i Mm Rm h3 k7 k7b k8 kA kz hR hmMm hfMm hfu
                    obtain ⟨tm, hR⟩ := hR
                    have ih_83 := ih
                    refine g_iload_n hc dX13_remember_83 rfl ?_
                    refine g_iload_n hc dX13_remember_84 rfl ?_
                    refine g_icmp_ge (tgt := 113) hc dX13_remember_85 (by decide) (by first | exact hI _ _ | exact hxI2 _ _ | exact hIa _ _ | exact hIb _ _ | exact g_b32 | exact g_and32 | assumption | exact ⟨by omega, by omega⟩) (by first | exact hI _ _ | exact hxI2 _ _ | exact hIa _ _ | exact hIb _ _ | exact g_b32 | exact g_and32 | assumption | exact ⟨by omega, by omega⟩) (fun c6 => ?_) (fun c6 => ?_)
                    · skip
                      refine g_iconst hc dX13_remember_113 ?_
                      refine g_istore_2 hc dX13_remember_114 rfl ?_
                      have lp_115 : ∀ (fu : Nat) (i : Int) (Mm : g_I) (Rm : g_R), 0 ≤ i ∧ i ≤ 4 → (∀ t : Int, 0 ≤ t → t < 72 * a → Mm 717 t = M 717 (t + 72 * s)) → (∀ t : Int, 0 ≤ t → t < 72 → Mm 717 (72 * a + t) = M 713 t) → (∀ t : Int, 0 ≤ t → t < 4 * a → Mm 718 t = M 718 (t + 4 * s)) → (∀ t : Int, 0 ≤ t → t < i → Mm 718 (4 * a + t) = I 550 t) → Mm 703 32 = a → q_01 Mm 717 → (∃ tm, g_rf w Rm lb tm) → q_rel I lb Mm → (∀ (k : Nat) (j : Int), ¬ x_b4 k j → Mm k j = M k j) → 4 - i < (fu : Int) → G w x (fun rr nn II JJ RR => x_rel w none x_b4 M J lb rr nn II JJ RR ∧ ∃ a s : Int, (0 ≤ a ∧ a ≤ 39) ∧ (s = 0 ∨ s = 1) ∧ (s = 1 ↔ A = 40) ∧ a = A - s ∧ II 703 32 = a + 1 ∧ (∀ t : Int, 0 ≤ t → t < 72 * a → II 717 t = M 717 (t + 72 * s)) ∧ (∀ t : Int, 0 ≤ t → t < 72 → II 717 (72 * a + t) = M 713 t) ∧ (∀ t : Int, 0 ≤ t → t < 4 * a → II 718 t = M 718 (t + 4 * s)) ∧ (∀ t : Int, 0 ≤ t → t < 4 → II 718 (4 * a + t) = I 550 t) ∧ q_01 II 717) 0 0 g_n Mm J Rm 115 [some (gvr w 703), some (gvI 72), some (gvI i)] [] := by
                        intro fu
                        induction fu with
                        | zero => intro i Mm Rm h3 m7 m7b m8 m8b mA mz hR hmMm hfMm hfu; exfalso; omega
                        | succ fu ih =>
                          intro i Mm Rm h3 m7 m7b m8 m8b mA mz hR hmMm hfMm hfu
                          obtain ⟨tm, hR⟩ := hR
                          have ih_115 := ih
                          refine g_iload_n hc dX13_remember_115 rfl ?_
                          refine g_iconst hc dX13_remember_116 ?_
                          refine g_icmp_ge (tgt := 145) hc dX13_remember_117 (by decide) (by first | exact hI _ _ | exact hxI2 _ _ | exact hIa _ _ | exact hIb _ _ | exact g_b32 | exact g_and32 | assumption | exact ⟨by omega, by omega⟩) (by first | exact hI _ _ | exact hxI2 _ _ | exact hIa _ _ | exact hIb _ _ | exact g_b32 | exact g_and32 | assumption | exact ⟨by omega, by omega⟩) (fun c7 => ?_) (fun c7 => ?_)
                          · skip
                            refine g_aldn hc dX13_remember_145 rfl ?_
                            refine g_dup hc dX13_remember_146 rfl ?_
                            refine g_getIe hc lk_X13_292 ca_703 32 rfl (show Mm 703 32 = a from mA) dX13_remember_147 ?_
                            refine g_iconst hc dX13_remember_150 ?_
                            refine g_iadd hc dX13_remember_151 ?_
                            refine g_putI' hc lk_X13_292 ca_703 32 rfl dX13_remember_152 (fun I7 hI7 => ?_)
                            have hmI7 : q_rel I lb I7 := by rw [hI7]; exact q_upb hmMm (by unfold x_b; omega) (by first | exact hI _ _ | exact hmM.g _ _ | exact g_b32 | exact g_and32 | exact g_or32 | exact g_shl32 | assumption | exact ⟨by omega, by omega⟩)
                            have hfI7 : ∀ (k : Nat) (j : Int), ¬ x_b4 k j → I7 k j = M k j := fun k j hk => by rw [hI7]; exact (g_up_n (by unfold x_b4 at hk; omega)).trans (hfMm k j hk)
                            refine g_vret hc hm dX13_remember_155 ?_
                            exact ⟨x_endv hfI7 hmI7.g hR, a, s, ha, hs, hs1, has, by rw [hI7, g_up_s], fun t t0 t1 => by rw [hI7, g_up_k (by decide)]; exact m7 t t0 t1, fun t t0 t1 => by rw [hI7, g_up_k (by decide)]; exact m7b t t0 t1, fun t t0 t1 => by rw [hI7, g_up_k (by decide)]; exact m8 t t0 t1, fun t t0 t1 => by rw [hI7, g_up_k (by decide)]; exact m8b t t0 (by omega), fun t => by rw [hI7, g_up_k (by decide)]; exact mz t⟩
                          · skip
                            refine g_aldn hc dX13_remember_120 rfl ?_
                            refine g_getRk hc lk_X13_72 ca_703 (rc_703_31 hR) dX13_remember_121 ?_
                            refine g_iconst hc dX13_remember_124 ?_
                            refine g_aldn hc dX13_remember_125 rfl ?_
                            refine g_getIe hc lk_X13_292 ca_703 32 rfl (show Mm 703 32 = a from mA) dX13_remember_126 ?_
                            refine g_imul hc dX13_remember_129 ?_
                            refine g_iload_n hc dX13_remember_130 rfl ?_
                            refine g_iadd hc dX13_remember_131 ?_
                            refine g_aldn hc dX13_remember_132 rfl ?_
                            refine g_getRk hc lk_X13_60 ca_703 (rc_703_26 hR) dX13_remember_133 ?_
                            refine g_iload_n hc dX13_remember_136 rfl ?_
                            refine g_ialde hc ca_714 (by decide) (by omega) (by omega) (show Mm 714 i = I 550 i from hmMm.told (by omega)) dX13_remember_137 ?_
                            refine g_iast' hc ca_718 (by decide) (by omega) (by omega)  dX13_remember_138 (fun I8 hI8 => ?_)
                            have hmI8 : q_rel I lb I8 := by rw [hI8]; exact q_upb hmMm (by unfold x_b; omega) (by first | exact hI _ _ | exact hmM.g _ _ | exact g_b32 | exact g_and32 | exact g_or32 | exact g_shl32 | assumption | exact ⟨by omega, by omega⟩)
                            have hfI8 : ∀ (k : Nat) (j : Int), ¬ x_b4 k j → I8 k j = M k j := fun k j hk => by rw [hI8]; exact (g_up_n (by unfold x_b4 at hk; omega)).trans (hfMm k j hk)
                            have n7 : (∀ t : Int, 0 ≤ t → t < 72 * a → I8 717 t = M 717 (t + 72 * s)) := fun t t0 t1 => by rw [hI8, g_up_k (by decide)]; exact m7 t t0 t1
                            have n7b : (∀ t : Int, 0 ≤ t → t < 72 → I8 717 (72 * a + t) = M 713 t) := fun t t0 t1 => by rw [hI8, g_up_k (by decide)]; exact m7b t t0 t1
                            have n8 : (∀ t : Int, 0 ≤ t → t < 4 * a → I8 718 t = M 718 (t + 4 * s)) := fun t t0 t1 => by rw [hI8, g_up_i (by omega)]; exact m8 t t0 t1
                            have n8b : (∀ t : Int, 0 ≤ t → t < (i + 1) → I8 718 (4 * a + t) = I 550 t) := fun t t0 t1 => by
                              rw [hI8]
                              by_cases e : t = i
                              · rw [e, g_up_s]
                              · rw [g_up_i (by omega)]; exact m8b t t0 (by omega)
                            have nA : I8 703 32 = a := by rw [hI8, g_up_k (by decide)]; exact mA
                            have nz : q_01 I8 717 := fun t => by rw [hI8, g_up_k (by decide)]; exact mz t
                            refine g_iinc_2 hc dX13_remember_139 rfl ?_
                            refine g_goto (tgt := 115) hc dX13_remember_142 (by decide) ?_
                            refine ih_115 _ _ _ ?_ ?_ ?_ ?_ ?_ ?_ ?_ ?_ ?_ ?_ ?_
                            · omega
                            · exact n7
                            · exact n7b
                            · exact n8
                            · exact n8b
                            · exact nA
                            · exact nz
                            · exact ⟨_, hR⟩
                            · exact hmI8
                            · exact hfI8
                            · omega
                      refine lp_115 5 _ _ _ ?_ ?_ ?_ ?_ ?_ ?_ ?_ ?_ ?_ ?_ (?_)
                      · omega
                      · exact k7
                      · exact fun t t0 t1 => k7b t t0 (by omega)
                      · exact k8
                      · intro t t0 t1; omega
                      · exact kA
                      · exact kz
                      · exact ⟨_, hR⟩
                      · exact hmMm
                      · exact hfMm
                      · omega
                    · skip
                      refine g_aldn hc dX13_remember_88 rfl ?_
                      refine g_getRk hc lk_X13_69 ca_703 (rc_703_30 hR) dX13_remember_89 ?_
                      refine g_iload_n hc dX13_remember_92 rfl ?_
                      refine g_aldn hc dX13_remember_93 rfl ?_
                      refine g_getIe hc lk_X13_292 ca_703 32 rfl (show Mm 703 32 = a from kA) dX13_remember_94 ?_
                      refine g_imul hc dX13_remember_97 ?_
                      refine g_iload_n hc dX13_remember_98 rfl ?_
                      refine g_iadd hc dX13_remember_99 ?_
                      refine g_aldn hc dX13_remember_100 rfl ?_
                      refine g_getRk hc lk_X13_56 ca_703 (rc_703_25 hR) dX13_remember_101 ?_
                      refine g_iload_n hc dX13_remember_104 rfl ?_
                      refine g_zalde hc ca_713 (by decide) (by omega) (by omega) (show Mm 713 i = M 713 i from hfMm 713 i (by unfold x_b4 x_a; omega)) dX13_remember_105 ?_
                      refine g_zast' hc ca_717 (by decide) (by omega) (by omega) (hz3 i) dX13_remember_106 (fun I9 hI9 => ?_)
                      have hmI9 : q_rel I lb I9 := by rw [hI9]; exact q_upb hmMm (by unfold x_b; omega) (by first | exact hI _ _ | exact hmM.g _ _ | exact g_b32 | exact g_and32 | exact g_or32 | exact g_shl32 | assumption | exact ⟨by omega, by omega⟩)
                      have hfI9 : ∀ (k : Nat) (j : Int), ¬ x_b4 k j → I9 k j = M k j := fun k j hk => by rw [hI9]; exact (g_up_n (by unfold x_b4 at hk; omega)).trans (hfMm k j hk)
                      have l7 : (∀ t : Int, 0 ≤ t → t < 72 * a → I9 717 t = M 717 (t + 72 * s)) := fun t t0 t1 => by rw [hI9, g_up_i (by omega)]; exact k7 t t0 t1
                      have l7b : (∀ t : Int, 0 ≤ t → t < (i + 1) → I9 717 (72 * a + t) = M 713 t) := fun t t0 t1 => by
                        rw [hI9]
                        by_cases e : t = i
                        · rw [e, g_up_s]
                        · rw [g_up_i (by omega)]; exact k7b t t0 (by omega)
                      have l8 : (∀ t : Int, 0 ≤ t → t < 4 * a → I9 718 t = M 718 (t + 4 * s)) := fun t t0 t1 => by rw [hI9, g_up_k (by decide)]; exact k8 t t0 t1
                      have lA : I9 703 32 = a := by rw [hI9, g_up_k (by decide)]; exact kA
                      have lz : q_01 I9 717 := by rw [hI9]; exact q_01_up kz (hz3 i)
                      refine g_iinc_2 hc dX13_remember_107 rfl ?_
                      refine g_goto (tgt := 83) hc dX13_remember_110 (by decide) ?_
                      refine ih_83 _ _ _ ?_ ?_ ?_ ?_ ?_ ?_ ?_ ?_ ?_ ?_
                      · omega
                      · exact l7
                      · exact l7b
                      · exact l8
                      · exact lA
                      · exact lz
                      · exact ⟨_, hR⟩
                      · exact hmI9
                      · exact hfI9
                      · omega
                refine lp_83 73 _ _ _ ?_ ?_ ?_ ?_ ?_ ?_ ?_ ?_ ?_ (?_)
                · omega
                · exact hT7
                · intro t t0 t1; omega
                · exact hT8
                · exact hA6
                · exact hz9
                · exact ⟨_, hR⟩
                · exact hmI6
                · exact hfI6
                · omega
              · skip
                refine g_aldn hc dX13_remember_51 rfl ?_
                refine g_getRk hc lk_X13_72 ca_703 (rc_703_31 hR) dX13_remember_52 ?_
                refine g_iload_n hc dX13_remember_55 rfl ?_
                refine g_aldn hc dX13_remember_56 rfl ?_
                refine g_getRk hc lk_X13_72 ca_703 (rc_703_31 hR) dX13_remember_57 ?_
                refine g_iload_n hc dX13_remember_60 rfl ?_
                refine g_iconst hc dX13_remember_61 ?_
                refine g_iadd hc dX13_remember_62 ?_
                refine g_ialde hc ca_718 (by decide) (by omega) (by omega) (show Mm 718 (i + 4) = M 718 (i + 4) from hr82 _ (by omega)) dX13_remember_63 ?_
                refine g_iast' hc ca_718 (by decide) (by omega) (by omega)  dX13_remember_64 (fun I10 hI10 => ?_)
                have hmI10 : q_rel I lb I10 := by rw [hI10]; exact q_upb hmMm (by unfold x_b; omega) (by first | exact hI _ _ | exact hmM.g _ _ | exact g_b32 | exact g_and32 | exact g_or32 | exact g_shl32 | assumption | exact ⟨by omega, by omega⟩)
                have hfI10 : ∀ (k : Nat) (j : Int), ¬ x_b4 k j → I10 k j = M k j := fun k j hk => by rw [hI10]; exact (g_up_n (by unfold x_b4 at hk; omega)).trans (hfMm k j hk)
                have ht81 : (∀ t : Int, 0 ≤ t → t < (i + 1) → I10 718 t = M 718 (t + 4)) := fun t t0 t1 => by
                  rw [hI10]
                  by_cases e : t = i
                  · rw [e, g_up_s]
                  · rw [g_up_i e]; exact hr81 t t0 (by omega)
                have ht82 : (∀ t : Int, (i + 1) ≤ t → I10 718 t = M 718 t) := fun t t0 => by rw [hI10, g_up_i (by omega)]; exact hr82 t (by omega)
                have ht7 : (∀ t : Int, 0 ≤ t → t < 2808 → I10 717 t = M 717 (t + 72)) := fun t t0 t1 => by rw [hI10, g_up_k (by decide)]; exact hr7 t t0 t1
                have htA : I10 703 32 = 40 := by rw [hI10, g_up_k (by decide)]; exact hrA
                have htz : q_01 I10 717 := fun t => by rw [hI10, g_up_k (by decide)]; exact hrz t
                refine g_iinc_2 hc dX13_remember_65 rfl ?_
                refine g_goto (tgt := 44) hc dX13_remember_68 (by decide) ?_
                refine ih_44 _ _ _ ?_ ?_ ?_ ?_ ?_ ?_ ?_ ?_ ?_ ?_
                · omega
                · exact ht7
                · exact ht81
                · exact ht82
                · exact htA
                · exact htz
                · exact ⟨_, hR⟩
                · exact hmI10
                · exact hfI10
                · omega
          refine lp_44 157 _ _ _ ?_ ?_ ?_ ?_ ?_ ?_ ?_ ?_ ?_ (?_)
          · omega
          · exact fun t t0 t1 => hp1 t t0 (by omega)
          · intro t t0 t1; omega
          · exact fun t _ => hp8 t
          · exact hpA
          · exact hpz
          · exact ⟨_, hR⟩
          · exact hmMm
          · exact hfMm
          · omega
        · skip
          refine g_aldn hc dX13_remember_22 rfl ?_
          refine g_getRk hc lk_X13_69 ca_703 (rc_703_30 hR) dX13_remember_23 ?_
          refine g_iload_n hc dX13_remember_26 rfl ?_
          refine g_aldn hc dX13_remember_27 rfl ?_
          refine g_getRk hc lk_X13_69 ca_703 (rc_703_30 hR) dX13_remember_28 ?_
          refine g_iload_n hc dX13_remember_31 rfl ?_
          refine g_iload_n hc dX13_remember_32 rfl ?_
          refine g_iadd hc dX13_remember_33 ?_
          refine g_zalde hc ca_717 (by decide) (by omega) (by omega) (show Mm 717 (i + 72) = M 717 (i + 72) from hp2 _ (by omega)) dX13_remember_34 ?_
          refine g_zast' hc ca_717 (by decide) (by omega) (by omega) (hz7 _) dX13_remember_35 (fun I11 hI11 => ?_)
          have hmI11 : q_rel I lb I11 := by rw [hI11]; exact q_upb hmMm (by unfold x_b; omega) (by first | exact hI _ _ | exact hmM.g _ _ | exact g_b32 | exact g_and32 | exact g_or32 | exact g_shl32 | assumption | exact ⟨by omega, by omega⟩)
          have hfI11 : ∀ (k : Nat) (j : Int), ¬ x_b4 k j → I11 k j = M k j := fun k j hk => by rw [hI11]; exact (g_up_n (by unfold x_b4 at hk; omega)).trans (hfMm k j hk)
          have hq1 : (∀ t : Int, 0 ≤ t → t < (i + 1) → I11 717 t = M 717 (t + 72)) := fun t t0 t1 => by
            rw [hI11]
            by_cases e : t = i
            · rw [e, g_up_s]
            · rw [g_up_i e]; exact hp1 t t0 (by omega)
          have hq2 : (∀ t : Int, (i + 1) ≤ t → I11 717 t = M 717 t) := fun t t0 => by rw [hI11, g_up_i (by omega)]; exact hp2 t (by omega)
          have hq8 : (∀ t : Int, I11 718 t = M 718 t) := fun t => by rw [hI11, g_up_k (by decide)]; exact hp8 t
          have hqA : I11 703 32 = 40 := by rw [hI11, g_up_k (by decide)]; exact hpA
          have hqz : q_01 I11 717 := by rw [hI11]; exact q_01_up hpz (hz7 _)
          refine g_iinc_2 hc dX13_remember_36 rfl ?_
          refine g_goto (tgt := 14) hc dX13_remember_39 (by decide) ?_
          refine ih_14 _ _ _ ?_ ?_ ?_ ?_ ?_ ?_ ?_ ?_ ?_ ?_
          · omega
          · exact hq1
          · exact hq2
          · exact hq8
          · exact hqA
          · exact hqz
          · exact ⟨_, hR⟩
          · exact hmI11
          · exact hfI11
          · omega
    refine lp_14 2809 _ _ _ ?_ ?_ ?_ ?_ ?_ ?_ ?_ ?_ ?_ (?_)
    · omega
    · intro t t0 t1; omega
    · intro t _; rfl
    · intro t; rfl
    · exact hA40
    · exact hz7
    · exact ⟨_, hR⟩
    · exact hmM
    · exact hfM
    · omega
