set_option maxHeartbeats 4000000 in
set_option maxRecDepth 100000 in
/-- X13_isIn -/
theorem c_X13_isIn (w : g_W) {I : g_I} {J : g_J} {R : g_R} {v a b : Int} (h1 : g32 v) (h2 : g32 a) (h3 : g32 b) : g_Met w g_n I J R yX13_isIn cX13_isIn 6 (some .boolean) 0 0 0 [(gvL v), (gvL a), (gvL b)] (g_post (some (gvI (g_b (a ≤ v ∧ v ≤ b)))) g_n I J R) := by
  refine g_intro (own := RX13) [some (gvL v), none, some (gvL a), none, some (gvL b), none] (by decide +kernel) rfl (by decide) (Nat.le_of_ble_eq_true rfl) rfl (fun i v hv => g_args 0 i v hv rfl) (fun x hc hm => ?_)
  obtain ⟨v1, v2⟩ := h1
  obtain ⟨a1, a2⟩ := h2
  obtain ⟨b1, b2⟩ := h3
  refine g_lload_n hc dX13_isIn_0 rfl ?_
  refine g_lload_n hc dX13_isIn_1 rfl ?_
  refine g_lcmp hc dX13_isIn_2 (by exact ⟨by omega, by omega⟩) (by exact ⟨by omega, by omega⟩) ?_
  refine g_if_lt (tgt := 17) hc dX13_isIn_3 (by decide) (by split <;> first | exact ⟨by decide, by decide⟩ | (split <;> exact ⟨by decide, by decide⟩)) (fun c1 => ?_) (fun c1 => ?_)
  · skip
    have hc1 : v < a := by split at c1 <;> first | omega | (split at c1 <;> omega)
    refine g_iconst hc dX13_isIn_17 ?_
    refine g_zret hc hm (by first | exact g_b01 | omega) dX13_isIn_18 ?_
    first | (exfalso; omega) | (exfalso; omega) | exact ⟨by rw [g_b1 (by first | (exfalso; omega) | assumption | omega)], rfl, rfl, rfl, rfl⟩ | exact ⟨by rw [g_b0 (by first | (exfalso; omega) | assumption | omega)], rfl, rfl, rfl, rfl⟩
  · skip
    have hc1 : a ≤ v := by split at c1 <;> first | omega | (split at c1 <;> omega)
    refine g_lload_n hc dX13_isIn_6 rfl ?_
    refine g_lload hc dX13_isIn_7 rfl ?_
    refine g_lcmp hc dX13_isIn_9 (by exact ⟨by omega, by omega⟩) (by exact ⟨by omega, by omega⟩) ?_
    refine g_if_gt (tgt := 17) hc dX13_isIn_10 (by decide) (by split <;> first | exact ⟨by decide, by decide⟩ | (split <;> exact ⟨by decide, by decide⟩)) (fun c2 => ?_) (fun c2 => ?_)
    · skip
      have hc2 : b < v := by split at c2 <;> first | omega | (split at c2 <;> omega)
      refine g_iconst hc dX13_isIn_17 ?_
      refine g_zret hc hm (by first | exact g_b01 | omega) dX13_isIn_18 ?_
      first | (exfalso; omega) | (exfalso; omega) | exact ⟨by rw [g_b1 (by first | (exfalso; omega) | assumption | omega)], rfl, rfl, rfl, rfl⟩ | exact ⟨by rw [g_b0 (by first | (exfalso; omega) | assumption | omega)], rfl, rfl, rfl, rfl⟩
    · skip
      have hc2 : v ≤ b := by split at c2 <;> first | omega | (split at c2 <;> omega)
      refine g_iconst hc dX13_isIn_13 ?_
      refine g_goto (tgt := 18) hc dX13_isIn_14 (by decide) ?_
      refine g_zret hc hm (by first | exact g_b01 | omega) dX13_isIn_18 ?_
      first | (exfalso; omega) | (exfalso; omega) | exact ⟨by rw [g_b1 (by first | (exfalso; omega) | assumption | omega)], rfl, rfl, rfl, rfl⟩ | exact ⟨by rw [g_b0 (by first | (exfalso; omega) | assumption | omega)], rfl, rfl, rfl, rfl⟩
set_option maxHeartbeats 4000000 in
set_option maxRecDepth 100000 in
/-- X13_has -/
theorem c_X13_has (w : g_W) {I : g_I} {J : g_J} {R : g_R} {a k : Int} : g_Met w g_n I J R yX13_has cX13_has 2 (some .boolean) 0 0 0 [(gvI a), (gvI k)] (g_post (some (gvI (g_b (g_bit a k)))) g_n I J R) := by
  refine g_intro (own := RX13) [some (gvI a), some (gvI k)] (by decide +kernel) rfl (by decide) (Nat.le_of_ble_eq_true rfl) rfl (fun i v hv => g_args 0 i v hv rfl) (fun x hc hm => ?_)
  refine g_iload_n hc dX13_has_0 rfl ?_
  refine g_iload_n hc dX13_has_1 rfl ?_
  refine g_ishr hc dX13_has_2 ?_
  refine g_iconst hc dX13_has_3 ?_
  refine g_iand hc dX13_has_4 ?_
  refine g_iconst hc dX13_has_5 ?_
  refine g_icmp_ne (tgt := 13) hc dX13_has_6 (by decide) g_and32 (by exact ⟨by decide, by decide⟩) (fun c1 => ?_) (fun c1 => ?_)
  · skip
    refine g_iconst hc dX13_has_13 ?_
    refine g_zret hc hm (by first | exact g_b01 | omega) dX13_has_14 ?_
    first | (exfalso; omega) | (exfalso; omega) | exact ⟨by rw [g_b1 (by first | (exfalso; omega) | assumption | omega)], rfl, rfl, rfl, rfl⟩ | exact ⟨by rw [g_b0 (by first | (exfalso; omega) | assumption | omega)], rfl, rfl, rfl, rfl⟩
  · skip
    refine g_iconst hc dX13_has_9 ?_
    refine g_goto (tgt := 14) hc dX13_has_10 (by decide) ?_
    refine g_zret hc hm (by first | exact g_b01 | omega) dX13_has_14 ?_
    first | (exfalso; omega) | (exfalso; omega) | exact ⟨by rw [g_b1 (by first | (exfalso; omega) | assumption | omega)], rfl, rfl, rfl, rfl⟩ | exact ⟨by rw [g_b0 (by first | (exfalso; omega) | assumption | omega)], rfl, rfl, rfl, rfl⟩
set_option maxHeartbeats 4000000 in
set_option maxRecDepth 100000 in
/-- X13_leafAt -/
theorem c_X13_leafAt (w : g_W) {I : g_I} {J : g_J} {R : g_R} {j s : Int} : g_Met w g_n I J R yX13_leafAt cX13_leafAt 3 (some .int) 0 0 0 [(gvr w 703), (gvI j), (gvI s)] (g_post (some (gvI ((j * 12 + s) * 7))) g_n I J R) := by
  refine g_intro (own := RX13) [some (gvr w 703), some (gvI j), some (gvI s)] (by decide +kernel) rfl (by decide) (Nat.le_of_ble_eq_true rfl) rfl (fun i v hv => g_args 0 i v hv rfl) (fun x hc hm => ?_)
  refine g_iload_n hc dX13_leafAt_0 rfl ?_
  refine g_bipush hc dX13_leafAt_1 (by decide +kernel) ?_
  refine g_imul hc dX13_leafAt_3 ?_
  refine g_iload_n hc dX13_leafAt_4 rfl ?_
  refine g_iadd hc dX13_leafAt_5 ?_
  refine g_bipush hc dX13_leafAt_6 (by decide +kernel) ?_
  refine g_imul hc dX13_leafAt_8 ?_
  refine g_iret hc hm dX13_leafAt_9 ?_
  first | (exfalso; omega) | exact ⟨rfl, rfl, rfl, rfl, rfl⟩ | exact ⟨by rw [g_b1 (by omega)], rfl, rfl, rfl, rfl⟩ | exact ⟨by rw [g_b0 (by omega)], rfl, rfl, rfl, rfl⟩
set_option maxHeartbeats 4000000 in
set_option maxRecDepth 100000 in
/-- X13_forkAt -/
theorem c_X13_forkAt (w : g_W) {I : g_I} {J : g_J} {R : g_R} {j s : Int} : g_Met w g_n I J R yX13_forkAt cX13_forkAt 3 (some .int) 0 0 0 [(gvr w 703), (gvI j), (gvI s)] (g_post (some (gvI ((j * 18 + s) * 5))) g_n I J R) := by
  refine g_intro (own := RX13) [some (gvr w 703), some (gvI j), some (gvI s)] (by decide +kernel) rfl (by decide) (Nat.le_of_ble_eq_true rfl) rfl (fun i v hv => g_args 0 i v hv rfl) (fun x hc hm => ?_)
  refine g_iload_n hc dX13_forkAt_0 rfl ?_
  refine g_bipush hc dX13_forkAt_1 (by decide +kernel) ?_
  refine g_imul hc dX13_forkAt_3 ?_
  refine g_iload_n hc dX13_forkAt_4 rfl ?_
  refine g_iadd hc dX13_forkAt_5 ?_
  refine g_iconst hc dX13_forkAt_6 ?_
  refine g_imul hc dX13_forkAt_7 ?_
  refine g_iret hc hm dX13_forkAt_8 ?_
  first | (exfalso; omega) | exact ⟨rfl, rfl, rfl, rfl, rfl⟩ | exact ⟨by rw [g_b1 (by omega)], rfl, rfl, rfl, rfl⟩ | exact ⟨by rw [g_b0 (by omega)], rfl, rfl, rfl, rfl⟩
set_option maxHeartbeats 4000000 in
set_option maxRecDepth 100000 in
/-- X13_branchAt -/
theorem c_X13_branchAt (w : g_W) {I : g_I} {J : g_J} {R : g_R} {j s r : Int} : g_Met w g_n I J R yX13_branchAt cX13_branchAt 4 (some .int) 0 0 0 [(gvr w 703), (gvI j), (gvI s), (gvI r)] (g_post (some (gvI (((j * 18 + s) * 4 + r) * 6))) g_n I J R) := by
  refine g_intro (own := RX13) [some (gvr w 703), some (gvI j), some (gvI s), some (gvI r)] (by decide +kernel) rfl (by decide) (Nat.le_of_ble_eq_true rfl) rfl (fun i v hv => g_args 0 i v hv rfl) (fun x hc hm => ?_)
  refine g_iload_n hc dX13_branchAt_0 rfl ?_
  refine g_bipush hc dX13_branchAt_1 (by decide +kernel) ?_
  refine g_imul hc dX13_branchAt_3 ?_
  refine g_iload_n hc dX13_branchAt_4 rfl ?_
  refine g_iadd hc dX13_branchAt_5 ?_
  refine g_iconst hc dX13_branchAt_6 ?_
  refine g_imul hc dX13_branchAt_7 ?_
  refine g_iload_n hc dX13_branchAt_8 rfl ?_
  refine g_iadd hc dX13_branchAt_9 ?_
  refine g_bipush hc dX13_branchAt_10 (by decide +kernel) ?_
  refine g_imul hc dX13_branchAt_12 ?_
  refine g_iret hc hm dX13_branchAt_13 ?_
  first | (exfalso; omega) | exact ⟨rfl, rfl, rfl, rfl, rfl⟩ | exact ⟨by rw [g_b1 (by omega)], rfl, rfl, rfl, rfl⟩ | exact ⟨by rw [g_b0 (by omega)], rfl, rfl, rfl, rfl⟩
set_option maxHeartbeats 4000000 in
set_option maxRecDepth 100000 in
/-- X13_isSelf -/
theorem c_X13_isSelf (w : g_W) {I : g_I} {J : g_J} {R : g_R} {lb tx : Nat} (hR : g_rf w R lb tx) {M : g_I} (hmM : q_rel I lb M) {s : Int} (h1 : g32 s) : g_Met w g_n M J R yX13_isSelf cX13_isSelf 2 (some .boolean) 1 0 0 [(gvr w 703), (gvI s)] (g_post (some (gvI (g_b (0 ≤ s ∧ s < I lb 0)))) g_n M J R) := by
  refine g_intro (own := RX13) [some (gvr w 703), some (gvI s)] (by decide +kernel) rfl (by decide) (Nat.le_of_ble_eq_true rfl) rfl (fun i v hv => g_args 0 i v hv rfl) (fun x hc hm => ?_)
  have hfM : ∀ (k : Nat) (j : Int), ¬ x_a k j → M k j = M k j := fun _ _ _ => rfl
  have hI := hmM.gi
  have hTb := q_b1 hmM
  have hLv := hmM.lv
  have hC := hmM.cin
  have hL := hC.1
  obtain ⟨hn0, hn1, hLs, hLf⟩ := id hL
  obtain ⟨-, hC1, hC2, hC3, hC4, hC5, hC6, hC7⟩ := id hC
  have hN0 := q_n0 hmM
  refine g_aldn hc dX13_isSelf_0 rfl ?_
  refine g_getIe hc lk_X13_52 ca_703 24 rfl (show M 703 24 = I 0 12 from hmM.tab) dX13_isSelf_1 ?_
  refine g_iconst hc dX13_isSelf_4 ?_
  refine g_icmp_eq (tgt := 33) hc dX13_isSelf_5 (by decide) (by first | exact hI _ _ | exact hxI2 _ _ | exact hIa _ _ | exact hIb _ _ | exact g_b32 | exact g_and32 | assumption | exact ⟨by omega, by omega⟩) (by first | exact hI _ _ | exact hxI2 _ _ | exact hIa _ _ | exact hIb _ _ | exact g_b32 | exact g_and32 | assumption | exact ⟨by omega, by omega⟩) (fun c1 => ?_) (fun c1 => ?_)
  · skip
    refine g_iconst hc dX13_isSelf_33 ?_
    refine g_zret hc hm (by first | exact g_b01 | omega) dX13_isSelf_34 ?_
    first | (exfalso; omega) | (exfalso; omega) | exact ⟨by rw [g_b1 (by first | (exfalso; omega) | assumption | omega)], rfl, rfl, rfl, rfl⟩ | exact ⟨by rw [g_b0 (by first | (exfalso; omega) | assumption | omega)], rfl, rfl, rfl, rfl⟩
  · skip
    refine g_iload_n hc dX13_isSelf_8 rfl ?_
    refine g_i2l hc dX13_isSelf_9 (by first | exact hI _ _ | exact hxI2 _ _ | exact hIa _ _ | exact hIb _ _ | exact g_b32 | exact g_and32 | assumption | exact ⟨by omega, by omega⟩) ?_
    refine g_lconst hc dX13_isSelf_10 0 (by decide +kernel) ?_
    refine g_aldn hc dX13_isSelf_11 rfl ?_
    refine g_getRk hc lk_X13_46 ca_703 (rc_703_21 hR) dX13_isSelf_12 ?_
    refine g_aldn hc dX13_isSelf_15 rfl ?_
    refine g_getIe hc lk_X13_52 ca_703 24 rfl (show M 703 24 = I 0 12 from hmM.tab) dX13_isSelf_16 ?_
    refine g_ialde hc ca_711 (by decide) (by omega) (by omega) (show M 711 (I 0 12) = I lb 0 from q_lm hmM (by omega)) dX13_isSelf_19 ?_
    refine g_iconst hc dX13_isSelf_20 ?_
    refine g_isub hc dX13_isSelf_21 ?_
    refine g_i2l hc dX13_isSelf_22 (by first | exact hI _ _ | exact hxI2 _ _ | exact hIa _ _ | exact hIb _ _ | exact g_b32 | exact g_and32 | assumption | exact ⟨by omega, by omega⟩) ?_
    refine g_S3r hc (c_X13_isIn w (by first | exact hI _ _ | exact hmM.g _ _ | exact g_b32 | exact g_and32 | exact g_or32 | exact g_shl32 | assumption | exact ⟨by omega, by omega⟩) (by first | exact hI _ _ | exact hmM.g _ _ | exact g_b32 | exact g_and32 | exact g_or32 | exact g_shl32 | assumption | exact ⟨by omega, by omega⟩) (by first | exact hI _ _ | exact hmM.g _ _ | exact g_b32 | exact g_and32 | exact g_or32 | exact g_shl32 | assumption | exact ⟨by omega, by omega⟩)) my_X13_isIn ms_X13_isIn lm_X13_231 rfl (by decide) (Nat.le_of_ble_eq_true rfl) hm dX13_isSelf_23 ?_
    refine g_ifb_eq (tgt := 33) hc dX13_isSelf_26 (by decide)  (fun c2 => ?_) (fun c2 => ?_)
    · skip
      refine g_iconst hc dX13_isSelf_33 ?_
      refine g_zret hc hm (by first | exact g_b01 | omega) dX13_isSelf_34 ?_
      first | (exfalso; omega) | (exfalso; omega) | exact ⟨by rw [g_b1 (by first | (exfalso; omega) | assumption | omega)], rfl, rfl, rfl, rfl⟩ | exact ⟨by rw [g_b0 (by first | (exfalso; omega) | assumption | omega)], rfl, rfl, rfl, rfl⟩
    · skip
      refine g_iconst hc dX13_isSelf_29 ?_
      refine g_goto (tgt := 34) hc dX13_isSelf_30 (by decide) ?_
      refine g_zret hc hm (by first | exact g_b01 | omega) dX13_isSelf_34 ?_
      first | (exfalso; omega) | (exfalso; omega) | exact ⟨by rw [g_b1 (by first | (exfalso; omega) | assumption | omega)], rfl, rfl, rfl, rfl⟩ | exact ⟨by rw [g_b0 (by first | (exfalso; omega) | assumption | omega)], rfl, rfl, rfl, rfl⟩
set_option maxHeartbeats 4000000 in
set_option maxRecDepth 100000 in
/-- X13_isFork -/
theorem c_X13_isFork (w : g_W) {I : g_I} {J : g_J} {R : g_R} {lb tx : Nat} (hR : g_rf w R lb tx) {M : g_I} (hmM : q_rel I lb M) {s : Int} (h1 : g32 s) : g_Met w g_n M J R yX13_isFork cX13_isFork 2 (some .boolean) 1 0 0 [(gvr w 703), (gvI s)] (g_post (some (gvI (g_b (0 ≤ s ∧ s < I lb 1)))) g_n M J R) := by
  refine g_intro (own := RX13) [some (gvr w 703), some (gvI s)] (by decide +kernel) rfl (by decide) (Nat.le_of_ble_eq_true rfl) rfl (fun i v hv => g_args 0 i v hv rfl) (fun x hc hm => ?_)
  have hfM : ∀ (k : Nat) (j : Int), ¬ x_a k j → M k j = M k j := fun _ _ _ => rfl
  have hI := hmM.gi
  have hTb := q_b1 hmM
  have hLv := hmM.lv
  have hC := hmM.cin
  have hL := hC.1
  obtain ⟨hn0, hn1, hLs, hLf⟩ := id hL
  obtain ⟨-, hC1, hC2, hC3, hC4, hC5, hC6, hC7⟩ := id hC
  have hN0 := q_n0 hmM
  refine g_aldn hc dX13_isFork_0 rfl ?_
  refine g_getIe hc lk_X13_52 ca_703 24 rfl (show M 703 24 = I 0 12 from hmM.tab) dX13_isFork_1 ?_
  refine g_iconst hc dX13_isFork_4 ?_
  refine g_icmp_eq (tgt := 33) hc dX13_isFork_5 (by decide) (by first | exact hI _ _ | exact hxI2 _ _ | exact hIa _ _ | exact hIb _ _ | exact g_b32 | exact g_and32 | assumption | exact ⟨by omega, by omega⟩) (by first | exact hI _ _ | exact hxI2 _ _ | exact hIa _ _ | exact hIb _ _ | exact g_b32 | exact g_and32 | assumption | exact ⟨by omega, by omega⟩) (fun c1 => ?_) (fun c1 => ?_)
  · skip
    refine g_iconst hc dX13_isFork_33 ?_
    refine g_zret hc hm (by first | exact g_b01 | omega) dX13_isFork_34 ?_
    first | (exfalso; omega) | (exfalso; omega) | exact ⟨by rw [g_b1 (by first | (exfalso; omega) | assumption | omega)], rfl, rfl, rfl, rfl⟩ | exact ⟨by rw [g_b0 (by first | (exfalso; omega) | assumption | omega)], rfl, rfl, rfl, rfl⟩
  · skip
    refine g_iload_n hc dX13_isFork_8 rfl ?_
    refine g_i2l hc dX13_isFork_9 (by first | exact hI _ _ | exact hxI2 _ _ | exact hIa _ _ | exact hIb _ _ | exact g_b32 | exact g_and32 | assumption | exact ⟨by omega, by omega⟩) ?_
    refine g_lconst hc dX13_isFork_10 0 (by decide +kernel) ?_
    refine g_aldn hc dX13_isFork_11 rfl ?_
    refine g_getRk hc lk_X13_49 ca_703 (rc_703_22 hR) dX13_isFork_12 ?_
    refine g_aldn hc dX13_isFork_15 rfl ?_
    refine g_getIe hc lk_X13_52 ca_703 24 rfl (show M 703 24 = I 0 12 from hmM.tab) dX13_isFork_16 ?_
    refine g_ialde hc ca_712 (by decide) (by omega) (by omega) (show M 712 (I 0 12) = I lb 1 from q_fm hmM (by omega)) dX13_isFork_19 ?_
    refine g_iconst hc dX13_isFork_20 ?_
    refine g_isub hc dX13_isFork_21 ?_
    refine g_i2l hc dX13_isFork_22 (by first | exact hI _ _ | exact hxI2 _ _ | exact hIa _ _ | exact hIb _ _ | exact g_b32 | exact g_and32 | assumption | exact ⟨by omega, by omega⟩) ?_
    refine g_S3r hc (c_X13_isIn w (by first | exact hI _ _ | exact hmM.g _ _ | exact g_b32 | exact g_and32 | exact g_or32 | exact g_shl32 | assumption | exact ⟨by omega, by omega⟩) (by first | exact hI _ _ | exact hmM.g _ _ | exact g_b32 | exact g_and32 | exact g_or32 | exact g_shl32 | assumption | exact ⟨by omega, by omega⟩) (by first | exact hI _ _ | exact hmM.g _ _ | exact g_b32 | exact g_and32 | exact g_or32 | exact g_shl32 | assumption | exact ⟨by omega, by omega⟩)) my_X13_isIn ms_X13_isIn lm_X13_231 rfl (by decide) (Nat.le_of_ble_eq_true rfl) hm dX13_isFork_23 ?_
    refine g_ifb_eq (tgt := 33) hc dX13_isFork_26 (by decide)  (fun c2 => ?_) (fun c2 => ?_)
    · skip
      refine g_iconst hc dX13_isFork_33 ?_
      refine g_zret hc hm (by first | exact g_b01 | omega) dX13_isFork_34 ?_
      first | (exfalso; omega) | (exfalso; omega) | exact ⟨by rw [g_b1 (by first | (exfalso; omega) | assumption | omega)], rfl, rfl, rfl, rfl⟩ | exact ⟨by rw [g_b0 (by first | (exfalso; omega) | assumption | omega)], rfl, rfl, rfl, rfl⟩
    · skip
      refine g_iconst hc dX13_isFork_29 ?_
      refine g_goto (tgt := 34) hc dX13_isFork_30 (by decide) ?_
      refine g_zret hc hm (by first | exact g_b01 | omega) dX13_isFork_34 ?_
      first | (exfalso; omega) | (exfalso; omega) | exact ⟨by rw [g_b1 (by first | (exfalso; omega) | assumption | omega)], rfl, rfl, rfl, rfl⟩ | exact ⟨by rw [g_b0 (by first | (exfalso; omega) | assumption | omega)], rfl, rfl, rfl, rfl⟩
set_option maxHeartbeats 4000000 in
set_option maxRecDepth 100000 in
/-- X13_isBranch -/
theorem c_X13_isBranch (w : g_W) {I : g_I} {J : g_J} {R : g_R} {lb tx : Nat} (hR : g_rf w R lb tx) {M : g_I} (hmM : q_rel I lb M) {f r : Int} (h1 : g32 f) (h2 : g32 r) : g_Met w g_n M J R yX13_isBranch cX13_isBranch 3 (some .boolean) 2 0 0 [(gvr w 703), (gvI f), (gvI r)] (g_post (some (gvI (g_b ((0 ≤ f ∧ f < I lb 1) ∧ 0 ≤ r ∧ r < I (lb + 43) f)))) g_n M J R) := by
  refine g_intro (own := RX13) [some (gvr w 703), some (gvI f), some (gvI r)] (by decide +kernel) rfl (by decide) (Nat.le_of_ble_eq_true rfl) rfl (fun i v hv => g_args 0 i v hv rfl) (fun x hc hm => ?_)
  have hfM : ∀ (k : Nat) (j : Int), ¬ x_a k j → M k j = M k j := fun _ _ _ => rfl
  have hI := hmM.gi
  have hTb := q_b1 hmM
  have hLv := hmM.lv
  have hC := hmM.cin
  have hL := hC.1
  obtain ⟨hn0, hn1, hLs, hLf⟩ := id hL
  obtain ⟨-, hC1, hC2, hC3, hC4, hC5, hC6, hC7⟩ := id hC
  have hN0 := q_n0 hmM
  refine g_aldn hc dX13_isBranch_0 rfl ?_
  refine g_iload_n hc dX13_isBranch_1 rfl ?_
  refine g_V1r hc (c_X13_isFork w hR hmM (by first | exact hI _ _ | exact hmM.g _ _ | exact g_b32 | exact g_and32 | exact g_or32 | exact g_shl32 | assumption | exact ⟨by omega, by omega⟩)) my_X13_isFork mv_X13_isFork ca_703 rfl rfl lm_X13_304 rfl (by decide) (Nat.le_of_ble_eq_true rfl) hm dX13_isBranch_2 ?_
  refine g_ifb_eq (tgt := 40) hc dX13_isBranch_5 (by decide)  (fun c1 => ?_) (fun c1 => ?_)
  · skip
    refine g_iconst hc dX13_isBranch_40 ?_
    refine g_zret hc hm (by first | exact g_b01 | omega) dX13_isBranch_41 ?_
    first | (exfalso; omega) | (exfalso; omega) | exact ⟨by rw [g_b1 (by first | (exfalso; omega) | assumption | omega)], rfl, rfl, rfl, rfl⟩ | exact ⟨by rw [g_b0 (by first | (exfalso; omega) | assumption | omega)], rfl, rfl, rfl, rfl⟩
  · skip
    have hTs := q_ts hmM (by omega)
    obtain ⟨hk2, hk1, hy, hit⟩ := hLf f (by omega) (by omega)
    refine g_iload_n hc dX13_isBranch_8 rfl ?_
    refine g_i2l hc dX13_isBranch_9 (by first | exact hI _ _ | exact hxI2 _ _ | exact hIa _ _ | exact hIb _ _ | exact g_b32 | exact g_and32 | assumption | exact ⟨by omega, by omega⟩) ?_
    refine g_lconst hc dX13_isBranch_10 0 (by decide +kernel) ?_
    refine g_aldn hc dX13_isBranch_11 rfl ?_
    refine g_getRk hc lk_X13_40 ca_703 (rc_703_19 hR) dX13_isBranch_12 ?_
    refine g_aldn hc dX13_isBranch_15 rfl ?_
    refine g_aldn hc dX13_isBranch_16 rfl ?_
    refine g_getIe hc lk_X13_52 ca_703 24 rfl (show M 703 24 = I 0 12 from hmM.tab) dX13_isBranch_17 ?_
    refine g_iload_n hc dX13_isBranch_20 rfl ?_
    refine g_V2r hc (c_X13_forkAt w) my_X13_forkAt mv_X13_forkAt ca_703 rfl rfl lm_X13_249 rfl (by decide) (Nat.le_of_ble_eq_true rfl) hm dX13_isBranch_21 ?_
    refine g_iconst hc dX13_isBranch_24 ?_
    refine g_iadd hc dX13_isBranch_25 ?_
    refine g_ialde hc ca_709 (by decide) (by omega) (by omega) (show M 709 ((((I 0 12) * 18 + f) * 5) + 2) = I (lb + 43) f from q_bm hmM (by omega)) dX13_isBranch_26 ?_
    refine g_iconst hc dX13_isBranch_27 ?_
    refine g_isub hc dX13_isBranch_28 ?_
    refine g_i2l hc dX13_isBranch_29 (by first | exact hI _ _ | exact hxI2 _ _ | exact hIa _ _ | exact hIb _ _ | exact g_b32 | exact g_and32 | assumption | exact ⟨by omega, by omega⟩) ?_
    refine g_S3r hc (c_X13_isIn w (by first | exact hI _ _ | exact hmM.g _ _ | exact g_b32 | exact g_and32 | exact g_or32 | exact g_shl32 | assumption | exact ⟨by omega, by omega⟩) (by first | exact hI _ _ | exact hmM.g _ _ | exact g_b32 | exact g_and32 | exact g_or32 | exact g_shl32 | assumption | exact ⟨by omega, by omega⟩) (by first | exact hI _ _ | exact hmM.g _ _ | exact g_b32 | exact g_and32 | exact g_or32 | exact g_shl32 | assumption | exact ⟨by omega, by omega⟩)) my_X13_isIn ms_X13_isIn lm_X13_231 rfl (by decide) (Nat.le_of_ble_eq_true rfl) hm dX13_isBranch_30 ?_
    refine g_ifb_eq (tgt := 40) hc dX13_isBranch_33 (by decide)  (fun c2 => ?_) (fun c2 => ?_)
    · skip
      refine g_iconst hc dX13_isBranch_40 ?_
      refine g_zret hc hm (by first | exact g_b01 | omega) dX13_isBranch_41 ?_
      first | (exfalso; omega) | (exfalso; omega) | exact ⟨by rw [g_b1 (by first | (exfalso; omega) | assumption | omega)], rfl, rfl, rfl, rfl⟩ | exact ⟨by rw [g_b0 (by first | (exfalso; omega) | assumption | omega)], rfl, rfl, rfl, rfl⟩
    · skip
      refine g_iconst hc dX13_isBranch_36 ?_
      refine g_goto (tgt := 41) hc dX13_isBranch_37 (by decide) ?_
      refine g_zret hc hm (by first | exact g_b01 | omega) dX13_isBranch_41 ?_
      first | (exfalso; omega) | (exfalso; omega) | exact ⟨by rw [g_b1 (by first | (exfalso; omega) | assumption | omega)], rfl, rfl, rfl, rfl⟩ | exact ⟨by rw [g_b0 (by first | (exfalso; omega) | assumption | omega)], rfl, rfl, rfl, rfl⟩
set_option maxHeartbeats 4000000 in
set_option maxRecDepth 100000 in
/-- X13_isTaste -/
theorem c_X13_isTaste (w : g_W) {I : g_I} {J : g_J} {R : g_R} {lb tx : Nat} (hR : g_rf w R lb tx) {M : g_I} (hmM : q_rel I lb M) {t : Int} (h1 : g32 t) : g_Met w g_n M J R yX13_isTaste cX13_isTaste 2 (some .boolean) 1 0 0 [(gvr w 703), (gvI t)] (g_post (some (gvI (g_b (0 ≤ t ∧ t < I 0 11)))) g_n M J R) := by
  refine g_intro (own := RX13) [some (gvr w 703), some (gvI t)] (by decide +kernel) rfl (by decide) (Nat.le_of_ble_eq_true rfl) rfl (fun i v hv => g_args 0 i v hv rfl) (fun x hc hm => ?_)
  have hfM : ∀ (k : Nat) (j : Int), ¬ x_a k j → M k j = M k j := fun _ _ _ => rfl
  have hI := hmM.gi
  have hTb := q_b1 hmM
  have hLv := hmM.lv
  have hC := hmM.cin
  have hL := hC.1
  obtain ⟨hn0, hn1, hLs, hLf⟩ := id hL
  obtain ⟨-, hC1, hC2, hC3, hC4, hC5, hC6, hC7⟩ := id hC
  refine g_iload_n hc dX13_isTaste_0 rfl ?_
  refine g_i2l hc dX13_isTaste_1 (by first | exact hI _ _ | exact hxI2 _ _ | exact hIa _ _ | exact hIb _ _ | exact g_b32 | exact g_and32 | assumption | exact ⟨by omega, by omega⟩) ?_
  refine g_lconst hc dX13_isTaste_2 0 (by decide +kernel) ?_
  refine g_aldn hc dX13_isTaste_3 rfl ?_
  refine g_getIe hc lk_X13_284 ca_703 7 rfl (show M 703 7 = I 0 11 from hmM.tas) dX13_isTaste_4 ?_
  refine g_iconst hc dX13_isTaste_7 ?_
  refine g_isub hc dX13_isTaste_8 ?_
  refine g_i2l hc dX13_isTaste_9 (by first | exact hI _ _ | exact hxI2 _ _ | exact hIa _ _ | exact hIb _ _ | exact g_b32 | exact g_and32 | assumption | exact ⟨by omega, by omega⟩) ?_
  refine g_S3r hc (c_X13_isIn w (by first | exact hI _ _ | exact hmM.g _ _ | exact g_b32 | exact g_and32 | exact g_or32 | exact g_shl32 | assumption | exact ⟨by omega, by omega⟩) (by first | exact hI _ _ | exact hmM.g _ _ | exact g_b32 | exact g_and32 | exact g_or32 | exact g_shl32 | assumption | exact ⟨by omega, by omega⟩) (by first | exact hI _ _ | exact hmM.g _ _ | exact g_b32 | exact g_and32 | exact g_or32 | exact g_shl32 | assumption | exact ⟨by omega, by omega⟩)) my_X13_isIn ms_X13_isIn lm_X13_231 rfl (by decide) (Nat.le_of_ble_eq_true rfl) hm dX13_isTaste_10 ?_
  refine g_zret hc hm (by first | exact g_b01 | omega) dX13_isTaste_13 ?_
  exact ⟨by congr 2; exact g_b_iff (by omega), rfl, rfl, rfl, rfl⟩
set_option maxHeartbeats 4000000 in
set_option maxRecDepth 100000 in
/-- X13_isLaw -/
theorem c_X13_isLaw (w : g_W) {I : g_I} {J : g_J} {R : g_R} {lb tx : Nat} (hR : g_rf w R lb tx) {M : g_I} (hmM : q_rel I lb M) {k : Int} : g_Met w g_n M J R yX13_isLaw cX13_isLaw 2 (some .boolean) 1 0 0 [(gvr w 703), (gvI k)] (g_post (some (gvI (g_b (g_bit (I 550 3) k)))) g_n M J R) := by
  refine g_intro (own := RX13) [some (gvr w 703), some (gvI k)] (by decide +kernel) rfl (by decide) (Nat.le_of_ble_eq_true rfl) rfl (fun i v hv => g_args 0 i v hv rfl) (fun x hc hm => ?_)
  have hfM : ∀ (k : Nat) (j : Int), ¬ x_a k j → M k j = M k j := fun _ _ _ => rfl
  have hI := hmM.gi
  have hTb := q_b1 hmM
  have hLv := hmM.lv
  have hC := hmM.cin
  have hL := hC.1
  obtain ⟨hn0, hn1, hLs, hLf⟩ := id hL
  obtain ⟨-, hC1, hC2, hC3, hC4, hC5, hC6, hC7⟩ := id hC
  refine g_aldn hc dX13_isLaw_0 rfl ?_
  refine g_getRk hc lk_X13_60 ca_703 (rc_703_26 hR) dX13_isLaw_1 ?_
  refine g_iconst hc dX13_isLaw_4 ?_
  refine g_ialde hc ca_714 (by decide) (by omega) (by omega) (show M 714 3 = I 550 3 from hmM.told (by omega)) dX13_isLaw_5 ?_
  refine g_iload_n hc dX13_isLaw_6 rfl ?_
  refine g_S2r hc (c_X13_has w) my_X13_has ms_X13_has lm_X13_224 rfl (by decide) (Nat.le_of_ble_eq_true rfl) hm dX13_isLaw_7 ?_
  refine g_zret hc hm (by first | exact g_b01 | omega) dX13_isLaw_10 ?_
  first | (exfalso; omega) | exact ⟨rfl, rfl, rfl, rfl, rfl⟩ | exact ⟨by rw [g_b1 (by omega)], rfl, rfl, rfl, rfl⟩ | exact ⟨by rw [g_b0 (by omega)], rfl, rfl, rfl, rfl⟩
set_option maxHeartbeats 4000000 in
set_option maxRecDepth 100000 in
/-- X13_dead -/
theorem c_X13_dead (w : g_W) {I : g_I} {J : g_J} {R : g_R} {lb tx : Nat} (hR : g_rf w R lb tx) {M : g_I} (hmM : q_rel I lb M) {s : Int} (h1 : 0 ≤ s ∧ s < I lb 0) : g_Met w g_n M J R yX13_dead cX13_dead 2 (some .int) 1 0 0 [(gvr w 703), (gvI s)] (g_post (some (gvI (I (lb + 2 + s.toNat) 4))) g_n M J R) := by
  refine g_intro (own := RX13) [some (gvr w 703), some (gvI s)] (by decide +kernel) rfl (by decide) (Nat.le_of_ble_eq_true rfl) rfl (fun i v hv => g_args 0 i v hv rfl) (fun x hc hm => ?_)
  have hfM : ∀ (k : Nat) (j : Int), ¬ x_a k j → M k j = M k j := fun _ _ _ => rfl
  have hI := hmM.gi
  have hTb := q_b1 hmM
  have hLv := hmM.lv
  have hC := hmM.cin
  have hL := hC.1
  obtain ⟨hn0, hn1, hLs, hLf⟩ := id hL
  obtain ⟨-, hC1, hC2, hC3, hC4, hC5, hC6, hC7⟩ := id hC
  have hTs := q_ts hmM (by omega)
  refine g_aldn hc dX13_dead_0 rfl ?_
  refine g_getRk hc lk_X13_37 ca_703 (rc_703_18 hR) dX13_dead_1 ?_
  refine g_aldn hc dX13_dead_4 rfl ?_
  refine g_aldn hc dX13_dead_5 rfl ?_
  refine g_getIe hc lk_X13_52 ca_703 24 rfl (show M 703 24 = I 0 12 from hmM.tab) dX13_dead_6 ?_
  refine g_iload_n hc dX13_dead_9 rfl ?_
  refine g_V2r hc (c_X13_leafAt w) my_X13_leafAt mv_X13_leafAt ca_703 rfl rfl lm_X13_235 rfl (by decide) (Nat.le_of_ble_eq_true rfl) hm dX13_dead_10 ?_
  refine g_iconst hc dX13_dead_13 ?_
  refine g_iadd hc dX13_dead_14 ?_
  refine g_ialde hc ca_708 (by decide) (by omega) (by omega) (show M 708 ((((I 0 12) * 12 + s) * 7) + 3) = I (lb + 2 + s.toNat) 4 from q_l3 hmM (by omega)) dX13_dead_15 ?_
  refine g_iret hc hm dX13_dead_16 ?_
  first | (exfalso; omega) | exact ⟨rfl, rfl, rfl, rfl, rfl⟩ | exact ⟨by rw [g_b1 (by omega)], rfl, rfl, rfl, rfl⟩ | exact ⟨by rw [g_b0 (by omega)], rfl, rfl, rfl, rfl⟩
set_option maxHeartbeats 4000000 in
set_option maxRecDepth 100000 in
/-- X13_openMany -/
theorem c_X13_openMany (w : g_W) {I : g_I} {J : g_J} {R : g_R} {lb tx : Nat} (hR : g_rf w R lb tx) {M : g_I} (hmM : q_rel I lb M) {f : Int} (h1 : 0 ≤ f ∧ f < I lb 1) : g_Met w g_n M J R yX13_openMany cX13_openMany 4 (some .int) 1 0 0 [(gvr w 703), (gvI f)] (g_post (some (gvI (g_bc (I 550 (4 + f))))) g_n M J R) := by
  refine g_intro (own := RX13) [some (gvr w 703), some (gvI f), none, none] (by decide +kernel) rfl (by decide) (Nat.le_of_ble_eq_true rfl) rfl (fun i v hv => g_args 2 i v hv rfl) (fun x hc hm => ?_)
  have hfM : ∀ (k : Nat) (j : Int), ¬ x_a k j → M k j = M k j := fun _ _ _ => rfl
  have hI := hmM.gi
  have hTb := q_b1 hmM
  have hLv := hmM.lv
  have hC := hmM.cin
  have hL := hC.1
  obtain ⟨hn0, hn1, hLs, hLf⟩ := id hL
  obtain ⟨-, hC1, hC2, hC3, hC4, hC5, hC6, hC7⟩ := id hC
  have hTs := q_ts hmM (by omega)
  obtain ⟨hk2, hk1, hy, hit⟩ := hLf f h1.1 h1.2
  have hmk := hmM.msk h1
  have hm15 := hC7 f h1.1 h1.2
  refine g_iconst hc dX13_openMany_0 ?_
  refine g_istore_2 hc dX13_openMany_1 rfl ?_
  refine g_iconst hc dX13_openMany_2 ?_
  refine g_istore_3 hc dX13_openMany_3 rfl ?_
  have lp_4 : ∀ (fu : Nat) (a i : Int), 0 ≤ i ∧ i ≤ I (lb + 43) f → a = q_bn (I 550 (4 + f)) i.toNat → I (lb + 43) f - i < (fu : Int) → G w x (g_post (some (gvI (g_bc (I 550 (4 + f))))) g_n M J R) 0 0 g_n M J R 4 [some (gvr w 703), some (gvI f), some (gvI a), some (gvI i)] [] := by
    intro fu
    induction fu with
    | zero => intro a i h3 h4 hfu; exfalso; omega
    | succ fu ih =>
      intro a i h3 h4 hfu
      have ih_4 := ih
      refine g_iload_n hc dX13_openMany_4 rfl ?_
      refine g_aldn hc dX13_openMany_5 rfl ?_
      refine g_getRk hc lk_X13_40 ca_703 (rc_703_19 hR) dX13_openMany_6 ?_
      refine g_aldn hc dX13_openMany_9 rfl ?_
      refine g_aldn hc dX13_openMany_10 rfl ?_
      refine g_getIe hc lk_X13_52 ca_703 24 rfl (show M 703 24 = I 0 12 from hmM.tab) dX13_openMany_11 ?_
      refine g_iload_n hc dX13_openMany_14 rfl ?_
      refine g_V2r hc (c_X13_forkAt w) my_X13_forkAt mv_X13_forkAt ca_703 rfl rfl lm_X13_249 rfl (by decide) (Nat.le_of_ble_eq_true rfl) hm dX13_openMany_15 ?_
      refine g_iconst hc dX13_openMany_18 ?_
      refine g_iadd hc dX13_openMany_19 ?_
      refine g_ialde hc ca_709 (by decide) (by omega) (by omega) (show M 709 ((((I 0 12) * 18 + f) * 5) + 2) = I (lb + 43) f from q_bm hmM (by omega)) dX13_openMany_20 ?_
      refine g_icmp_ge (tgt := 51) hc dX13_openMany_21 (by decide) (by first | exact hI _ _ | exact hxI2 _ _ | exact hIa _ _ | exact hIb _ _ | exact g_b32 | exact g_and32 | assumption | exact ⟨by omega, by omega⟩) (by first | exact hI _ _ | exact hxI2 _ _ | exact hIa _ _ | exact hIb _ _ | exact g_b32 | exact g_and32 | assumption | exact ⟨by omega, by omega⟩) (fun c1 => ?_) (fun c1 => ?_)
      · skip
        refine g_iload_n hc dX13_openMany_51 rfl ?_
        refine g_iret hc hm dX13_openMany_52 ?_
        exact g_postE (by rw [h4, show i = I (lb + 43) f by omega, q_bn_bc (by omega) (by omega) hmk])
      · skip
        refine g_iload_n hc dX13_openMany_24 rfl ?_
        refine g_aldn hc dX13_openMany_25 rfl ?_
        refine g_getRk hc lk_X13_56 ca_703 (rc_703_25 hR) dX13_openMany_26 ?_
        refine g_iconst hc dX13_openMany_29 ?_
        refine g_iload_n hc dX13_openMany_30 rfl ?_
        refine g_imul hc dX13_openMany_31 ?_
        refine g_iload_n hc dX13_openMany_32 rfl ?_
        refine g_iadd hc dX13_openMany_33 ?_
        refine g_zalde hc ca_713 (by decide) (by omega) (by omega) (show M 713 ((4 * f) + i) = g_b (g_bit (I 550 (4 + f)) i) from hmM.opn (by omega) (by omega)) dX13_openMany_34 ?_
        refine g_ifb_eq (tgt := 42) hc dX13_openMany_35 (by decide)  (fun c2 => ?_) (fun c2 => ?_)
        · skip
          refine g_iconst hc dX13_openMany_42 ?_
          refine g_iadd hc dX13_openMany_43 ?_
          refine g_istore_2 hc dX13_openMany_44 rfl ?_
          refine g_iinc_3 hc dX13_openMany_45 rfl ?_
          refine g_goto (tgt := 4) hc dX13_openMany_48 (by decide) ?_
          refine ih_4 _ _ ?_ ?_ ?_
          · omega
          · rw [q_bn_i h3.1, h4]; first | rw [if_pos (by assumption)] | rw [if_neg (by assumption), Int.add_zero] | rw [if_neg (by assumption)]
          · omega
        · skip
          refine g_iconst hc dX13_openMany_38 ?_
          refine g_goto (tgt := 43) hc dX13_openMany_39 (by decide) ?_
          refine g_iadd hc dX13_openMany_43 ?_
          refine g_istore_2 hc dX13_openMany_44 rfl ?_
          refine g_iinc_3 hc dX13_openMany_45 rfl ?_
          refine g_goto (tgt := 4) hc dX13_openMany_48 (by decide) ?_
          refine ih_4 _ _ ?_ ?_ ?_
          · omega
          · rw [q_bn_i h3.1, h4]; first | rw [if_pos (by assumption)] | rw [if_neg (by assumption), Int.add_zero] | rw [if_neg (by assumption)]
          · omega
  refine lp_4 5 _ _ ?_ ?_ (?_)
  · omega
  · rfl
  · omega
set_option maxHeartbeats 4000000 in
set_option maxRecDepth 100000 in
/-- X13_weights -/
theorem c_X13_weights (w : g_W) {I : g_I} {J : g_J} {R : g_R} {lb tx : Nat} (hR : g_rf w R lb tx) {M : g_I} (hmM : q_rel I lb M) {f : Int} (h1 : 0 ≤ f ∧ f < I lb 1) : g_Met w g_n M J R yX13_weights cX13_weights 4 (some .int) 1 0 0 [(gvr w 703), (gvI f)] (g_post (some (gvI (g_wt I lb f (I 550 (4 + f)) (I (lb + 43) f).toNat))) g_n M J R) := by
  refine g_intro (own := RX13) [some (gvr w 703), some (gvI f), none, none] (by decide +kernel) rfl (by decide) (Nat.le_of_ble_eq_true rfl) rfl (fun i v hv => g_args 2 i v hv rfl) (fun x hc hm => ?_)
  have hfM : ∀ (k : Nat) (j : Int), ¬ x_a k j → M k j = M k j := fun _ _ _ => rfl
  have hI := hmM.gi
  have hTb := q_b1 hmM
  have hLv := hmM.lv
  have hC := hmM.cin
  have hL := hC.1
  obtain ⟨hn0, hn1, hLs, hLf⟩ := id hL
  obtain ⟨-, hC1, hC2, hC3, hC4, hC5, hC6, hC7⟩ := id hC
  have hTs := q_ts hmM (by omega)
  obtain ⟨hk2, hk1, hy, hit⟩ := hLf f h1.1 h1.2
  refine g_iconst hc dX13_weights_0 ?_
  refine g_istore_2 hc dX13_weights_1 rfl ?_
  refine g_iconst hc dX13_weights_2 ?_
  refine g_istore_3 hc dX13_weights_3 rfl ?_
  have lp_4 : ∀ (fu : Nat) (a i : Int), 0 ≤ i ∧ i ≤ I (lb + 43) f → a = g_wt I lb f (I 550 (4 + f)) i.toNat → I (lb + 43) f - i < (fu : Int) → G w x (g_post (some (gvI (g_wt I lb f (I 550 (4 + f)) (I (lb + 43) f).toNat))) g_n M J R) 0 0 g_n M J R 4 [some (gvr w 703), some (gvI f), some (gvI a), some (gvI i)] [] := by
    intro fu
    induction fu with
    | zero => intro a i h3 h4 hfu; exfalso; omega
    | succ fu ih =>
      intro a i h3 h4 hfu
      have ih_4 := ih
      refine g_iload_n hc dX13_weights_4 rfl ?_
      refine g_aldn hc dX13_weights_5 rfl ?_
      refine g_getRk hc lk_X13_40 ca_703 (rc_703_19 hR) dX13_weights_6 ?_
      refine g_aldn hc dX13_weights_9 rfl ?_
      refine g_aldn hc dX13_weights_10 rfl ?_
      refine g_getIe hc lk_X13_52 ca_703 24 rfl (show M 703 24 = I 0 12 from hmM.tab) dX13_weights_11 ?_
      refine g_iload_n hc dX13_weights_14 rfl ?_
      refine g_V2r hc (c_X13_forkAt w) my_X13_forkAt mv_X13_forkAt ca_703 rfl rfl lm_X13_249 rfl (by decide) (Nat.le_of_ble_eq_true rfl) hm dX13_weights_15 ?_
      refine g_iconst hc dX13_weights_18 ?_
      refine g_iadd hc dX13_weights_19 ?_
      refine g_ialde hc ca_709 (by decide) (by omega) (by omega) (show M 709 ((((I 0 12) * 18 + f) * 5) + 2) = I (lb + 43) f from q_bm hmM (by omega)) dX13_weights_20 ?_
      refine g_icmp_ge (tgt := 65) hc dX13_weights_21 (by decide) (by first | exact hI _ _ | exact hxI2 _ _ | exact hIa _ _ | exact hIb _ _ | exact g_b32 | exact g_and32 | assumption | exact ⟨by omega, by omega⟩) (by first | exact hI _ _ | exact hxI2 _ _ | exact hIa _ _ | exact hIb _ _ | exact g_b32 | exact g_and32 | assumption | exact ⟨by omega, by omega⟩) (fun c1 => ?_) (fun c1 => ?_)
      · skip
        refine g_iload_n hc dX13_weights_65 rfl ?_
        refine g_iret hc hm dX13_weights_66 ?_
        exact g_postE (by rw [h4, show I (lb + 43) f = i by omega])
      · skip
        refine g_iload_n hc dX13_weights_24 rfl ?_
        refine g_aldn hc dX13_weights_25 rfl ?_
        refine g_getRk hc lk_X13_56 ca_703 (rc_703_25 hR) dX13_weights_26 ?_
        refine g_iconst hc dX13_weights_29 ?_
        refine g_iload_n hc dX13_weights_30 rfl ?_
        refine g_imul hc dX13_weights_31 ?_
        refine g_iload_n hc dX13_weights_32 rfl ?_
        refine g_iadd hc dX13_weights_33 ?_
        refine g_zalde hc ca_713 (by decide) (by omega) (by omega) (show M 713 ((4 * f) + i) = g_b (g_bit (I 550 (4 + f)) i) from hmM.opn (by omega) (by omega)) dX13_weights_34 ?_
        refine g_ifb_eq (tgt := 56) hc dX13_weights_35 (by decide)  (fun c2 => ?_) (fun c2 => ?_)
        · skip
          refine g_iconst hc dX13_weights_56 ?_
          refine g_iadd hc dX13_weights_57 ?_
          refine g_istore_2 hc dX13_weights_58 rfl ?_
          refine g_iinc_3 hc dX13_weights_59 rfl ?_
          refine g_goto (tgt := 4) hc dX13_weights_62 (by decide) ?_
          refine ih_4 _ _ ?_ ?_ ?_
          · omega
          · rw [g_wt, g_sum_i h3.1, h4]; first | rw [if_pos (by assumption)]; rfl | rw [if_neg (by assumption)]; rfl
          · omega
        · skip
          refine g_aldn hc dX13_weights_38 rfl ?_
          refine g_getRk hc lk_X13_43 ca_703 (rc_703_20 hR) dX13_weights_39 ?_
          refine g_aldn hc dX13_weights_42 rfl ?_
          refine g_aldn hc dX13_weights_43 rfl ?_
          refine g_getIe hc lk_X13_52 ca_703 24 rfl (show M 703 24 = I 0 12 from hmM.tab) dX13_weights_44 ?_
          refine g_iload_n hc dX13_weights_47 rfl ?_
          refine g_iload_n hc dX13_weights_48 rfl ?_
          refine g_V3r hc (c_X13_branchAt w) my_X13_branchAt mv_X13_branchAt ca_703 rfl rfl lm_X13_262 rfl (by decide) (Nat.le_of_ble_eq_true rfl) hm dX13_weights_49 ?_
          refine g_ialde hc ca_710 (by decide) (by omega) (by omega) (show M 710 ((((I 0 12) * 18 + f) * 4 + i) * 6) = I (lb + 47 + (f * 4 + i).toNat) 0 from q_b0 hmM (by omega) (by omega)) dX13_weights_52 ?_
          refine g_goto (tgt := 57) hc dX13_weights_53 (by decide) ?_
          refine g_iadd hc dX13_weights_57 ?_
          refine g_istore_2 hc dX13_weights_58 rfl ?_
          refine g_iinc_3 hc dX13_weights_59 rfl ?_
          refine g_goto (tgt := 4) hc dX13_weights_62 (by decide) ?_
          refine ih_4 _ _ ?_ ?_ ?_
          · omega
          · rw [g_wt, g_sum_i h3.1, h4]; first | rw [if_pos (by assumption)]; rfl | rw [if_neg (by assumption)]; rfl
          · omega
  refine lp_4 5 _ _ ?_ ?_ (?_)
  · omega
  · rfl
  · omega
set_option maxHeartbeats 4000000 in
set_option maxRecDepth 100000 in
/-- X13_layWay -/
theorem c_X13_layWay (w : g_W) {I : g_I} {J : g_J} {R : g_R} {lb tx : Nat} (hR : g_rf w R lb tx) {M : g_I} (hmM : q_rel I lb M) {jj s : Int} {b : Nat} (hq : q_lf I b M jj) (hj : 0 ≤ jj ∧ jj ≤ 2) (h1 : 0 ≤ s ∧ s < I b 0) : g_Met w g_n M J R yX13_layWay cX13_layWay 6 none 1 0 0 [(gvr w 703), (gvI jj), (gvI s)] (fun rr nn II JJ RR => x_rel w none x_w M J lb rr nn II JJ RR ∧ x_wy I b s II) := by
  refine g_intro (own := RX13) [some (gvr w 703), some (gvI jj), some (gvI s), none, none, none] (by decide +kernel) rfl (by decide) (Nat.le_of_ble_eq_true rfl) rfl (fun i v hv => g_args 3 i v hv rfl) (fun x hc hm => ?_)
  have hfM : ∀ (k : Nat) (j : Int), ¬ x_w k j → M k j = M k j := fun _ _ _ => rfl
  have hI := hmM.gi
  have hTb := q_b1 hmM
  have hLv := hmM.lv
  have hC := hmM.cin
  have hL := hC.1
  obtain ⟨hn0, hn1, hLs, hLf⟩ := id hL
  obtain ⟨-, hC1, hC2, hC3, hC4, hC5, hC6, hC7⟩ := id hC
  obtain ⟨hqL, hqS, hqm, hqf, hqs, hqk⟩ := id hq
  obtain ⟨hst, hway, -⟩ := hqL.2.2.1 s h1.1 h1.2
  obtain ⟨⟨-, -, -, hq5, hq6⟩, -, -, -, -, hqw⟩ := hqs s h1.1 h1.2
  have hbn := hqL.1
  have hbf := hqL.2.1
  refine g_aldn hc dX13_layWay_0 rfl ?_
  refine g_getRk hc lk_X13_37 ca_703 (rc_703_18 hR) dX13_layWay_1 ?_
  refine g_aldn hc dX13_layWay_4 rfl ?_
  refine g_iload_n hc dX13_layWay_5 rfl ?_
  refine g_iload_n hc dX13_layWay_6 rfl ?_
  refine g_V2r hc (c_X13_leafAt w) my_X13_leafAt mv_X13_leafAt ca_703 rfl rfl lm_X13_235 rfl (by decide) (Nat.le_of_ble_eq_true rfl) hm dX13_layWay_7 ?_
  refine g_iconst hc dX13_layWay_10 ?_
  refine g_iadd hc dX13_layWay_11 ?_
  refine g_ialde hc ca_708 (by decide) (by omega) (by omega) (show M 708 (((jj * 12 + s) * 7) + 5) = q_pf I b s (I (b + 14) s) from hq5) dX13_layWay_12 ?_
  refine g_istore_3 hc dX13_layWay_13 rfl ?_
  refine g_aldn hc dX13_layWay_14 rfl ?_
  refine g_getRk hc lk_X13_37 ca_703 (rc_703_18 hR) dX13_layWay_15 ?_
  refine g_aldn hc dX13_layWay_18 rfl ?_
  refine g_iload_n hc dX13_layWay_19 rfl ?_
  refine g_iload_n hc dX13_layWay_20 rfl ?_
  refine g_V2r hc (c_X13_leafAt w) my_X13_leafAt mv_X13_leafAt ca_703 rfl rfl lm_X13_235 rfl (by decide) (Nat.le_of_ble_eq_true rfl) hm dX13_layWay_21 ?_
  refine g_bipush hc dX13_layWay_24 (by decide +kernel) ?_
  refine g_iadd hc dX13_layWay_26 ?_
  refine g_ialde hc ca_708 (by decide) (by omega) (by omega) (show M 708 (((jj * 12 + s) * 7) + 6) = q_pr I b s (I (b + 14) s) from hq6) dX13_layWay_27 ?_
  refine g_istore_4 hc dX13_layWay_28 rfl ?_
  refine g_aldn hc dX13_layWay_30 rfl ?_
  refine g_iconst hc dX13_layWay_31 ?_
  refine g_putI' hc lk_X13_307 ca_703 29 rfl dX13_layWay_32 (fun I3 hI3 => ?_)
  have hmI3 : q_rel I lb I3 := by rw [hI3]; exact q_up hmM (by unfold x_a; omega) (by first | exact hI _ _ | exact hmM.g _ _ | exact g_b32 | exact g_and32 | exact g_or32 | exact g_shl32 | assumption | exact ⟨by omega, by omega⟩)
  have hfI3 : ∀ (k : Nat) (j : Int), ¬ x_w k j → I3 k j = M k j := fun k j hk => by rw [hI3]; exact (g_up_n (by unfold x_w at hk; omega)).trans (hfM k j hk)
  have lp_35 : ∀ (fu : Nat) (f r n : Int) (Mm : g_I), (0 ≤ n ∧ n ≤ I (b + 14) s) → f = q_pf I b s (I (b + 14) s - n) → r = q_pr I b s (I (b + 14) s - n) → Mm 703 29 = n → (∀ t : Int, 0 ≤ t → t < n → Mm 715 t = I (b + 16 + s.toNat) (I (b + 14) s - (n) + t) ∧ Mm 716 t = I (b + 29 + s.toNat) (I (b + 14) s - (n) + t)) → q_rel I lb Mm → (∀ (k : Nat) (j : Int), ¬ x_w k j → Mm k j = M k j) → I (b + 14) s - n < (fu : Int) → G w x (fun rr nn II JJ RR => x_rel w none x_w M J lb rr nn II JJ RR ∧ x_wy I b s II) 0 0 g_n Mm J R 35 [some (gvr w 703), some (gvI jj), some (gvI s), some (gvI f), some (gvI r), none] [] := by
    intro fu
    induction fu with
    | zero => intro f r n Mm h3 h4 h5 h6 h7 hmMm hfMm hfu; exfalso; omega
    | succ fu ih =>
      intro f r n Mm h3 h4 h5 h6 h7 hmMm hfMm hfu
      have hf32 : g32 f := by rw [h4]; unfold q_pf; split <;> first | exact hI _ _ | exact ⟨by decide, by decide⟩
      have hr32 : g32 r := by rw [h5]; unfold q_pr; split <;> first | exact hI _ _ | exact ⟨by decide, by decide⟩
      have ih_35 := ih
      refine g_iload_n hc dX13_layWay_35 rfl ?_
      refine g_iconst hc dX13_layWay_36 ?_
      refine g_icmp_eq (tgt := 146) hc dX13_layWay_37 (by decide) (by first | exact hI _ _ | exact hxI2 _ _ | exact hIa _ _ | exact hIb _ _ | exact g_b32 | exact g_and32 | assumption | exact ⟨by omega, by omega⟩) (by first | exact hI _ _ | exact hxI2 _ _ | exact hIa _ _ | exact hIb _ _ | exact g_b32 | exact g_and32 | assumption | exact ⟨by omega, by omega⟩) (fun c1 => ?_) (fun c1 => ?_)
      · skip
        have hnS : n = I (b + 14) s := by
          by_cases z : I (b + 14) s - n = 0
          · omega
          · exfalso; rw [q_pf, if_neg z] at h4; have := (hway (I (b + 14) s - n - 1) (by omega) (by omega)).1.1; omega
        refine g_vret hc hm dX13_layWay_146 ?_
        exact ⟨x_endv hfMm hmMm.g hR, ⟨by rw [h6]; exact hnS, fun i h0 h9 => by
          have := h7 i h0 (by omega)
          rw [show I (b + 14) s - n + i = i by omega] at this
          exact this⟩⟩
      · skip
        have hne : ¬ I (b + 14) s - n = 0 := fun z => by
          rw [z, q_pf, if_pos rfl] at h4; omega
        refine g_aldn hc dX13_layWay_40 rfl ?_
        refine g_getI' hc lk_X13_307 ca_703 29 rfl dX13_layWay_41 ?_
        refine g_istore_5 hc dX13_layWay_44 rfl ?_
        have lp_46 : ∀ (fu : Nat) (k : Int) (Mk : g_I), (0 ≤ k ∧ k ≤ n) → (∀ t : Int, 0 ≤ t → t < n + 1 → (t ≤ k → t < n → Mk 715 t = I (b + 16 + s.toNat) (I (b + 14) s - n + t) ∧ Mk 716 t = I (b + 29 + s.toNat) (I (b + 14) s - n + t)) ∧ (k < t → Mk 715 t = I (b + 16 + s.toNat) (I (b + 14) s - n + t - 1) ∧ Mk 716 t = I (b + 29 + s.toNat) (I (b + 14) s - n + t - 1))) → Mk 703 29 = n → q_rel I lb Mk → (∀ (k : Nat) (j : Int), ¬ x_w k j → Mk k j = M k j) → k < (fu : Int) → G w x (fun rr nn II JJ RR => x_rel w none x_w M J lb rr nn II JJ RR ∧ x_wy I b s II) 0 0 g_n Mk J R 46 [some (gvr w 703), some (gvI jj), some (gvI s), some (gvI f), some (gvI r), some (gvI k)] [] := by
          intro fu
          induction fu with
          | zero => intro k Mk h8 h9 h10 hmMk hfMk hfu; exfalso; omega
          | succ fu ih =>
            intro k Mk h8 h9 h10 hmMk hfMk hfu
            have ih_46 := ih
            refine g_iload hc dX13_layWay_46 rfl ?_
            refine g_if_le (tgt := 89) hc dX13_layWay_48 (by decide) (by first | exact hI _ _ | exact hxI2 _ _ | exact hIa _ _ | exact hIb _ _ | exact g_b32 | exact g_and32 | assumption | exact ⟨by omega, by omega⟩) (fun c2 => ?_) (fun c2 => ?_)
            · skip
              refine g_aldn hc dX13_layWay_89 rfl ?_
              refine g_getRk hc lk_X13_63 ca_703 (rc_703_27 hR) dX13_layWay_90 ?_
              refine g_iconst hc dX13_layWay_93 ?_
              refine g_iload_n hc dX13_layWay_94 rfl ?_
              refine g_iast' hc ca_715 (by decide) (by omega) (by omega)  dX13_layWay_95 (fun I4 hI4 => ?_)
              have hmI4 : q_rel I lb I4 := by rw [hI4]; exact q_up hmMk (by unfold x_a; omega) (by first | exact hI _ _ | exact hmM.g _ _ | exact g_b32 | exact g_and32 | exact g_or32 | exact g_shl32 | assumption | exact ⟨by omega, by omega⟩)
              have hfI4 : ∀ (k : Nat) (j : Int), ¬ x_w k j → I4 k j = M k j := fun k j hk => by rw [hI4]; exact (g_up_n (by unfold x_w at hk; omega)).trans (hfMk k j hk)
              refine g_aldn hc dX13_layWay_96 rfl ?_
              refine g_getRk hc lk_X13_66 ca_703 (rc_703_28 hR) dX13_layWay_97 ?_
              refine g_iconst hc dX13_layWay_100 ?_
              refine g_iload hc dX13_layWay_101 rfl ?_
              refine g_iast' hc ca_716 (by decide) (by omega) (by omega)  dX13_layWay_103 (fun I5 hI5 => ?_)
              have hmI5 : q_rel I lb I5 := by rw [hI5]; exact q_up hmI4 (by unfold x_a; omega) (by first | exact hI _ _ | exact hmM.g _ _ | exact g_b32 | exact g_and32 | exact g_or32 | exact g_shl32 | assumption | exact ⟨by omega, by omega⟩)
              have hfI5 : ∀ (k : Nat) (j : Int), ¬ x_w k j → I5 k j = M k j := fun k j hk => by rw [hI5]; exact (g_up_n (by unfold x_w at hk; omega)).trans (hfI4 k j hk)
              have hN : I5 703 29 = n := by rw [hI5, g_up_k (by decide), hI4, g_up_k (by decide)]; exact h10
              have hB5 : (∀ t : Int, 0 ≤ t → t < (n + 1) → I5 715 t = I (b + 16 + s.toNat) (I (b + 14) s - ((n + 1)) + t) ∧ I5 716 t = I (b + 29 + s.toNat) (I (b + 14) s - ((n + 1)) + t)) := fun t h0 ht => by
                by_cases e : t = 0
                · have e3 : I5 715 t = f := by rw [hI5, g_up_k (by decide), hI4, e, g_up_s]
                  have e4 : I5 716 t = r := by rw [hI5, e, g_up_s]
                  rw [e3, e4, h4, h5, q_pf, q_pr, if_neg hne, if_neg hne, show I (b + 14) s - n - 1 = I (b + 14) s - (n + 1) + t by omega]; exact ⟨rfl, rfl⟩
                · have e1 : I5 715 t = Mk 715 t := by rw [hI5, g_up_k (by decide), hI4, g_up_i e]
                  have e2 : I5 716 t = Mk 716 t := by rw [hI5, g_up_i e, hI4, g_up_k (by decide)]
                  rw [e1, e2, show I (b + 14) s - (n + 1) + t = I (b + 14) s - n + t - 1 by omega]; exact (h9 t h0 (by omega)).2 (by omega)
              refine g_aldn hc dX13_layWay_104 rfl ?_
              refine g_dup hc dX13_layWay_105 rfl ?_
              refine g_getIe hc lk_X13_307 ca_703 29 rfl (show I5 703 29 = n from hN) dX13_layWay_106 ?_
              refine g_iconst hc dX13_layWay_109 ?_
              refine g_iadd hc dX13_layWay_110 ?_
              refine g_putI' hc lk_X13_307 ca_703 29 rfl dX13_layWay_111 (fun I6 hI6 => ?_)
              have hmI6 : q_rel I lb I6 := by rw [hI6]; exact q_up hmI5 (by unfold x_a; omega) (by first | exact hI _ _ | exact hmM.g _ _ | exact g_b32 | exact g_and32 | exact g_or32 | exact g_shl32 | assumption | exact ⟨by omega, by omega⟩)
              have hfI6 : ∀ (k : Nat) (j : Int), ¬ x_w k j → I6 k j = M k j := fun k j hk => by rw [hI6]; exact (g_up_n (by unfold x_w at hk; omega)).trans (hfI5 k j hk)
              have hA3 : I6 703 29 = n + 1 := by rw [hI6, g_up_s]
              have hA4 : (∀ t : Int, 0 ≤ t → t < (n + 1) → I6 715 t = I (b + 16 + s.toNat) (I (b + 14) s - ((n + 1)) + t) ∧ I6 716 t = I (b + 29 + s.toNat) (I (b + 14) s - ((n + 1)) + t)) := fun t h0 ht => by rw [hI6, g_up_k (by decide), g_up_k (by decide)]; exact hB5 t h0 ht
              have hqX : q_lf I b I6 jj := q_lf_cg (fun k a c => funext fun j => hfI6 k j (by unfold x_w; omega)) hq
              have hW := (hqX.2.2.2.2.1 s h1.1 h1.2).2.2.2.2.2 (I (b + 14) s - n - 1) (by omega) (by omega)
              have hfe : f = I (b + 16 + s.toNat) (I (b + 14) s - n - 1) := by rw [h4, q_pf, if_neg hne]
              rw [← hfe, show I (b + 14) s - n - 1 = I (b + 14) s - (n + 1) by omega] at hW
              have hf0 := (hway (I (b + 14) s - n - 1) (by omega) (by omega)).1
              rw [← hfe] at hf0
              refine g_aldn hc dX13_layWay_114 rfl ?_
              refine g_getRk hc lk_X13_40 ca_703 (rc_703_19 hR) dX13_layWay_115 ?_
              refine g_aldn hc dX13_layWay_118 rfl ?_
              refine g_iload_n hc dX13_layWay_119 rfl ?_
              refine g_iload_n hc dX13_layWay_120 rfl ?_
              refine g_V2r hc (c_X13_forkAt w) my_X13_forkAt mv_X13_forkAt ca_703 rfl rfl lm_X13_249 rfl (by decide) (Nat.le_of_ble_eq_true rfl) hm dX13_layWay_121 ?_
              refine g_iconst hc dX13_layWay_124 ?_
              refine g_iadd hc dX13_layWay_125 ?_
              refine g_ialde hc ca_709 (by decide) (by omega) (by omega) (show I6 709 (((jj * 18 + f) * 5) + 4) = q_pr I b s (I (b + 14) s - (n + 1)) from hW.2) dX13_layWay_126 ?_
              refine g_istore_4 hc dX13_layWay_127 rfl ?_
              refine g_aldn hc dX13_layWay_129 rfl ?_
              refine g_getRk hc lk_X13_40 ca_703 (rc_703_19 hR) dX13_layWay_130 ?_
              refine g_aldn hc dX13_layWay_133 rfl ?_
              refine g_iload_n hc dX13_layWay_134 rfl ?_
              refine g_iload_n hc dX13_layWay_135 rfl ?_
              refine g_V2r hc (c_X13_forkAt w) my_X13_forkAt mv_X13_forkAt ca_703 rfl rfl lm_X13_249 rfl (by decide) (Nat.le_of_ble_eq_true rfl) hm dX13_layWay_136 ?_
              refine g_iconst hc dX13_layWay_139 ?_
              refine g_iadd hc dX13_layWay_140 ?_
              refine g_ialde hc ca_709 (by decide) (by omega) (by omega) (show I6 709 (((jj * 18 + f) * 5) + 3) = q_pf I b s (I (b + 14) s - (n + 1)) from hW.1) dX13_layWay_141 ?_
              refine g_istore_3 hc dX13_layWay_142 rfl ?_
              refine g_goto (tgt := 35) hc dX13_layWay_143 (by decide) ?_
              refine G_sub (L' := [some (gvr w 703), some (gvI jj), some (gvI s), some (gvI (q_pf I b s (I (b + 14) s - (n + 1)))), some (gvI (q_pr I b s (I (b + 14) s - (n + 1)))), none]) (show g_le _ _ from ⟨rfl, ⟨rfl, ⟨rfl, ⟨rfl, ⟨rfl, trivial⟩⟩⟩⟩⟩) ?_
              refine ih_35 _ _ (n + 1) _ ?_ ?_ ?_ ?_ ?_ ?_ ?_ ?_
              · omega
              · rfl
              · rfl
              · exact hA3
              · exact hA4
              · exact hmI6
              · exact hfI6
              · omega
            · skip
              refine g_aldn hc dX13_layWay_51 rfl ?_
              refine g_getRk hc lk_X13_63 ca_703 (rc_703_27 hR) dX13_layWay_52 ?_
              refine g_iload hc dX13_layWay_55 rfl ?_
              refine g_aldn hc dX13_layWay_57 rfl ?_
              refine g_getRk hc lk_X13_63 ca_703 (rc_703_27 hR) dX13_layWay_58 ?_
              refine g_iload hc dX13_layWay_61 rfl ?_
              refine g_iconst hc dX13_layWay_63 ?_
              refine g_isub hc dX13_layWay_64 ?_
              refine g_ialde hc ca_715 (by decide) (by omega) (by omega) (show Mk 715 (k - 1) = I (b + 16 + s.toNat) (I (b + 14) s - n + (k - 1)) from ((h9 (k - 1) (by omega) (by omega)).1 (by omega) (by omega)).1) dX13_layWay_65 ?_
              refine g_iast' hc ca_715 (by decide) (by omega) (by omega)  dX13_layWay_66 (fun I7 hI7 => ?_)
              have hmI7 : q_rel I lb I7 := by rw [hI7]; exact q_up hmMk (by unfold x_a; omega) (by first | exact hI _ _ | exact hmM.g _ _ | exact g_b32 | exact g_and32 | exact g_or32 | exact g_shl32 | assumption | exact ⟨by omega, by omega⟩)
              have hfI7 : ∀ (k : Nat) (j : Int), ¬ x_w k j → I7 k j = M k j := fun k j hk => by rw [hI7]; exact (g_up_n (by unfold x_w at hk; omega)).trans (hfMk k j hk)
              refine g_aldn hc dX13_layWay_67 rfl ?_
              refine g_getRk hc lk_X13_66 ca_703 (rc_703_28 hR) dX13_layWay_68 ?_
              refine g_iload hc dX13_layWay_71 rfl ?_
              refine g_aldn hc dX13_layWay_73 rfl ?_
              refine g_getRk hc lk_X13_66 ca_703 (rc_703_28 hR) dX13_layWay_74 ?_
              refine g_iload hc dX13_layWay_77 rfl ?_
              refine g_iconst hc dX13_layWay_79 ?_
              refine g_isub hc dX13_layWay_80 ?_
              refine g_ialde hc ca_716 (by decide) (by omega) (by omega) (show I7 716 (k - 1) = I (b + 29 + s.toNat) (I (b + 14) s - n + (k - 1)) from by rw [hI7, g_up_k (by decide)]; exact ((h9 (k - 1) (by omega) (by omega)).1 (by omega) (by omega)).2) dX13_layWay_81 ?_
              refine g_iast' hc ca_716 (by decide) (by omega) (by omega)  dX13_layWay_82 (fun I8 hI8 => ?_)
              have hmI8 : q_rel I lb I8 := by rw [hI8]; exact q_up hmI7 (by unfold x_a; omega) (by first | exact hI _ _ | exact hmM.g _ _ | exact g_b32 | exact g_and32 | exact g_or32 | exact g_shl32 | assumption | exact ⟨by omega, by omega⟩)
              have hfI8 : ∀ (k : Nat) (j : Int), ¬ x_w k j → I8 k j = M k j := fun k j hk => by rw [hI8]; exact (g_up_n (by unfold x_w at hk; omega)).trans (hfI7 k j hk)
              have hB1 : I8 703 29 = n := by rw [hI8, g_up_k (by decide), hI7, g_up_k (by decide)]; exact h10
              have hB2 : (∀ t : Int, 0 ≤ t → t < n + 1 → (t ≤ (k + (-1)) → t < n → I8 715 t = I (b + 16 + s.toNat) (I (b + 14) s - n + t) ∧ I8 716 t = I (b + 29 + s.toNat) (I (b + 14) s - n + t)) ∧ ((k + (-1)) < t → I8 715 t = I (b + 16 + s.toNat) (I (b + 14) s - n + t - 1) ∧ I8 716 t = I (b + 29 + s.toNat) (I (b + 14) s - n + t - 1))) := fun t h0 ht => by
                have e1 : t ≠ k → I8 715 t = Mk 715 t := fun z => by rw [hI8, g_up_k (by decide), hI7, g_up_i z]
                have e2 : t ≠ k → I8 716 t = Mk 716 t := fun z => by rw [hI8, g_up_i z, hI7, g_up_k (by decide)]
                refine ⟨fun a c => ?_, fun a => ?_⟩
                · rw [e1 (by omega), e2 (by omega)]; exact (h9 t h0 ht).1 (by omega) c
                · by_cases e : t = k
                  · have e3 : I8 715 t = I (b + 16 + s.toNat) (I (b + 14) s - n + (k - 1)) := by rw [hI8, g_up_k (by decide), hI7, e, g_up_s]
                    have e4 : I8 716 t = I (b + 29 + s.toNat) (I (b + 14) s - n + (k - 1)) := by rw [hI8, e, g_up_s]
                    rw [e3, e4, show I (b + 14) s - n + t - 1 = I (b + 14) s - n + (k - 1) by omega]; exact ⟨rfl, rfl⟩
                  · rw [e1 e, e2 e]; exact (h9 t h0 ht).2 (by omega)
              refine g_iinc_5 hc dX13_layWay_83 rfl ?_
              refine g_goto (tgt := 46) hc dX13_layWay_86 (by decide) ?_
              refine ih_46 _ _ ?_ ?_ ?_ ?_ ?_ ?_
              · omega
              · exact hB2
              · exact hB1
              · exact hmI8
              · exact hfI8
              · omega
        refine lp_46 7 _ _ ?_ ?_ ?_ ?_ ?_ (?_)
        · omega
        · exact fun t h0 ht => ⟨fun a c => h7 t h0 c, fun a => by exfalso; omega⟩
        · exact h6
        · exact hmMm
        · exact hfMm
        · omega
  refine lp_35 7 _ _ 0 _ ?_ ?_ ?_ ?_ ?_ ?_ ?_ (?_)
  · omega
  · rw [Int.sub_zero]
  · rw [Int.sub_zero]
  · rw [hI3, g_up_s]
  · intro t h0 h9; omega
  · exact hmI3
  · exact hfI3
  · omega
set_option maxHeartbeats 4000000 in
set_option maxRecDepth 100000 in
/-- X13_hasOf -/
theorem c_X13_hasOf (w : g_W) {I : g_I} {J : g_J} {R : g_R} {lb tx : Nat} (hR : g_rf w R lb tx) {M : g_I} (hmM : q_rel I lb M) {s : Int} (h1 : 0 ≤ s ∧ s < I lb 0) {c : Int} (h2 : 0 ≤ c ∧ c ≤ 2) : g_Met w g_n M J R yX13_hasOf cX13_hasOf 5 (some .int) 2 0 0 [(gvr w 703), (gvI s), (gvI c)] (fun rr nn II JJ RR => x_rel w (some (gvI (I (lb + 2 + s.toNat) c))) x_w M J lb rr nn II JJ RR ∧ x_wy I lb s II) := by
  refine g_intro (own := RX13) [some (gvr w 703), some (gvI s), some (gvI c), none, none] (by decide +kernel) rfl (by decide) (Nat.le_of_ble_eq_true rfl) rfl (fun i v hv => g_args 2 i v hv rfl) (fun x hc hm => ?_)
  have hfM : ∀ (k : Nat) (j : Int), ¬ x_w k j → M k j = M k j := fun _ _ _ => rfl
  have hI := hmM.gi
  have hTb := q_b1 hmM
  have hLv := hmM.lv
  have hC := hmM.cin
  have hL := hC.1
  obtain ⟨hn0, hn1, hLs, hLf⟩ := id hL
  obtain ⟨-, hC1, hC2, hC3, hC4, hC5, hC6, hC7⟩ := id hC
  have hTs := q_ts hmM (by omega)
  obtain ⟨hst, hway, hg0, hg1, hg2, hg3, hg4, hg5, hg6⟩ := hLs s h1.1 h1.2
  obtain ⟨-, ⟨hs0, hs1, hs2⟩, ⟨hs3, hs4, hs5⟩, hs6, -, -⟩ := q_s2 hmM h1
  refine g_aldn hc dX13_hasOf_0 rfl ?_
  refine g_aldn hc dX13_hasOf_1 rfl ?_
  refine g_getIe hc lk_X13_52 ca_703 24 rfl (show M 703 24 = I 0 12 from hmM.tab) dX13_hasOf_2 ?_
  refine g_iload_n hc dX13_hasOf_5 rfl ?_
  refine g_V2 hc (c_X13_layWay w hR hmM (q_lfS hmM (by omega)) (by omega) (by omega)) my_X13_layWay mv_X13_layWay ca_703 rfl rfl lm_X13_310 rfl (by decide) (Nat.le_of_ble_eq_true rfl) hm dX13_hasOf_6 (fun r3 n3 I3 J3 R3 hp3 => ?_)
  obtain ⟨⟨rfl, rfl, hK3, hX3, rfl, t3, hR⟩, hwI3⟩ := hp3
  have hmI3 : q_rel I lb I3 := q_cg (fun k j hk => hK3 k j (fun z => hk (x_wa z))) hX3 hmM
  have hfI3 : ∀ (k : Nat) (j : Int), ¬ x_w k j → I3 k j = M k j := fun k j hk => (hK3 k j hk).trans (hfM k j hk)
  refine g_iload_n hc dX13_hasOf_9 rfl ?_
  refine g_iconst hc dX13_hasOf_10 ?_
  refine g_icmp_ge (tgt := 33) hc dX13_hasOf_11 (by decide) (by first | exact hI _ _ | exact hxI2 _ _ | exact hIa _ _ | exact hIb _ _ | exact g_b32 | exact g_and32 | assumption | exact ⟨by omega, by omega⟩) (by first | exact hI _ _ | exact hxI2 _ _ | exact hIa _ _ | exact hIb _ _ | exact g_b32 | exact g_and32 | assumption | exact ⟨by omega, by omega⟩) (fun c1 => ?_) (fun c1 => ?_)
  · skip
    refine g_iconst hc dX13_hasOf_33 ?_
    refine g_istore_3 hc dX13_hasOf_34 rfl ?_
    refine g_iconst hc dX13_hasOf_35 ?_
    refine g_istore_4 hc dX13_hasOf_36 rfl ?_
    have lp_38 : ∀ (fu : Nat) (a i : Int), 0 ≤ i ∧ i ≤ I (lb + 14) s → a = (if c < 2 then M 708 ((I 0 12 * 12 + s) * 7 + c) else 0) + g_sum (fun i => q_it I lb s i (1 + c)) i.toNat → I (lb + 14) s - i < (fu : Int) → G w x (fun rr nn II JJ RR => x_rel w (some (gvI (I (lb + 2 + s.toNat) c))) x_w M J lb rr nn II JJ RR ∧ x_wy I lb s II) 0 0 g_n I3 J R3 38 [some (gvr w 703), some (gvI s), some (gvI c), some (gvI a), some (gvI i)] [] := by
      intro fu
      induction fu with
      | zero => intro a i h3 h4 hfu; exfalso; omega
      | succ fu ih =>
        intro a i h3 h4 hfu
        have ih_38 := ih
        refine g_iload hc dX13_hasOf_38 rfl ?_
        refine g_aldn hc dX13_hasOf_40 rfl ?_
        refine g_getIe hc lk_X13_307 ca_703 29 rfl (show I3 703 29 = I (lb + 14) s from hwI3.1) dX13_hasOf_41 ?_
        refine g_icmp_ge (tgt := 87) hc dX13_hasOf_44 (by decide) (by first | exact hI _ _ | exact hxI2 _ _ | exact hIa _ _ | exact hIb _ _ | exact g_b32 | exact g_and32 | assumption | exact ⟨by omega, by omega⟩) (by first | exact hI _ _ | exact hxI2 _ _ | exact hIa _ _ | exact hIb _ _ | exact g_b32 | exact g_and32 | assumption | exact ⟨by omega, by omega⟩) (fun c2 => ?_) (fun c2 => ?_)
        · skip
          refine g_iload_n hc dX13_hasOf_87 rfl ?_
          refine g_iret hc hm dX13_hasOf_88 ?_
          have hE : a = I (lb + 2 + s.toNat) c := by
            rw [h4, show i = I (lb + 14) s by omega]
            rcases (show c = 0 ∨ c = 1 ∨ c = 2 by omega) with rfl | rfl | rfl
            · rw [if_pos (by decide), hs2, Int.add_zero]; rfl
            · rw [if_pos (by decide), hs5]; rfl
            · rw [if_neg (by decide), hs6, Int.zero_add]; rfl
          exact ⟨x_end hE hfI3 hmI3.g hR, hwI3⟩
        · skip
          obtain ⟨⟨hw1, hw2⟩, hw3, hw4⟩ := hway i h3.1 (by omega)
          obtain ⟨hk2, hk1, hy, hit⟩ := hLf _ hw1 hw2
          obtain ⟨hb0, hb1, hb2, hb3, hb4, htg⟩ := hit _ hw3 hw4
          refine g_iload_n hc dX13_hasOf_47 rfl ?_
          refine g_aldn hc dX13_hasOf_48 rfl ?_
          refine g_getRk hc lk_X13_43 ca_703 (rc_703_20 hR) dX13_hasOf_49 ?_
          refine g_aldn hc dX13_hasOf_52 rfl ?_
          refine g_aldn hc dX13_hasOf_53 rfl ?_
          refine g_getIe hc lk_X13_52 ca_703 24 rfl (show I3 703 24 = I 0 12 from hmI3.tab) dX13_hasOf_54 ?_
          refine g_aldn hc dX13_hasOf_57 rfl ?_
          refine g_getRk hc lk_X13_63 ca_703 (rc_703_27 hR) dX13_hasOf_58 ?_
          refine g_iload hc dX13_hasOf_61 rfl ?_
          refine g_ialde hc ca_715 (by decide) (by omega) (by omega) (show I3 715 i = I (lb + 16 + s.toNat) i from (hwI3.2 _ (by omega) (by omega)).1) dX13_hasOf_63 ?_
          refine g_aldn hc dX13_hasOf_64 rfl ?_
          refine g_getRk hc lk_X13_66 ca_703 (rc_703_28 hR) dX13_hasOf_65 ?_
          refine g_iload hc dX13_hasOf_68 rfl ?_
          refine g_ialde hc ca_716 (by decide) (by omega) (by omega) (show I3 716 i = I (lb + 29 + s.toNat) i from (hwI3.2 _ (by omega) (by omega)).2) dX13_hasOf_70 ?_
          refine g_V3r hc (c_X13_branchAt w) my_X13_branchAt mv_X13_branchAt ca_703 rfl rfl lm_X13_262 rfl (by decide) (Nat.le_of_ble_eq_true rfl) hm dX13_hasOf_71 ?_
          refine g_iconst hc dX13_hasOf_74 ?_
          refine g_iadd hc dX13_hasOf_75 ?_
          refine g_iload_n hc dX13_hasOf_76 rfl ?_
          refine g_iadd hc dX13_hasOf_77 ?_
          refine g_ialde hc ca_710 (by decide) (by omega) (by omega) (show I3 710 ((((((I 0 12) * 18 + (I (lb + 16 + s.toNat) i)) * 4 + (I (lb + 29 + s.toNat) i)) * 6) + 1) + c) = q_it I lb s i (1 + c) from (congrArg (I3 710) (by omega)).trans (q_bi hmI3 (f := I (lb + 16 + s.toNat) i) (r := I (lb + 29 + s.toNat) i) (c := 1 + c) (by omega) (by omega) (by omega))) dX13_hasOf_78 ?_
          refine g_iadd hc dX13_hasOf_79 ?_
          refine g_istore_3 hc dX13_hasOf_80 rfl ?_
          refine g_iinc_4 hc dX13_hasOf_81 rfl ?_
          refine g_goto (tgt := 38) hc dX13_hasOf_84 (by decide) ?_
          refine ih_38 _ _ ?_ ?_ ?_
          · omega
          · rw [g_sum_i h3.1, h4]; omega
          · omega
    refine lp_38 7 _ _ ?_ ?_ (?_)
    · omega
    · first | (show _ = _ + 0; omega) | (rw [if_neg (by omega)]; rfl)
    · omega
  · skip
    refine g_aldn hc dX13_hasOf_14 rfl ?_
    refine g_getRk hc lk_X13_37 ca_703 (rc_703_18 hR) dX13_hasOf_15 ?_
    refine g_aldn hc dX13_hasOf_18 rfl ?_
    refine g_aldn hc dX13_hasOf_19 rfl ?_
    refine g_getIe hc lk_X13_52 ca_703 24 rfl (show I3 703 24 = I 0 12 from hmI3.tab) dX13_hasOf_20 ?_
    refine g_iload_n hc dX13_hasOf_23 rfl ?_
    refine g_V2r hc (c_X13_leafAt w) my_X13_leafAt mv_X13_leafAt ca_703 rfl rfl lm_X13_235 rfl (by decide) (Nat.le_of_ble_eq_true rfl) hm dX13_hasOf_24 ?_
    refine g_iload_n hc dX13_hasOf_27 rfl ?_
    refine g_iadd hc dX13_hasOf_28 ?_
    refine g_ialde hc ca_708 (by decide) (by omega) (by omega) (show I3 708 ((((I 0 12) * 12 + s) * 7) + c) = (if c < 2 then M 708 ((I 0 12 * 12 + s) * 7 + c) else 0) from by rw [hfI3 708 _ (by unfold x_w; omega), if_pos (by omega)]) dX13_hasOf_29 ?_
    refine g_goto (tgt := 34) hc dX13_hasOf_30 (by decide) ?_
    refine g_istore_3 hc dX13_hasOf_34 rfl ?_
    refine g_iconst hc dX13_hasOf_35 ?_
    refine g_istore_4 hc dX13_hasOf_36 rfl ?_
    have lp_38 : ∀ (fu : Nat) (a i : Int), 0 ≤ i ∧ i ≤ I (lb + 14) s → a = (if c < 2 then M 708 ((I 0 12 * 12 + s) * 7 + c) else 0) + g_sum (fun i => q_it I lb s i (1 + c)) i.toNat → I (lb + 14) s - i < (fu : Int) → G w x (fun rr nn II JJ RR => x_rel w (some (gvI (I (lb + 2 + s.toNat) c))) x_w M J lb rr nn II JJ RR ∧ x_wy I lb s II) 0 0 g_n I3 J R3 38 [some (gvr w 703), some (gvI s), some (gvI c), some (gvI a), some (gvI i)] [] := by
      intro fu
      induction fu with
      | zero => intro a i h3 h4 hfu; exfalso; omega
      | succ fu ih =>
        intro a i h3 h4 hfu
        have ih_38 := ih
        refine g_iload hc dX13_hasOf_38 rfl ?_
        refine g_aldn hc dX13_hasOf_40 rfl ?_
        refine g_getIe hc lk_X13_307 ca_703 29 rfl (show I3 703 29 = I (lb + 14) s from hwI3.1) dX13_hasOf_41 ?_
        refine g_icmp_ge (tgt := 87) hc dX13_hasOf_44 (by decide) (by first | exact hI _ _ | exact hxI2 _ _ | exact hIa _ _ | exact hIb _ _ | exact g_b32 | exact g_and32 | assumption | exact ⟨by omega, by omega⟩) (by first | exact hI _ _ | exact hxI2 _ _ | exact hIa _ _ | exact hIb _ _ | exact g_b32 | exact g_and32 | assumption | exact ⟨by omega, by omega⟩) (fun c3 => ?_) (fun c3 => ?_)
        · skip
          refine g_iload_n hc dX13_hasOf_87 rfl ?_
          refine g_iret hc hm dX13_hasOf_88 ?_
          have hE : a = I (lb + 2 + s.toNat) c := by
            rw [h4, show i = I (lb + 14) s by omega]
            rcases (show c = 0 ∨ c = 1 ∨ c = 2 by omega) with rfl | rfl | rfl
            · rw [if_pos (by decide), hs2, Int.add_zero]; rfl
            · rw [if_pos (by decide), hs5]; rfl
            · rw [if_neg (by decide), hs6, Int.zero_add]; rfl
          exact ⟨x_end hE hfI3 hmI3.g hR, hwI3⟩
        · skip
          obtain ⟨⟨hw1, hw2⟩, hw3, hw4⟩ := hway i h3.1 (by omega)
          obtain ⟨hk2, hk1, hy, hit⟩ := hLf _ hw1 hw2
          obtain ⟨hb0, hb1, hb2, hb3, hb4, htg⟩ := hit _ hw3 hw4
          refine g_iload_n hc dX13_hasOf_47 rfl ?_
          refine g_aldn hc dX13_hasOf_48 rfl ?_
          refine g_getRk hc lk_X13_43 ca_703 (rc_703_20 hR) dX13_hasOf_49 ?_
          refine g_aldn hc dX13_hasOf_52 rfl ?_
          refine g_aldn hc dX13_hasOf_53 rfl ?_
          refine g_getIe hc lk_X13_52 ca_703 24 rfl (show I3 703 24 = I 0 12 from hmI3.tab) dX13_hasOf_54 ?_
          refine g_aldn hc dX13_hasOf_57 rfl ?_
          refine g_getRk hc lk_X13_63 ca_703 (rc_703_27 hR) dX13_hasOf_58 ?_
          refine g_iload hc dX13_hasOf_61 rfl ?_
          refine g_ialde hc ca_715 (by decide) (by omega) (by omega) (show I3 715 i = I (lb + 16 + s.toNat) i from (hwI3.2 _ (by omega) (by omega)).1) dX13_hasOf_63 ?_
          refine g_aldn hc dX13_hasOf_64 rfl ?_
          refine g_getRk hc lk_X13_66 ca_703 (rc_703_28 hR) dX13_hasOf_65 ?_
          refine g_iload hc dX13_hasOf_68 rfl ?_
          refine g_ialde hc ca_716 (by decide) (by omega) (by omega) (show I3 716 i = I (lb + 29 + s.toNat) i from (hwI3.2 _ (by omega) (by omega)).2) dX13_hasOf_70 ?_
          refine g_V3r hc (c_X13_branchAt w) my_X13_branchAt mv_X13_branchAt ca_703 rfl rfl lm_X13_262 rfl (by decide) (Nat.le_of_ble_eq_true rfl) hm dX13_hasOf_71 ?_
          refine g_iconst hc dX13_hasOf_74 ?_
          refine g_iadd hc dX13_hasOf_75 ?_
          refine g_iload_n hc dX13_hasOf_76 rfl ?_
          refine g_iadd hc dX13_hasOf_77 ?_
          refine g_ialde hc ca_710 (by decide) (by omega) (by omega) (show I3 710 ((((((I 0 12) * 18 + (I (lb + 16 + s.toNat) i)) * 4 + (I (lb + 29 + s.toNat) i)) * 6) + 1) + c) = q_it I lb s i (1 + c) from (congrArg (I3 710) (by omega)).trans (q_bi hmI3 (f := I (lb + 16 + s.toNat) i) (r := I (lb + 29 + s.toNat) i) (c := 1 + c) (by omega) (by omega) (by omega))) dX13_hasOf_78 ?_
          refine g_iadd hc dX13_hasOf_79 ?_
          refine g_istore_3 hc dX13_hasOf_80 rfl ?_
          refine g_iinc_4 hc dX13_hasOf_81 rfl ?_
          refine g_goto (tgt := 38) hc dX13_hasOf_84 (by decide) ?_
          refine ih_38 _ _ ?_ ?_ ?_
          · omega
          · rw [g_sum_i h3.1, h4]; omega
          · omega
    refine lp_38 7 _ _ ?_ ?_ (?_)
    · omega
    · first | (show _ = _ + 0; omega) | (rw [if_neg (by omega)]; rfl)
    · omega
set_option maxHeartbeats 4000000 in
set_option maxRecDepth 100000 in
/-- X13_factsOf -/
theorem c_X13_factsOf (w : g_W) {I : g_I} {J : g_J} {R : g_R} {lb tx : Nat} (hR : g_rf w R lb tx) {M : g_I} (hmM : q_rel I lb M) {s : Int} (h1 : 0 ≤ s ∧ s < I lb 0) : g_Met w g_n M J R yX13_factsOf cX13_factsOf 5 (some .int) 2 0 0 [(gvr w 703), (gvI s)] (x_rel w (some (gvI (I (lb + 2 + s.toNat) 6))) x_w M J lb) := by
  refine g_intro (own := RX13) [some (gvr w 703), some (gvI s), none, none, none] (by decide +kernel) rfl (by decide) (Nat.le_of_ble_eq_true rfl) rfl (fun i v hv => g_args 3 i v hv rfl) (fun x hc hm => ?_)
  have hfM : ∀ (k : Nat) (j : Int), ¬ x_w k j → M k j = M k j := fun _ _ _ => rfl
  have hI := hmM.gi
  have hTb := q_b1 hmM
  have hLv := hmM.lv
  have hC := hmM.cin
  have hL := hC.1
  obtain ⟨hn0, hn1, hLs, hLf⟩ := id hL
  obtain ⟨-, hC1, hC2, hC3, hC4, hC5, hC6, hC7⟩ := id hC
  have hTs := q_ts hmM (by omega)
  obtain ⟨hst, hway, hg0, hg1, hg2, hg3, hg4, hg5, hg6⟩ := hLs s h1.1 h1.2
  obtain ⟨-, -, -, -, hs6, -⟩ := q_s2 hmM h1
  refine g_aldn hc dX13_factsOf_0 rfl ?_
  refine g_aldn hc dX13_factsOf_1 rfl ?_
  refine g_getIe hc lk_X13_52 ca_703 24 rfl (show M 703 24 = I 0 12 from hmM.tab) dX13_factsOf_2 ?_
  refine g_iload_n hc dX13_factsOf_5 rfl ?_
  refine g_V2 hc (c_X13_layWay w hR hmM (q_lfS hmM (by omega)) (by omega) (by omega)) my_X13_layWay mv_X13_layWay ca_703 rfl rfl lm_X13_310 rfl (by decide) (Nat.le_of_ble_eq_true rfl) hm dX13_factsOf_6 (fun r3 n3 I3 J3 R3 hp3 => ?_)
  obtain ⟨⟨rfl, rfl, hK3, hX3, rfl, t3, hR⟩, hwI3⟩ := hp3
  have hmI3 : q_rel I lb I3 := q_cg (fun k j hk => hK3 k j (fun z => hk (x_wa z))) hX3 hmM
  have hfI3 : ∀ (k : Nat) (j : Int), ¬ x_w k j → I3 k j = M k j := fun k j hk => (hK3 k j hk).trans (hfM k j hk)
  refine g_iconst hc dX13_factsOf_9 ?_
  refine g_istore_2 hc dX13_factsOf_10 rfl ?_
  refine g_iconst hc dX13_factsOf_11 ?_
  refine g_istore_3 hc dX13_factsOf_12 rfl ?_
  have lp_13 : ∀ (fu : Nat) (a i : Int), 0 ≤ i ∧ i ≤ I (lb + 14) s → a = g_ors (fun i => if q_it I lb s i 4 = -1 then 0 else g_shl 1 (q_it I lb s i 4)) i.toNat → I (lb + 14) s - i < (fu : Int) → G w x (x_rel w (some (gvI (I (lb + 2 + s.toNat) 6))) x_w M J lb) 0 0 g_n I3 J R3 13 [some (gvr w 703), some (gvI s), some (gvI a), some (gvI i), none] [] := by
    intro fu
    induction fu with
    | zero => intro a i h3 h4 hfu; exfalso; omega
    | succ fu ih =>
      intro a i h3 h4 hfu
      have ih_13 := ih
      refine g_iload_n hc dX13_factsOf_13 rfl ?_
      refine g_aldn hc dX13_factsOf_14 rfl ?_
      refine g_getIe hc lk_X13_307 ca_703 29 rfl (show I3 703 29 = I (lb + 14) s from hwI3.1) dX13_factsOf_15 ?_
      refine g_icmp_ge (tgt := 73) hc dX13_factsOf_18 (by decide) (by first | exact hI _ _ | exact hxI2 _ _ | exact hIa _ _ | exact hIb _ _ | exact g_b32 | exact g_and32 | assumption | exact ⟨by omega, by omega⟩) (by first | exact hI _ _ | exact hxI2 _ _ | exact hIa _ _ | exact hIb _ _ | exact g_b32 | exact g_and32 | assumption | exact ⟨by omega, by omega⟩) (fun c1 => ?_) (fun c1 => ?_)
      · skip
        refine g_iload_n hc dX13_factsOf_73 rfl ?_
        refine g_iret hc hm dX13_factsOf_74 ?_
        exact x_end (by rw [h4, hs6, show i = I (lb + 14) s by omega]) hfI3 hmI3.g hR
      · skip
        obtain ⟨⟨hw1, hw2⟩, hw3, hw4⟩ := hway i h3.1 (by omega)
        obtain ⟨hk2, hk1, hy, hit⟩ := hLf _ hw1 hw2
        obtain ⟨hb0, hb1, hb2, hb3, hb4, htg⟩ := hit _ hw3 hw4
        refine g_aldn hc dX13_factsOf_21 rfl ?_
        refine g_getRk hc lk_X13_43 ca_703 (rc_703_20 hR) dX13_factsOf_22 ?_
        refine g_aldn hc dX13_factsOf_25 rfl ?_
        refine g_aldn hc dX13_factsOf_26 rfl ?_
        refine g_getIe hc lk_X13_52 ca_703 24 rfl (show I3 703 24 = I 0 12 from hmI3.tab) dX13_factsOf_27 ?_
        refine g_aldn hc dX13_factsOf_30 rfl ?_
        refine g_getRk hc lk_X13_63 ca_703 (rc_703_27 hR) dX13_factsOf_31 ?_
        refine g_iload_n hc dX13_factsOf_34 rfl ?_
        refine g_ialde hc ca_715 (by decide) (by omega) (by omega) (show I3 715 i = I (lb + 16 + s.toNat) i from (hwI3.2 _ (by omega) (by omega)).1) dX13_factsOf_35 ?_
        refine g_aldn hc dX13_factsOf_36 rfl ?_
        refine g_getRk hc lk_X13_66 ca_703 (rc_703_28 hR) dX13_factsOf_37 ?_
        refine g_iload_n hc dX13_factsOf_40 rfl ?_
        refine g_ialde hc ca_716 (by decide) (by omega) (by omega) (show I3 716 i = I (lb + 29 + s.toNat) i from (hwI3.2 _ (by omega) (by omega)).2) dX13_factsOf_41 ?_
        refine g_V3r hc (c_X13_branchAt w) my_X13_branchAt mv_X13_branchAt ca_703 rfl rfl lm_X13_262 rfl (by decide) (Nat.le_of_ble_eq_true rfl) hm dX13_factsOf_42 ?_
        refine g_iconst hc dX13_factsOf_45 ?_
        refine g_iadd hc dX13_factsOf_46 ?_
        refine g_ialde hc ca_710 (by decide) (by omega) (by omega) (show I3 710 (((((I 0 12) * 18 + (I (lb + 16 + s.toNat) i)) * 4 + (I (lb + 29 + s.toNat) i)) * 6) + 4) = I (lb + 47 + ((I (lb + 16 + s.toNat) i) * 4 + (I (lb + 29 + s.toNat) i)).toNat) 4 from q_bi hmI3 (by omega) (by omega) (by omega)) dX13_factsOf_47 ?_
        refine g_istore_4 hc dX13_factsOf_48 rfl ?_
        refine g_iload_n hc dX13_factsOf_50 rfl ?_
        refine g_iload hc dX13_factsOf_51 rfl ?_
        refine g_iconst hc dX13_factsOf_53 ?_
        refine g_icmp_ne (tgt := 61) hc dX13_factsOf_54 (by decide) (by first | exact hI _ _ | exact hxI2 _ _ | exact hIa _ _ | exact hIb _ _ | exact g_b32 | exact g_and32 | assumption | exact ⟨by omega, by omega⟩) (by first | exact hI _ _ | exact hxI2 _ _ | exact hIa _ _ | exact hIb _ _ | exact g_b32 | exact g_and32 | assumption | exact ⟨by omega, by omega⟩) (fun c2 => ?_) (fun c2 => ?_)
        · skip
          refine g_iconst hc dX13_factsOf_61 ?_
          refine g_iload hc dX13_factsOf_62 rfl ?_
          refine g_ishl hc dX13_factsOf_64 ?_
          refine g_ior hc dX13_factsOf_65 ?_
          refine g_istore_2 hc dX13_factsOf_66 rfl ?_
          refine g_iinc_3 hc dX13_factsOf_67 rfl ?_
          refine g_goto (tgt := 13) hc dX13_factsOf_70 (by decide) ?_
          refine G_sub (L' := [some (gvr w 703), some (gvI s), some (gvI (g_or a (g_shl 1 (I (lb + 47 + ((I (lb + 16 + s.toNat) i) * 4 + (I (lb + 29 + s.toNat) i)).toNat) 4)))), some (gvI (i + 1)), none]) (show g_le _ _ from ⟨rfl, ⟨rfl, ⟨rfl, ⟨rfl, trivial⟩⟩⟩⟩) ?_
          refine ih_13 _ _ ?_ ?_ ?_
          · omega
          · rw [g_ors_i h3.1, h4]; first | rw [if_pos (by assumption)] | rw [if_neg (by assumption)]
          · omega
        · skip
          refine g_iconst hc dX13_factsOf_57 ?_
          refine g_goto (tgt := 65) hc dX13_factsOf_58 (by decide) ?_
          refine g_ior hc dX13_factsOf_65 ?_
          refine g_istore_2 hc dX13_factsOf_66 rfl ?_
          refine g_iinc_3 hc dX13_factsOf_67 rfl ?_
          refine g_goto (tgt := 13) hc dX13_factsOf_70 (by decide) ?_
          refine G_sub (L' := [some (gvr w 703), some (gvI s), some (gvI (g_or a 0)), some (gvI (i + 1)), none]) (show g_le _ _ from ⟨rfl, ⟨rfl, ⟨rfl, ⟨rfl, trivial⟩⟩⟩⟩) ?_
          refine ih_13 _ _ ?_ ?_ ?_
          · omega
          · rw [g_ors_i h3.1, h4]; first | rw [if_pos (by assumption)] | rw [if_neg (by assumption)]
          · omega
  refine lp_13 7 _ _ ?_ ?_ (?_)
  · omega
  · rfl
  · omega
set_option maxHeartbeats 4000000 in
set_option maxRecDepth 100000 in
/-- X13_isThere -/
theorem c_X13_isThere (w : g_W) {I : g_I} {J : g_J} {R : g_R} {lb tx : Nat} (hR : g_rf w R lb tx) {M : g_I} (hmM : q_rel I lb M) {s : Int} (h1 : 0 ≤ s ∧ s < I lb 0) : g_Met w g_n M J R yX13_isThere cX13_isThere 3 (some .boolean) 2 0 0 [(gvr w 703), (gvI s)] (x_rel w (some (gvI (g_b (g_thr I lb s = true)))) x_w M J lb) := by
  refine g_intro (own := RX13) [some (gvr w 703), some (gvI s), none] (by decide +kernel) rfl (by decide) (Nat.le_of_ble_eq_true rfl) rfl (fun i v hv => g_args 1 i v hv rfl) (fun x hc hm => ?_)
  have hfM : ∀ (k : Nat) (j : Int), ¬ x_w k j → M k j = M k j := fun _ _ _ => rfl
  have hI := hmM.gi
  have hTb := q_b1 hmM
  have hLv := hmM.lv
  have hC := hmM.cin
  have hL := hC.1
  obtain ⟨hn0, hn1, hLs, hLf⟩ := id hL
  obtain ⟨-, hC1, hC2, hC3, hC4, hC5, hC6, hC7⟩ := id hC
  have hTs := q_ts hmM (by omega)
  obtain ⟨hst, hway, hg0, hg1, hg2, hg3, hg4, hg5, hg6⟩ := hLs s h1.1 h1.2
  refine g_aldn hc dX13_isThere_0 rfl ?_
  refine g_aldn hc dX13_isThere_1 rfl ?_
  refine g_getIe hc lk_X13_52 ca_703 24 rfl (show M 703 24 = I 0 12 from hmM.tab) dX13_isThere_2 ?_
  refine g_iload_n hc dX13_isThere_5 rfl ?_
  refine g_V2 hc (c_X13_layWay w hR hmM (q_lfS hmM (by omega)) (by omega) (by omega)) my_X13_layWay mv_X13_layWay ca_703 rfl rfl lm_X13_310 rfl (by decide) (Nat.le_of_ble_eq_true rfl) hm dX13_isThere_6 (fun r3 n3 I3 J3 R3 hp3 => ?_)
  obtain ⟨⟨rfl, rfl, hK3, hX3, rfl, t3, hR⟩, hwI3⟩ := hp3
  have hmI3 : q_rel I lb I3 := q_cg (fun k j hk => hK3 k j (fun z => hk (x_wa z))) hX3 hmM
  have hfI3 : ∀ (k : Nat) (j : Int), ¬ x_w k j → I3 k j = M k j := fun k j hk => (hK3 k j hk).trans (hfM k j hk)
  refine g_iconst hc dX13_isThere_9 ?_
  refine g_istore_2 hc dX13_isThere_10 rfl ?_
  have lp_11 : ∀ (fu : Nat) (i : Int), 0 ≤ i ∧ i ≤ I (lb + 14) s → g_thr I lb s = g_all (fun i => decide (g_bit (I 550 (4 + I (lb + 16 + s.toNat) i)) (I (lb + 29 + s.toNat) i))) (I (lb + 14) s - i).toNat i → I (lb + 14) s - i < (fu : Int) → G w x (x_rel w (some (gvI (g_b (g_thr I lb s = true)))) x_w M J lb) 0 0 g_n I3 J R3 11 [some (gvr w 703), some (gvI s), some (gvI i)] [] := by
    intro fu
    induction fu with
    | zero => intro i h3 h4 hfu; exfalso; omega
    | succ fu ih =>
      intro i h3 h4 hfu
      have ih_11 := ih
      refine g_iload_n hc dX13_isThere_11 rfl ?_
      refine g_aldn hc dX13_isThere_12 rfl ?_
      refine g_getIe hc lk_X13_307 ca_703 29 rfl (show I3 703 29 = I (lb + 14) s from hwI3.1) dX13_isThere_13 ?_
      refine g_icmp_ge (tgt := 50) hc dX13_isThere_16 (by decide) (by first | exact hI _ _ | exact hxI2 _ _ | exact hIa _ _ | exact hIb _ _ | exact g_b32 | exact g_and32 | assumption | exact ⟨by omega, by omega⟩) (by first | exact hI _ _ | exact hxI2 _ _ | exact hIa _ _ | exact hIb _ _ | exact g_b32 | exact g_and32 | assumption | exact ⟨by omega, by omega⟩) (fun c1 => ?_) (fun c1 => ?_)
      · skip
        refine g_iconst hc dX13_isThere_50 ?_
        refine g_zret hc hm (by first | exact g_b01 | omega) dX13_isThere_51 ?_
        exact x_end (g_b1 (by rw [h4, g_all_e (by omega)])).symm hfI3 hmI3.g hR
      · skip
        obtain ⟨⟨hw1, hw2⟩, hw3, hw4⟩ := hway i h3.1 (by omega)
        obtain ⟨hk2, hk1, hy, hit⟩ := hLf _ hw1 hw2
        obtain ⟨hb0, hb1, hb2, hb3, hb4, htg⟩ := hit _ hw3 hw4
        refine g_aldn hc dX13_isThere_19 rfl ?_
        refine g_getRk hc lk_X13_56 ca_703 (rc_703_25 hR) dX13_isThere_20 ?_
        refine g_iconst hc dX13_isThere_23 ?_
        refine g_aldn hc dX13_isThere_24 rfl ?_
        refine g_getRk hc lk_X13_63 ca_703 (rc_703_27 hR) dX13_isThere_25 ?_
        refine g_iload_n hc dX13_isThere_28 rfl ?_
        refine g_ialde hc ca_715 (by decide) (by omega) (by omega) (show I3 715 i = I (lb + 16 + s.toNat) i from (hwI3.2 _ (by omega) (by omega)).1) dX13_isThere_29 ?_
        refine g_imul hc dX13_isThere_30 ?_
        refine g_aldn hc dX13_isThere_31 rfl ?_
        refine g_getRk hc lk_X13_66 ca_703 (rc_703_28 hR) dX13_isThere_32 ?_
        refine g_iload_n hc dX13_isThere_35 rfl ?_
        refine g_ialde hc ca_716 (by decide) (by omega) (by omega) (show I3 716 i = I (lb + 29 + s.toNat) i from (hwI3.2 _ (by omega) (by omega)).2) dX13_isThere_36 ?_
        refine g_iadd hc dX13_isThere_37 ?_
        refine g_zalde hc ca_713 (by decide) (by omega) (by omega) (show I3 713 ((4 * (I (lb + 16 + s.toNat) i)) + (I (lb + 29 + s.toNat) i)) = g_b (g_bit (I 550 (4 + (I (lb + 16 + s.toNat) i))) (I (lb + 29 + s.toNat) i)) from hmI3.opn (by omega) (by omega)) dX13_isThere_38 ?_
        refine g_ifb_ne (tgt := 44) hc dX13_isThere_39 (by decide)  (fun c2 => ?_) (fun c2 => ?_)
        · skip
          refine g_iinc_2 hc dX13_isThere_44 rfl ?_
          refine g_goto (tgt := 11) hc dX13_isThere_47 (by decide) ?_
          refine ih_11 _ ?_ ?_ ?_
          · omega
          · rw [h4, g_all_t (by omega) (by simp only [decide_eq_true_eq]; assumption)]
          · omega
        · skip
          refine g_iconst hc dX13_isThere_42 ?_
          refine g_zret hc hm (by first | exact g_b01 | omega) dX13_isThere_43 ?_
          exact x_end (g_b0 (by rw [h4, g_all_f (by omega) (by simp only [decide_eq_true_eq]; assumption)]; decide)).symm hfI3 hmI3.g hR
  refine lp_11 7 _ ?_ ?_ (?_)
  · omega
  · rw [Int.sub_zero]; rfl
  · omega
