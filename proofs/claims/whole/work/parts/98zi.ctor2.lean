/-! ===== constructors that call others ===== -/
set_option maxHeartbeats 4000000 in
set_option maxRecDepth 100000 in
/-- OtherSelves$LifeReader.<init> -/
theorem z_X5_init (w : g_W) {I : g_I} {J : g_J} {R : g_R} (hf : ∀ a, 539 ≤ a → g_fr I J R a) : gz_Met w (539) I J R yX5_init cX5_init 2 none 2 8 39 [gvr w 538, gvr w 1] (fun r n2 I2 J2 R2 => r = none ∧ n2 = 547 ∧ I2 = I ∧ J2 = J ∧ gz_kp R R2 (538) (539) (547) ∧ R2 538 0 = some (w.2.2.2.1 + 1) ∧ R2 538 1 = some (w.2.2.2.1 + 539) ∧ R2 538 2 = some (w.2.2.2.1 + 541) ∧ R2 538 3 = some (w.2.2.2.1 + 543) ∧ R2 538 4 = some (w.2.2.2.1 + 545) ∧ R2 538 5 = some (w.2.2.2.1 + 546) ∧ R2 539 0 = some (w.2.2.2.2 100) ∧ R2 539 1 = some (w.2.2.2.2 0) ∧ R2 539 2 = some (w.2.2.2.2 1) ∧ R2 539 3 = some (w.2.2.2.2 2) ∧ R2 539 4 = some (w.2.2.2.1 + 540) ∧ R2 541 0 = some (w.2.2.2.2 101) ∧ R2 541 1 = some (w.2.2.2.2 3) ∧ R2 541 2 = some (w.2.2.2.2 4) ∧ R2 541 3 = some (w.2.2.2.2 5) ∧ R2 541 4 = some (w.2.2.2.1 + 542) ∧ R2 543 0 = some (w.2.2.2.2 102) ∧ R2 543 1 = some (w.2.2.2.2 6) ∧ R2 543 2 = some (w.2.2.2.2 7) ∧ R2 543 3 = some (w.2.2.2.2 8) ∧ R2 543 4 = some (w.2.2.2.1 + 544)) := by
  refine gz_intro (own := RX5) [some (gvr w 538), some (gvr w 1)] (by decide +kernel) rfl (Nat.le_of_ble_eq_true rfl) rfl (fun i v hv => g_args 0 i v hv rfl) (fun x hc hm hz hmn hgo => ?_)
  refine gq_aldn hc dX5_init_0 rfl ?_
  refine gz_obj hc mo_X5_3 mi_obj mc_obj rfl (by omega) (Nat.le_of_ble_eq_true rfl) dX5_init_1 ?_
  refine gq_aldn hc dX5_init_4 rfl ?_
  refine gz_new (n := 539) (u := 0) (v := 0) (n0 := 539) (ci := 3) hc hz (by omega) (by decide +kernel) rfl cl_X5_9 ii_X3 ni_X3 (by have z := hf (539) (by omega); exact ⟨z.1, z.2.1, fun j => z.2.2 j⟩) ⟨by have := hm.1; omega, by have := hm.2; omega⟩ dX5_init_5 ?_
  refine gq_dup hc dX5_init_8 rfl ?_
  refine gq_ldcS (i := 0) (tx := "gjydt") hc (by decide) dX5_init_9 ?_
  refine gq_gets (i := 0) hc rfl sl_X5_13 dX5_init_11 ?_
  refine gq_gets (i := 1) hc rfl sl_X5_19 dX5_init_14 ?_
  refine gq_gets (i := 2) hc rfl sl_X5_22 dX5_init_17 ?_
  refine gz_callI (n := 540) (u := 1) (v := 5) (n0 := 539) (k := 539) (mc' := 1) (ms' := 5) (as := [.ref (w.2.2.2.2 100), .ref (w.2.2.2.2 0), .ref (w.2.2.2.2 1), .ref (w.2.2.2.2 2)]) hc hz (by omega) hgo (z_X3_init w (k := 539) (sa := 100) (i1 := 0) (i2 := 1) (i3 := 2) (q := ("LEAF_USUAL", [10, 50, 40, 0, 5])) rfl (by decide) (by decide +kernel) (by decide +kernel) (fun a ha => hf a (by omega))) my_X3_init (by decide) mi_X3_init lm_X5_25 rfl rfl (by omega) (by omega) (Nat.le_of_ble_eq_true rfl) ⟨by have := hm.1; omega, by have := hm.2; omega⟩ dX5_init_20 (fun r1 n1 I1 J1 R1 h1 => ?_)
  obtain ⟨q1, q2, q3, q4, h1, h1f⟩ := h1
  subst q1 q2
  obtain rfl : I = I1 := q3.symm
  obtain rfl : J = J1 := q4.symm
  have hf1 : ∀ a, 541 ≤ a → g_fr I J R1 a := fun a ha => by
    have z := hf a (by omega)
    refine ⟨z.1, z.2.1, fun j => ?_⟩
    rw [h1.2 a (by omega)]; exact z.2.2 j
  refine gz_putR (k := 538) (ci := 5) (j := 1) (a := w.2.2.2.1 + 539) (ty := .object "OtherSelves$Items") hc hmn lk_X5_28 rfl (show g_at (541) (538) (.inl 5) from ⟨by omega, by decide +kernel⟩) (by decide +kernel) rfl rfl dX5_init_23 ?_
  generalize e2 : g_upR R1 _ _ _ = R2
  refine gq_aldn hc dX5_init_26 rfl ?_
  refine gz_new (n := 541) (u := 2) (v := 10) (n0 := 539) (ci := 3) hc hz (by omega) (by decide +kernel) rfl cl_X5_9 ii_X3 ni_X3 (by have z := hf1 (541) (by omega); exact ⟨z.1, z.2.1, fun j => by rw [← e2, g_upR_n (by omega)]; exact z.2.2 j⟩) ⟨by have := hm.1; omega, by have := hm.2; omega⟩ dX5_init_27 ?_
  refine gq_dup hc dX5_init_30 rfl ?_
  refine gq_ldcS (i := 1) (tx := "yk") hc (by decide) dX5_init_31 ?_
  refine gq_gets (i := 3) hc rfl sl_X5_34 dX5_init_33 ?_
  refine gq_gets (i := 4) hc rfl sl_X5_37 dX5_init_36 ?_
  refine gq_gets (i := 5) hc rfl sl_X5_40 dX5_init_39 ?_
  refine gz_callI (n := 542) (u := 3) (v := 15) (n0 := 539) (k := 541) (mc' := 1) (ms' := 2) (as := [.ref (w.2.2.2.2 101), .ref (w.2.2.2.2 3), .ref (w.2.2.2.2 4), .ref (w.2.2.2.2 5)]) hc hz (by omega) hgo (z_X3_init w (k := 541) (sa := 101) (i1 := 3) (i2 := 4) (i3 := 5) (q := ("FORK_USUAL", [20, 0])) rfl (by decide) (by decide +kernel) (by decide +kernel) (fun a ha => by have z := hf1 a (by omega); exact ⟨z.1, z.2.1, fun j => by rw [← e2, g_upR_n (by omega)]; exact z.2.2 j⟩)) my_X3_init (by decide) mi_X3_init lm_X5_25 rfl rfl (by omega) (by omega) (Nat.le_of_ble_eq_true rfl) ⟨by have := hm.1; omega, by have := hm.2; omega⟩ dX5_init_42 (fun r3 n3 I3 J3 R3 h3 => ?_)
  obtain ⟨q1, q2, q3, q4, h3, h3f⟩ := h3
  subst q1 q2
  obtain rfl : I = I3 := q3.symm
  obtain rfl : J = J3 := q4.symm
  have hf3 : ∀ a, 543 ≤ a → g_fr I J R3 a := fun a ha => by
    have z := hf1 a (by omega)
    refine ⟨z.1, z.2.1, fun j => ?_⟩
    rw [h3.2 a (by omega)]; exact (by rw [← e2, g_upR_n (by omega)]; exact z.2.2 j)
  refine gz_putR (k := 538) (ci := 5) (j := 2) (a := w.2.2.2.1 + 541) (ty := .object "OtherSelves$Items") hc hmn lk_X5_43 rfl (show g_at (543) (538) (.inl 5) from ⟨by omega, by decide +kernel⟩) (by decide +kernel) rfl rfl dX5_init_45 ?_
  generalize e4 : g_upR R3 _ _ _ = R4
  refine gq_aldn hc dX5_init_48 rfl ?_
  refine gz_new (n := 543) (u := 4) (v := 17) (n0 := 539) (ci := 3) hc hz (by omega) (by decide +kernel) rfl cl_X5_9 ii_X3 ni_X3 (by have z := hf3 (543) (by omega); exact ⟨z.1, z.2.1, fun j => by rw [← e4, g_upR_n (by omega)]; exact z.2.2 j⟩) ⟨by have := hm.1; omega, by have := hm.2; omega⟩ dX5_init_49 ?_
  refine gq_dup hc dX5_init_52 rfl ?_
  refine gq_ldcS (i := 2) (tx := "wgjox") hc (by decide) dX5_init_53 ?_
  refine gq_gets (i := 6) hc rfl sl_X5_48 dX5_init_55 ?_
  refine gq_gets (i := 7) hc rfl sl_X5_51 dX5_init_58 ?_
  refine gq_gets (i := 8) hc rfl sl_X5_54 dX5_init_61 ?_
  refine gz_callI (n := 544) (u := 5) (v := 22) (n0 := 539) (k := 543) (mc' := 1) (ms' := 5) (as := [.ref (w.2.2.2.2 102), .ref (w.2.2.2.2 6), .ref (w.2.2.2.2 7), .ref (w.2.2.2.2 8)]) hc hz (by omega) hgo (z_X3_init w (k := 543) (sa := 102) (i1 := 6) (i2 := 7) (i3 := 8) (q := ("BRANCH_USUAL", [1, 0, 0, 0, -1])) rfl (by decide) (by decide +kernel) (by decide +kernel) (fun a ha => by have z := hf3 a (by omega); exact ⟨z.1, z.2.1, fun j => by rw [← e4, g_upR_n (by omega)]; exact z.2.2 j⟩)) my_X3_init (by decide) mi_X3_init lm_X5_25 rfl rfl (by omega) (by omega) (Nat.le_of_ble_eq_true rfl) ⟨by have := hm.1; omega, by have := hm.2; omega⟩ dX5_init_64 (fun r5 n5 I5 J5 R5 h5 => ?_)
  obtain ⟨q1, q2, q3, q4, h5, h5f⟩ := h5
  subst q1 q2
  obtain rfl : I = I5 := q3.symm
  obtain rfl : J = J5 := q4.symm
  have hf5 : ∀ a, 545 ≤ a → g_fr I J R5 a := fun a ha => by
    have z := hf3 a (by omega)
    refine ⟨z.1, z.2.1, fun j => ?_⟩
    rw [h5.2 a (by omega)]; exact (by rw [← e4, g_upR_n (by omega)]; exact z.2.2 j)
  refine gz_putR (k := 538) (ci := 5) (j := 3) (a := w.2.2.2.1 + 543) (ty := .object "OtherSelves$Items") hc hmn lk_X5_57 rfl (show g_at (545) (538) (.inl 5) from ⟨by omega, by decide +kernel⟩) (by decide +kernel) rfl rfl dX5_init_67 ?_
  generalize e6 : g_upR R5 _ _ _ = R6
  refine gq_aldn hc dX5_init_70 rfl ?_
  refine gq_bipush hc dX5_init_71 (by decide +kernel) ?_
  refine gz_newa (n := 545) (u := 6) (v := 27) (n0 := 539) (atype := .int) (ty := .int) (t := 0) (len := 6) hc hz (by omega) (by decide +kernel) (by decide) rfl rfl rfl ac_int (by decide) (Nat.le_of_ble_eq_true rfl) (by have z := hf5 (545) (by omega); exact ⟨z.1, z.2.1, fun j => by rw [← e6, g_upR_n (by omega)]; exact z.2.2 j⟩) ⟨by have := hm.1; omega, by have := hm.2; omega⟩ dX5_init_73 ?_
  refine gz_putR (k := 538) (ci := 5) (j := 4) (a := w.2.2.2.1 + 545) (ty := .array .int) hc hmn lk_X5_60 rfl (show g_at (546) (538) (.inl 5) from ⟨by omega, by decide +kernel⟩) (by decide +kernel) rfl rfl dX5_init_75 ?_
  generalize e7 : g_upR R6 _ _ _ = R7
  refine gq_aldn hc dX5_init_78 rfl ?_
  refine gq_bipush hc dX5_init_79 (by decide +kernel) ?_
  refine gz_newa (n := 546) (u := 7) (v := 33) (n0 := 539) (atype := .int) (ty := .int) (t := 0) (len := 6) hc hz (by omega) (by decide +kernel) (by decide) rfl rfl rfl ac_int (by decide) (Nat.le_of_ble_eq_true rfl) (by have z := hf5 (546) (by omega); exact ⟨z.1, z.2.1, fun j => by rw [← e7, g_upR_n (by omega), ← e6, g_upR_n (by omega)]; exact z.2.2 j⟩) ⟨by have := hm.1; omega, by have := hm.2; omega⟩ dX5_init_81 ?_
  refine gz_putR (k := 538) (ci := 5) (j := 5) (a := w.2.2.2.1 + 546) (ty := .array .int) hc hmn lk_X5_63 rfl (show g_at (547) (538) (.inl 5) from ⟨by omega, by decide +kernel⟩) (by decide +kernel) rfl rfl dX5_init_83 ?_
  generalize e8 : g_upR R7 _ _ _ = R8
  refine gq_aldn hc dX5_init_86 rfl ?_
  refine gq_aldn hc dX5_init_87 rfl ?_
  refine gz_putR (k := 538) (ci := 5) (j := 0) (a := w.2.2.2.1 + 1) (ty := .object "OtherSelves$Tape") hc hmn lk_X5_66 rfl (show g_at (547) (538) (.inl 5) from ⟨by omega, by decide +kernel⟩) (by decide +kernel) rfl rfl dX5_init_88 ?_
  generalize e9 : g_upR R8 _ _ _ = R9
  refine gz_vret (n := 547) (u := 8) (v := 39) (n0 := 539) hc hz (by omega) hm dX5_init_91 ?_
  exact ⟨rfl, rfl, rfl, rfl, ⟨fun a a1 a2 => funext fun j => by rw [← e9, g_upR_n (by omega), ← e8, g_upR_n (by omega), ← e7, g_upR_n (by omega), ← e6, g_upR_n (by omega), congrFun (h5.1 a (by omega) (by omega)) _, ← e4, g_upR_n (by omega), congrFun (h3.1 a (by omega) (by omega)) _, ← e2, g_upR_n (by omega), congrFun (h1.1 a (by omega) (by omega)) _], fun a a2 => funext fun j => by rw [← e9, g_upR_n (by omega), ← e8, g_upR_n (by omega), ← e7, g_upR_n (by omega), ← e6, g_upR_n (by omega), congrFun (h5.2 a (by omega)) _, ← e4, g_upR_n (by omega), congrFun (h3.2 a (by omega)) _, ← e2, g_upR_n (by omega), congrFun (h1.2 a (by omega)) _]⟩, (by rw [← e9]; exact if_pos ⟨by omega, by omega⟩), (by rw [← e9, g_upR_n (by omega), ← e8, g_upR_n (by omega), ← e7, g_upR_n (by omega), ← e6, g_upR_n (by omega), congrFun (h5.1 (538) (by omega) (by omega)) _, ← e4, g_upR_n (by omega), congrFun (h3.1 (538) (by omega) (by omega)) _, ← e2]; exact if_pos ⟨by omega, by omega⟩), (by rw [← e9, g_upR_n (by omega), ← e8, g_upR_n (by omega), ← e7, g_upR_n (by omega), ← e6, g_upR_n (by omega), congrFun (h5.1 (538) (by omega) (by omega)) _, ← e4]; exact if_pos ⟨by omega, by omega⟩), (by rw [← e9, g_upR_n (by omega), ← e8, g_upR_n (by omega), ← e7, g_upR_n (by omega), ← e6]; exact if_pos ⟨by omega, by omega⟩), (by rw [← e9, g_upR_n (by omega), ← e8, g_upR_n (by omega), ← e7]; exact if_pos ⟨by omega, by omega⟩), (by rw [← e9, g_upR_n (by omega), ← e8]; exact if_pos ⟨by omega, by omega⟩), (by rw [← e9, g_upR_n (by omega), ← e8, g_upR_n (by omega), ← e7, g_upR_n (by omega), ← e6, g_upR_n (by omega), congrFun (h5.1 (539) (by omega) (by omega)) _, ← e4, g_upR_n (by omega), congrFun (h3.1 (539) (by omega) (by omega)) _, ← e2, g_upR_n (by omega)]; exact h1f.1), (by rw [← e9, g_upR_n (by omega), ← e8, g_upR_n (by omega), ← e7, g_upR_n (by omega), ← e6, g_upR_n (by omega), congrFun (h5.1 (539) (by omega) (by omega)) _, ← e4, g_upR_n (by omega), congrFun (h3.1 (539) (by omega) (by omega)) _, ← e2, g_upR_n (by omega)]; exact h1f.2.1), (by rw [← e9, g_upR_n (by omega), ← e8, g_upR_n (by omega), ← e7, g_upR_n (by omega), ← e6, g_upR_n (by omega), congrFun (h5.1 (539) (by omega) (by omega)) _, ← e4, g_upR_n (by omega), congrFun (h3.1 (539) (by omega) (by omega)) _, ← e2, g_upR_n (by omega)]; exact h1f.2.2.1), (by rw [← e9, g_upR_n (by omega), ← e8, g_upR_n (by omega), ← e7, g_upR_n (by omega), ← e6, g_upR_n (by omega), congrFun (h5.1 (539) (by omega) (by omega)) _, ← e4, g_upR_n (by omega), congrFun (h3.1 (539) (by omega) (by omega)) _, ← e2, g_upR_n (by omega)]; exact h1f.2.2.2.1), (by rw [← e9, g_upR_n (by omega), ← e8, g_upR_n (by omega), ← e7, g_upR_n (by omega), ← e6, g_upR_n (by omega), congrFun (h5.1 (539) (by omega) (by omega)) _, ← e4, g_upR_n (by omega), congrFun (h3.1 (539) (by omega) (by omega)) _, ← e2, g_upR_n (by omega)]; exact h1f.2.2.2.2), (by rw [← e9, g_upR_n (by omega), ← e8, g_upR_n (by omega), ← e7, g_upR_n (by omega), ← e6, g_upR_n (by omega), congrFun (h5.1 (541) (by omega) (by omega)) _, ← e4, g_upR_n (by omega)]; exact h3f.1), (by rw [← e9, g_upR_n (by omega), ← e8, g_upR_n (by omega), ← e7, g_upR_n (by omega), ← e6, g_upR_n (by omega), congrFun (h5.1 (541) (by omega) (by omega)) _, ← e4, g_upR_n (by omega)]; exact h3f.2.1), (by rw [← e9, g_upR_n (by omega), ← e8, g_upR_n (by omega), ← e7, g_upR_n (by omega), ← e6, g_upR_n (by omega), congrFun (h5.1 (541) (by omega) (by omega)) _, ← e4, g_upR_n (by omega)]; exact h3f.2.2.1), (by rw [← e9, g_upR_n (by omega), ← e8, g_upR_n (by omega), ← e7, g_upR_n (by omega), ← e6, g_upR_n (by omega), congrFun (h5.1 (541) (by omega) (by omega)) _, ← e4, g_upR_n (by omega)]; exact h3f.2.2.2.1), (by rw [← e9, g_upR_n (by omega), ← e8, g_upR_n (by omega), ← e7, g_upR_n (by omega), ← e6, g_upR_n (by omega), congrFun (h5.1 (541) (by omega) (by omega)) _, ← e4, g_upR_n (by omega)]; exact h3f.2.2.2.2), (by rw [← e9, g_upR_n (by omega), ← e8, g_upR_n (by omega), ← e7, g_upR_n (by omega), ← e6, g_upR_n (by omega)]; exact h5f.1), (by rw [← e9, g_upR_n (by omega), ← e8, g_upR_n (by omega), ← e7, g_upR_n (by omega), ← e6, g_upR_n (by omega)]; exact h5f.2.1), (by rw [← e9, g_upR_n (by omega), ← e8, g_upR_n (by omega), ← e7, g_upR_n (by omega), ← e6, g_upR_n (by omega)]; exact h5f.2.2.1), (by rw [← e9, g_upR_n (by omega), ← e8, g_upR_n (by omega), ← e7, g_upR_n (by omega), ← e6, g_upR_n (by omega)]; exact h5f.2.2.2.1), (by rw [← e9, g_upR_n (by omega), ← e8, g_upR_n (by omega), ← e7, g_upR_n (by omega), ← e6, g_upR_n (by omega)]; exact h5f.2.2.2.2)⟩
theorem g_rfL.cg {w : g_W} {R R2 : g_R} {b : Nat} (h : g_rfL w R b) (e : ∀ a : Nat, b ≤ a → a < b + 128 → R2 a = R a) : g_rfL w R2 b := by
  unfold g_rfL at h ⊢
  rw [e b (by omega) (by omega), e (b + 1) (by omega) (by omega), e (b + 15) (by omega) (by omega), e (b + 28) (by omega) (by omega), e (b + 46) (by omega) (by omega)]
  exact h
set_option maxHeartbeats 4000000 in
set_option maxRecDepth 100000 in
/-- OtherSelves$Table.<init> -/
theorem z_X7_init (w : g_W) {I : g_I} {J : g_J} {R : g_R} (hf : ∀ a, 549 ≤ a → g_fr I J R a) : gz_Met w (549) I J R yX7_init cX7_init 2 none 2 134 1091 [gvr w 548, gvr w 516] (fun r n2 I2 J2 R2 => r = none ∧ n2 = 683 ∧ I2 = (g_up (g_up I 550 1 (-1)) 550 2 (-1)) ∧ J2 = J ∧ gz_kp R R2 (548) (549) (683) ∧ R2 548 0 = some (w.2.2.2.1 + 516) ∧ R2 548 1 = some (w.2.2.2.1 + 549) ∧ R2 548 2 = some (w.2.2.2.1 + 554) ∧ R2 548 3 = some (w.2.2.2.1 + 555) ∧ R2 549 0 = some (w.2.2.2.1 + 550) ∧ R2 549 1 = some (w.2.2.2.1 + 551) ∧ R2 549 2 = some (w.2.2.2.1 + 552) ∧ R2 549 3 = some (w.2.2.2.1 + 553) ∧ g_rfL w R2 555) := by
  refine gz_intro (own := RX7) [some (gvr w 548), some (gvr w 516)] (by decide +kernel) rfl (Nat.le_of_ble_eq_true rfl) rfl (fun i v hv => g_args 0 i v hv rfl) (fun x hc hm hz hmn hgo => ?_)
  refine gq_aldn hc dX7_init_0 rfl ?_
  refine gz_obj hc mo_X7_3 mi_obj mc_obj rfl (by omega) (Nat.le_of_ble_eq_true rfl) dX7_init_1 ?_
  refine gq_aldn hc dX7_init_4 rfl ?_
  refine gz_new (n := 549) (u := 0) (v := 0) (n0 := 549) (ci := 6) hc hz (by omega) (by decide +kernel) rfl cl_X7_9 ii_X6 ni_X6 (by have z := hf (549) (by omega); exact ⟨z.1, z.2.1, fun j => z.2.2 j⟩) ⟨by have := hm.1; omega, by have := hm.2; omega⟩ dX7_init_5 ?_
  refine gq_dup hc dX7_init_8 rfl ?_
  refine gz_callI (n := 550) (u := 1) (v := 6) (n0 := 549) (k := 549) (mc' := 4) (ms' := 128) (as := []) hc hz (by omega) hgo (z_X6_init w (fun a ha => hf a (by omega))) my_X6_init (by decide) mi_X6_init lm_X7_11 rfl rfl (by omega) (by omega) (Nat.le_of_ble_eq_true rfl) ⟨by have := hm.1; omega, by have := hm.2; omega⟩ dX7_init_9 (fun r1 n1 I1 J1 R1 h1 => ?_)
  obtain ⟨q1, q2, q3, q4, h1, h1f⟩ := h1
  subst q1 q2
  obtain rfl : (g_up (g_up I 550 1 (-1)) 550 2 (-1)) = I1 := q3.symm
  obtain rfl : J = J1 := q4.symm
  have hf1 : ∀ a, 554 ≤ a → g_fr (g_up (g_up I 550 1 (-1)) 550 2 (-1)) J R1 a := fun a ha => by
    have z := hf a (by omega)
    refine ⟨(fun j => by rw [g_up_k (by omega), g_up_k (by omega)]; exact z.1 j), z.2.1, fun j => ?_⟩
    rw [h1.2 a (by omega)]; exact z.2.2 j
  refine gz_putR (k := 548) (ci := 7) (j := 1) (a := w.2.2.2.1 + 549) (ty := .object "OtherSelves$State") hc hmn lk_X7_12 rfl (show g_at (554) (548) (.inl 7) from ⟨by omega, by decide +kernel⟩) (by decide +kernel) rfl rfl dX7_init_12 ?_
  generalize e2 : g_upR R1 _ _ _ = R2
  refine gq_aldn hc dX7_init_15 rfl ?_
  refine gq_bipush hc dX7_init_16 (by decide +kernel) ?_
  refine gz_newa (n := 554) (u := 5) (v := 134) (n0 := 549) (atype := .int) (ty := .int) (t := 0) (len := 8) hc hz (by omega) (by decide +kernel) (by decide) rfl rfl rfl ac_int (by decide) (Nat.le_of_ble_eq_true rfl) (by have z := hf1 (554) (by omega); exact ⟨z.1, z.2.1, fun j => by rw [← e2, g_upR_n (by omega)]; exact z.2.2 j⟩) ⟨by have := hm.1; omega, by have := hm.2; omega⟩ dX7_init_18 ?_
  refine gz_putR (k := 548) (ci := 7) (j := 2) (a := w.2.2.2.1 + 554) (ty := .array .int) hc hmn lk_X7_18 rfl (show g_at (555) (548) (.inl 7) from ⟨by omega, by decide +kernel⟩) (by decide +kernel) rfl rfl dX7_init_20 ?_
  generalize e3 : g_upR R2 _ _ _ = R3
  refine gq_aldn hc dX7_init_23 rfl ?_
  refine gz_new (n := 555) (u := 6) (v := 142) (n0 := 549) (ci := 4) hc hz (by omega) (by decide +kernel) rfl cl_X7_22 ii_X4 ni_X4 (by have z := hf1 (555) (by omega); exact ⟨z.1, z.2.1, fun j => by rw [← e3, g_upR_n (by omega), ← e2, g_upR_n (by omega)]; exact z.2.2 j⟩) ⟨by have := hm.1; omega, by have := hm.2; omega⟩ dX7_init_24 ?_
  refine gq_dup hc dX7_init_27 rfl ?_
  refine gz_callIN (n := 556) (u := 7) (v := 155) (n0 := 549) (k := 555) (mc' := 127) (ms' := 936) (as := []) (host := RX12) hc hz (by omega) hgo (z_X4_init w (b := 555) (by unfold g_life; omega) (fun a ha => by have z := hf1 a (by omega); exact ⟨z.1, z.2.1, fun j => by rw [← e3, g_upR_n (by omega), ← e2, g_upR_n (by omega)]; exact z.2.2 j⟩)) my_X4_init (by decide) mi_X4_init (by decide) rfl rfl (by omega) (by omega) (Nat.le_of_ble_eq_true rfl) ⟨by have := hm.1; omega, by have := hm.2; omega⟩ dX7_init_28 (fun r4 n4 I4 J4 R4 h4 => ?_)
  obtain ⟨q1, q2, q3, q4, h4, h4f⟩ := h4
  subst q1 q2
  obtain rfl : (g_up (g_up I 550 1 (-1)) 550 2 (-1)) = I4 := q3.symm
  obtain rfl : J = J4 := q4.symm
  have hf4 : ∀ a, 683 ≤ a → g_fr (g_up (g_up I 550 1 (-1)) 550 2 (-1)) J R4 a := fun a ha => by
    have z := hf1 a (by omega)
    refine ⟨z.1, z.2.1, fun j => ?_⟩
    rw [h4.2 a (by omega)]; exact (by rw [← e3, g_upR_n (by omega), ← e2, g_upR_n (by omega)]; exact z.2.2 j)
  refine gq_putR (k := 548) (ci := 7) (j := 3) (a := w.2.2.2.1 + 555) (ty := .object "OtherSelves$Life") hc lk_X7_25 (show g_at (683) (548) (.inl 7) from ⟨by omega, by decide +kernel⟩) (by decide +kernel) rfl rfl dX7_init_31 ?_
  generalize e5 : g_upR R4 _ _ _ = R5
  refine gq_aldn hc dX7_init_34 rfl ?_
  refine gq_aldn hc dX7_init_35 rfl ?_
  refine gz_putR (k := 548) (ci := 7) (j := 0) (a := w.2.2.2.1 + 516) (ty := .array (.object "OtherSelves$Taste")) hc hmn lk_X7_29 rfl (show g_at (683) (548) (.inl 7) from ⟨by omega, by decide +kernel⟩) (by decide +kernel) rfl rfl dX7_init_36 ?_
  generalize e6 : g_upR R5 _ _ _ = R6
  refine gz_vret (n := 683) (u := 134) (v := 1091) (n0 := 549) hc hz (by omega) hm dX7_init_39 ?_
  exact ⟨rfl, rfl, rfl, rfl, ⟨fun a a1 a2 => funext fun j => by rw [← e6, g_upR_n (by omega), ← e5, g_upR_n (by omega), congrFun (h4.1 a (by omega) (by omega)) _, ← e3, g_upR_n (by omega), ← e2, g_upR_n (by omega), congrFun (h1.1 a (by omega) (by omega)) _], fun a a2 => funext fun j => by rw [← e6, g_upR_n (by omega), ← e5, g_upR_n (by omega), congrFun (h4.2 a (by omega)) _, ← e3, g_upR_n (by omega), ← e2, g_upR_n (by omega), congrFun (h1.2 a (by omega)) _]⟩, (by rw [← e6]; exact if_pos ⟨by omega, by omega⟩), (by rw [← e6, g_upR_n (by omega), ← e5, g_upR_n (by omega), congrFun (h4.1 (548) (by omega) (by omega)) _, ← e3, g_upR_n (by omega), ← e2]; exact if_pos ⟨by omega, by omega⟩), (by rw [← e6, g_upR_n (by omega), ← e5, g_upR_n (by omega), congrFun (h4.1 (548) (by omega) (by omega)) _, ← e3]; exact if_pos ⟨by omega, by omega⟩), (by rw [← e6, g_upR_n (by omega), ← e5]; exact if_pos ⟨by omega, by omega⟩), (by rw [← e6, g_upR_n (by omega), ← e5, g_upR_n (by omega), congrFun (h4.1 (549) (by omega) (by omega)) _, ← e3, g_upR_n (by omega), ← e2, g_upR_n (by omega)]; exact h1f.1), (by rw [← e6, g_upR_n (by omega), ← e5, g_upR_n (by omega), congrFun (h4.1 (549) (by omega) (by omega)) _, ← e3, g_upR_n (by omega), ← e2, g_upR_n (by omega)]; exact h1f.2.1), (by rw [← e6, g_upR_n (by omega), ← e5, g_upR_n (by omega), congrFun (h4.1 (549) (by omega) (by omega)) _, ← e3, g_upR_n (by omega), ← e2, g_upR_n (by omega)]; exact h1f.2.2.1), (by rw [← e6, g_upR_n (by omega), ← e5, g_upR_n (by omega), congrFun (h4.1 (549) (by omega) (by omega)) _, ← e3, g_upR_n (by omega), ← e2, g_upR_n (by omega)]; exact h1f.2.2.2), (h4f.cg (fun a a1 a2 => funext fun j => by rw [← e6, g_upR_n (by omega), ← e5, g_upR_n (by omega)]))⟩
