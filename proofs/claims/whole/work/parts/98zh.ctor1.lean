/-! ===== constructors that make arrays alone ===== -/
theorem g_upR_n {R : g_R} {k a : Nat} {i j : Int} {v : Option Nat} (h : a ≠ k ∨ j ≠ i) : g_upR R k i v a j = R a j := if_neg (fun q => by rcases h with h | h; exact h q.1; exact h q.2)
theorem gz_up_n {w : g_W} {R : g_R} {k a N : Nat} {j : Int} (h : a ≠ k) : gz_up w R k N a j = R a j := if_neg (fun q => h q.1)
/-- what a constructor keeps: all cells but its object's and its new ones -/
def gz_kp (R R2 : g_R) (k n n2 : Nat) : Prop := (∀ a, a ≠ k → a < n → R2 a = R a) ∧ ∀ a, n2 ≤ a → R2 a = R a
theorem gq_talen {w : g_W} {x : g_C} {P : State → Prop} {u v n : Nat} {I : g_I} {J : g_J} {R : g_R} {pc : Nat} {L : List (Option Value)} {st : List Value} {cc : ByteArray} {nL : Nat} {rt : Option FieldType} {own : String} {d i : Nat} {q : String × List Int} (hc : g_OK w x cc nL rt own d) (hq : g_sar[i]? = some q) (hd : decode cc pc = .ok (.arraylength, 1)) (kk : GQ w x P u v n I J R (pc + 1) L (gvI (q.2.length : Int) :: st)) : GQ w x P u v n I J R pc L (.ref (w.2.2.2.2 i) :: st) := by
  obtain ⟨p, e, Rm, s, m, args, below, meth, c, mc, ms⟩ := x
  obtain ⟨hx, hb, hml, hr, hown, hts, hK, hsta, hlk, hsz, hRm⟩ := hc
  exact fun H locs ls hP hS hll => va_tlen hx hb (hsta.1 i q hq).2 hS (v := Int32.ofInt (q.2.length : Int)) Int32.ofInt_eq_ofNat.symm hd (kk H locs ls hP hS hll)
theorem gl_sh {b : Nat} (hb : g_life b) {o : Nat} (ho : o < 128) : g_sh (b + o) = g_shL o := by
  unfold g_sh
  rcases hb with rfl | rfl | rfl | rfl | rfl
  · rw [if_neg (by omega), if_pos (by omega), show (4 + o - 4) % 128 = o by omega]
  · rw [if_neg (by omega), if_pos (by omega), show (132 + o - 4) % 128 = o by omega]
  · rw [if_neg (by omega), if_pos (by omega), show (260 + o - 4) % 128 = o by omega]
  · rw [if_neg (by omega), if_pos (by omega), show (388 + o - 4) % 128 = o by omega]
  · rw [if_neg (by omega), if_neg (by omega), if_neg (by omega), if_pos (by omega), show 555 + o - 555 = o by omega]
theorem gl_r1 : ∀ i, i < 12 → g_shL (2 + i) = .inr (0, 7) := by decide +kernel
theorem gl_r2 : ∀ i, i < 12 → g_shL (16 + i) = .inr (0, 6) := by decide +kernel
theorem gl_r3 : ∀ i, i < 12 → g_shL (29 + i) = .inr (0, 6) := by decide +kernel
theorem gl_r4 : ∀ i, i < 80 → g_shL (47 + i) = .inr (0, 5) := by decide +kernel

set_option maxHeartbeats 4000000 in
set_option maxRecDepth 100000 in
/-- OtherSelves$Tape.<init> -/
theorem z_X8_init (w : g_W) {I : g_I} {J : g_J} {R : g_R} {k : Nat} (s0 : g_sh k = .inl 8) (s1 : g_sh (k + 1) = .inr (0, 240)) (hf : ∀ a, k + 1 ≤ a → g_fr I J R a) : gz_Met w (k + 1) I J R yX8_init cX8_init 1 none 1 1 240 [gvr w k] (fun r n2 I2 J2 R2 => r = none ∧ n2 = k + 2 ∧ I2 = I ∧ J2 = J ∧ gz_kp R R2 (k) (k + 1) (k + 2) ∧ R2 (k) 0 = some (w.2.2.2.1 + (k + 1))) := by
  refine gz_intro (own := RX8) [some (gvr w k)] (by decide +kernel) rfl (Nat.le_of_ble_eq_true rfl) rfl (fun i v hv => g_args 0 i v hv rfl) (fun x hc hm hz hmn hgo => ?_)
  refine gq_aldn hc dX8_init_0 rfl ?_
  refine gz_obj hc mo_X8_3 mi_obj mc_obj rfl (by omega) (Nat.le_of_ble_eq_true rfl) dX8_init_1 ?_
  refine gq_aldn hc dX8_init_4 rfl ?_
  refine gq_sipush hc dX8_init_5 (by decide +kernel) ?_
  refine gz_newa (n := k + 1) (u := 0) (v := 0) (n0 := k + 1) (atype := .int) (ty := .int) (t := 0) (len := 240) hc hz (by omega) (s1) (by decide) rfl rfl rfl ac_int (by decide) (Nat.le_of_ble_eq_true rfl) (by have z := hf (k + 1) (by omega); exact ⟨z.1, z.2.1, fun j => z.2.2 j⟩) ⟨by have := hm.1; omega, by have := hm.2; omega⟩ dX8_init_8 ?_
  refine gz_putR (k := k) (ci := 8) (j := 0) (a := w.2.2.2.1 + (k + 1)) (ty := .array .int) hc hmn lk_X8_9 rfl (show g_at (k + 2) (k) (.inl 8) from ⟨by omega, s0⟩) (by decide +kernel) rfl rfl dX8_init_10 ?_
  generalize e1 : g_upR R _ _ _ = R1
  refine gz_vret (n := k + 2) (u := 1) (v := 240) (n0 := k + 1) hc hz (by omega) hm dX8_init_13 ?_
  exact ⟨rfl, rfl, rfl, rfl, ⟨fun a a1 a2 => funext fun j => by rw [← e1, g_upR_n (by omega)], fun a a2 => funext fun j => by rw [← e1, g_upR_n (by omega)]⟩, (by rw [← e1]; exact if_pos ⟨by omega, by omega⟩)⟩
set_option maxHeartbeats 4000000 in
set_option maxRecDepth 100000 in
/-- OtherSelves$Taste.<init> -/
theorem z_X9_init (w : g_W) {I : g_I} {J : g_J} {R : g_R} {k : Nat} (s0 : g_sh k = .inl 9) (s1 : g_sh (k + 1) = .inr (0, 256)) (s2 : g_sh (k + 2) = .inr (0, 64)) (hf : ∀ a, k + 1 ≤ a → g_fr I J R a) : gz_Met w (k + 1) I J R yX9_init cX9_init 1 none 1 2 320 [gvr w k] (fun r n2 I2 J2 R2 => r = none ∧ n2 = k + 3 ∧ I2 = I ∧ J2 = J ∧ gz_kp R R2 (k) (k + 1) (k + 3) ∧ R2 (k) 0 = some (w.2.2.2.1 + (k + 1)) ∧ R2 (k) 1 = some (w.2.2.2.1 + (k + 2))) := by
  refine gz_intro (own := RX9) [some (gvr w k)] (by decide +kernel) rfl (Nat.le_of_ble_eq_true rfl) rfl (fun i v hv => g_args 0 i v hv rfl) (fun x hc hm hz hmn hgo => ?_)
  refine gq_aldn hc dX9_init_0 rfl ?_
  refine gz_obj hc mo_X9_1 mi_obj mc_obj rfl (by omega) (Nat.le_of_ble_eq_true rfl) dX9_init_1 ?_
  refine gq_aldn hc dX9_init_4 rfl ?_
  refine gq_sipush hc dX9_init_5 (by decide +kernel) ?_
  refine gz_newa (n := k + 1) (u := 0) (v := 0) (n0 := k + 1) (atype := .int) (ty := .int) (t := 0) (len := 256) hc hz (by omega) (s1) (by decide) rfl rfl rfl ac_int (by decide) (Nat.le_of_ble_eq_true rfl) (by have z := hf (k + 1) (by omega); exact ⟨z.1, z.2.1, fun j => z.2.2 j⟩) ⟨by have := hm.1; omega, by have := hm.2; omega⟩ dX9_init_8 ?_
  refine gz_putR (k := k) (ci := 9) (j := 0) (a := w.2.2.2.1 + (k + 1)) (ty := .array .int) hc hmn lk_X9_9 rfl (show g_at (k + 2) (k) (.inl 9) from ⟨by omega, s0⟩) (by decide +kernel) rfl rfl dX9_init_10 ?_
  generalize e1 : g_upR R _ _ _ = R1
  refine gq_aldn hc dX9_init_13 rfl ?_
  refine gq_bipush hc dX9_init_14 (by decide +kernel) ?_
  refine gz_newa (n := k + 2) (u := 1) (v := 256) (n0 := k + 1) (atype := .int) (ty := .int) (t := 0) (len := 64) hc hz (by omega) (s2) (by decide) rfl rfl rfl ac_int (by decide) (Nat.le_of_ble_eq_true rfl) (by have z := hf (k + 2) (by omega); exact ⟨z.1, z.2.1, fun j => by rw [← e1, g_upR_n (by omega)]; exact z.2.2 j⟩) ⟨by have := hm.1; omega, by have := hm.2; omega⟩ dX9_init_16 ?_
  refine gz_putR (k := k) (ci := 9) (j := 1) (a := w.2.2.2.1 + (k + 2)) (ty := .array .int) hc hmn lk_X9_13 rfl (show g_at (k + 3) (k) (.inl 9) from ⟨by omega, s0⟩) (by decide +kernel) rfl rfl dX9_init_18 ?_
  generalize e2 : g_upR R1 _ _ _ = R2
  refine gz_vret (n := k + 3) (u := 2) (v := 320) (n0 := k + 1) hc hz (by omega) hm dX9_init_21 ?_
  exact ⟨rfl, rfl, rfl, rfl, ⟨fun a a1 a2 => funext fun j => by rw [← e2, g_upR_n (by omega), ← e1, g_upR_n (by omega)], fun a a2 => funext fun j => by rw [← e2, g_upR_n (by omega), ← e1, g_upR_n (by omega)]⟩, (by rw [← e2, g_upR_n (by omega), ← e1]; exact if_pos ⟨by omega, by omega⟩), (by rw [← e2]; exact if_pos ⟨by omega, by omega⟩)⟩
set_option maxHeartbeats 4000000 in
set_option maxRecDepth 100000 in
/-- OtherSelves$TasteReader.<init> -/
theorem z_X10_init (w : g_W) {I : g_I} {J : g_J} {R : g_R}  : gz_Met w (548) I J R yX10_init cX10_init 2 none 1 0 0 [gvr w 547, gvr w 1] (fun r n2 I2 J2 R2 => r = none ∧ n2 = 548 ∧ I2 = I ∧ J2 = J ∧ gz_kp R R2 (547) (548) (548) ∧ R2 (547) 0 = some (w.2.2.2.1 + 1)) := by
  refine gz_intro (own := RX10) [some (gvr w 547), some (gvr w 1)] (by decide +kernel) rfl (Nat.le_of_ble_eq_true rfl) rfl (fun i v hv => g_args 0 i v hv rfl) (fun x hc hm hz hmn hgo => ?_)
  refine gq_aldn hc dX10_init_0 rfl ?_
  refine gz_obj hc mo_X10_3 mi_obj mc_obj rfl (by omega) (Nat.le_of_ble_eq_true rfl) dX10_init_1 ?_
  refine gq_aldn hc dX10_init_4 rfl ?_
  refine gq_aldn hc dX10_init_5 rfl ?_
  refine gz_putR (k := 547) (ci := 10) (j := 0) (a := w.2.2.2.1 + 1) (ty := .object "OtherSelves$Tape") hc hmn lk_X10_9 rfl (show g_at (548) (547) (.inl 10) from ⟨by omega, by decide +kernel⟩) (by decide +kernel) rfl rfl dX10_init_6 ?_
  generalize e1 : g_upR R _ _ _ = R1
  refine gz_vret (n := 548) (u := 0) (v := 0) (n0 := 548) hc hz (by omega) hm dX10_init_9 ?_
  exact ⟨rfl, rfl, rfl, rfl, ⟨fun a a1 a2 => funext fun j => by rw [← e1, g_upR_n (by omega)], fun a a2 => funext fun j => by rw [← e1, g_upR_n (by omega)]⟩, (by rw [← e1]; exact if_pos ⟨by omega, by omega⟩)⟩
set_option maxHeartbeats 4000000 in
set_option maxRecDepth 100000 in
/-- OtherSelves$Values.<init> -/
theorem z_X11_init (w : g_W) {I : g_I} {J : g_J} {R : g_R} (hf : ∀ a, 684 ≤ a → g_fr I J R a) : gz_Met w (684) I J R yX11_init cX11_init 2 none 1 2 32 [gvr w 683, gvr w 548] (fun r n2 I2 J2 R2 => r = none ∧ n2 = 686 ∧ I2 = I ∧ J2 = J ∧ gz_kp R R2 (683) (684) (686) ∧ R2 (683) 0 = some (w.2.2.2.1 + 548) ∧ R2 (683) 1 = some (w.2.2.2.1 + 684) ∧ R2 (683) 2 = some (w.2.2.2.1 + 685)) := by
  refine gz_intro (own := RX11) [some (gvr w 683), some (gvr w 548)] (by decide +kernel) rfl (Nat.le_of_ble_eq_true rfl) rfl (fun i v hv => g_args 0 i v hv rfl) (fun x hc hm hz hmn hgo => ?_)
  refine gq_aldn hc dX11_init_0 rfl ?_
  refine gz_obj hc mo_X11_3 mi_obj mc_obj rfl (by omega) (Nat.le_of_ble_eq_true rfl) dX11_init_1 ?_
  refine gq_aldn hc dX11_init_4 rfl ?_
  refine gq_bipush hc dX11_init_5 (by decide +kernel) ?_
  refine gz_newa (n := 684) (u := 0) (v := 0) (n0 := 684) (atype := .int) (ty := .int) (t := 0) (len := 12) hc hz (by omega) (by decide +kernel) (by decide) rfl rfl rfl ac_int (by decide) (Nat.le_of_ble_eq_true rfl) (by have z := hf (684) (by omega); exact ⟨z.1, z.2.1, fun j => z.2.2 j⟩) ⟨by have := hm.1; omega, by have := hm.2; omega⟩ dX11_init_7 ?_
  refine gz_putR (k := 683) (ci := 11) (j := 1) (a := w.2.2.2.1 + 684) (ty := .array .int) hc hmn lk_X11_9 rfl (show g_at (685) (683) (.inl 11) from ⟨by omega, by decide +kernel⟩) (by decide +kernel) rfl rfl dX11_init_9 ?_
  generalize e1 : g_upR R _ _ _ = R1
  refine gq_aldn hc dX11_init_12 rfl ?_
  refine gq_bipush hc dX11_init_13 (by decide +kernel) ?_
  refine gz_newa (n := 685) (u := 1) (v := 12) (n0 := 684) (atype := .int) (ty := .int) (t := 0) (len := 20) hc hz (by omega) (by decide +kernel) (by decide) rfl rfl rfl ac_int (by decide) (Nat.le_of_ble_eq_true rfl) (by have z := hf (685) (by omega); exact ⟨z.1, z.2.1, fun j => by rw [← e1, g_upR_n (by omega)]; exact z.2.2 j⟩) ⟨by have := hm.1; omega, by have := hm.2; omega⟩ dX11_init_15 ?_
  refine gz_putR (k := 683) (ci := 11) (j := 2) (a := w.2.2.2.1 + 685) (ty := .array .int) hc hmn lk_X11_15 rfl (show g_at (686) (683) (.inl 11) from ⟨by omega, by decide +kernel⟩) (by decide +kernel) rfl rfl dX11_init_17 ?_
  generalize e2 : g_upR R1 _ _ _ = R2
  refine gq_aldn hc dX11_init_20 rfl ?_
  refine gq_aldn hc dX11_init_21 rfl ?_
  refine gz_putR (k := 683) (ci := 11) (j := 0) (a := w.2.2.2.1 + 548) (ty := .object "OtherSelves$Table") hc hmn lk_X11_18 rfl (show g_at (686) (683) (.inl 11) from ⟨by omega, by decide +kernel⟩) (by decide +kernel) rfl rfl dX11_init_22 ?_
  generalize e3 : g_upR R2 _ _ _ = R3
  refine gz_vret (n := 686) (u := 2) (v := 32) (n0 := 684) hc hz (by omega) hm dX11_init_25 ?_
  exact ⟨rfl, rfl, rfl, rfl, ⟨fun a a1 a2 => funext fun j => by rw [← e3, g_upR_n (by omega), ← e2, g_upR_n (by omega), ← e1, g_upR_n (by omega)], fun a a2 => funext fun j => by rw [← e3, g_upR_n (by omega), ← e2, g_upR_n (by omega), ← e1, g_upR_n (by omega)]⟩, (by rw [← e3]; exact if_pos ⟨by omega, by omega⟩), (by rw [← e3, g_upR_n (by omega), ← e2, g_upR_n (by omega), ← e1]; exact if_pos ⟨by omega, by omega⟩), (by rw [← e3, g_upR_n (by omega), ← e2]; exact if_pos ⟨by omega, by omega⟩)⟩
set_option maxHeartbeats 4000000 in
set_option maxRecDepth 100000 in
/-- OtherSelves$Facts.<init> -/
theorem z_X2_init (w : g_W) {I : g_I} {J : g_J} {R : g_R} (hf : ∀ a, 698 ≤ a → g_fr I J R a) : gz_Met w (698) I J R yX2_init cX2_init 2 none 1 3 36 [gvr w 697, gvr w 548] (fun r n2 I2 J2 R2 => r = none ∧ n2 = 701 ∧ I2 = I ∧ J2 = J ∧ gz_kp R R2 (697) (698) (701) ∧ R2 (697) 0 = some (w.2.2.2.1 + 548) ∧ R2 (697) 1 = some (w.2.2.2.1 + 698) ∧ R2 (697) 2 = some (w.2.2.2.1 + 699) ∧ R2 (697) 3 = some (w.2.2.2.1 + 700)) := by
  refine gz_intro (own := RX2) [some (gvr w 697), some (gvr w 548)] (by decide +kernel) rfl (Nat.le_of_ble_eq_true rfl) rfl (fun i v hv => g_args 0 i v hv rfl) (fun x hc hm hz hmn hgo => ?_)
  refine gq_aldn hc dX2_init_0 rfl ?_
  refine gz_obj hc mo_X2_3 mi_obj mc_obj rfl (by omega) (Nat.le_of_ble_eq_true rfl) dX2_init_1 ?_
  refine gq_aldn hc dX2_init_4 rfl ?_
  refine gq_bipush hc dX2_init_5 (by decide +kernel) ?_
  refine gz_newa (n := 698) (u := 0) (v := 0) (n0 := 698) (atype := .int) (ty := .int) (t := 0) (len := 12) hc hz (by omega) (by decide +kernel) (by decide) rfl rfl rfl ac_int (by decide) (Nat.le_of_ble_eq_true rfl) (by have z := hf (698) (by omega); exact ⟨z.1, z.2.1, fun j => z.2.2 j⟩) ⟨by have := hm.1; omega, by have := hm.2; omega⟩ dX2_init_7 ?_
  refine gz_putR (k := 697) (ci := 2) (j := 1) (a := w.2.2.2.1 + 698) (ty := .array .int) hc hmn lk_X2_9 rfl (show g_at (699) (697) (.inl 2) from ⟨by omega, by decide +kernel⟩) (by decide +kernel) rfl rfl dX2_init_9 ?_
  generalize e1 : g_upR R _ _ _ = R1
  refine gq_aldn hc dX2_init_12 rfl ?_
  refine gq_bipush hc dX2_init_13 (by decide +kernel) ?_
  refine gz_newa (n := 699) (u := 1) (v := 12) (n0 := 698) (atype := .int) (ty := .int) (t := 0) (len := 12) hc hz (by omega) (by decide +kernel) (by decide) rfl rfl rfl ac_int (by decide) (Nat.le_of_ble_eq_true rfl) (by have z := hf (699) (by omega); exact ⟨z.1, z.2.1, fun j => by rw [← e1, g_upR_n (by omega)]; exact z.2.2 j⟩) ⟨by have := hm.1; omega, by have := hm.2; omega⟩ dX2_init_15 ?_
  refine gz_putR (k := 697) (ci := 2) (j := 2) (a := w.2.2.2.1 + 699) (ty := .array .int) hc hmn lk_X2_15 rfl (show g_at (700) (697) (.inl 2) from ⟨by omega, by decide +kernel⟩) (by decide +kernel) rfl rfl dX2_init_17 ?_
  generalize e2 : g_upR R1 _ _ _ = R2
  refine gq_aldn hc dX2_init_20 rfl ?_
  refine gq_bipush hc dX2_init_21 (by decide +kernel) ?_
  refine gz_newa (n := 700) (u := 2) (v := 24) (n0 := 698) (atype := .int) (ty := .int) (t := 0) (len := 12) hc hz (by omega) (by decide +kernel) (by decide) rfl rfl rfl ac_int (by decide) (Nat.le_of_ble_eq_true rfl) (by have z := hf (700) (by omega); exact ⟨z.1, z.2.1, fun j => by rw [← e2, g_upR_n (by omega), ← e1, g_upR_n (by omega)]; exact z.2.2 j⟩) ⟨by have := hm.1; omega, by have := hm.2; omega⟩ dX2_init_23 ?_
  refine gz_putR (k := 697) (ci := 2) (j := 3) (a := w.2.2.2.1 + 700) (ty := .array .int) hc hmn lk_X2_18 rfl (show g_at (701) (697) (.inl 2) from ⟨by omega, by decide +kernel⟩) (by decide +kernel) rfl rfl dX2_init_25 ?_
  generalize e3 : g_upR R2 _ _ _ = R3
  refine gq_aldn hc dX2_init_28 rfl ?_
  refine gq_aldn hc dX2_init_29 rfl ?_
  refine gz_putR (k := 697) (ci := 2) (j := 0) (a := w.2.2.2.1 + 548) (ty := .object "OtherSelves$Table") hc hmn lk_X2_21 rfl (show g_at (701) (697) (.inl 2) from ⟨by omega, by decide +kernel⟩) (by decide +kernel) rfl rfl dX2_init_30 ?_
  generalize e4 : g_upR R3 _ _ _ = R4
  refine gz_vret (n := 701) (u := 3) (v := 36) (n0 := 698) hc hz (by omega) hm dX2_init_33 ?_
  exact ⟨rfl, rfl, rfl, rfl, ⟨fun a a1 a2 => funext fun j => by rw [← e4, g_upR_n (by omega), ← e3, g_upR_n (by omega), ← e2, g_upR_n (by omega), ← e1, g_upR_n (by omega)], fun a a2 => funext fun j => by rw [← e4, g_upR_n (by omega), ← e3, g_upR_n (by omega), ← e2, g_upR_n (by omega), ← e1, g_upR_n (by omega)]⟩, (by rw [← e4]; exact if_pos ⟨by omega, by omega⟩), (by rw [← e4, g_upR_n (by omega), ← e3, g_upR_n (by omega), ← e2, g_upR_n (by omega), ← e1]; exact if_pos ⟨by omega, by omega⟩), (by rw [← e4, g_upR_n (by omega), ← e3, g_upR_n (by omega), ← e2]; exact if_pos ⟨by omega, by omega⟩), (by rw [← e4, g_upR_n (by omega), ← e3]; exact if_pos ⟨by omega, by omega⟩)⟩
set_option maxHeartbeats 4000000 in
set_option maxRecDepth 100000 in
/-- OtherSelves$Births.<init> -/
theorem z_X0_init (w : g_W) {I : g_I} {J : g_J} {R : g_R} (hf : ∀ a, 702 ≤ a → g_fr I J R a) : gz_Met w (702) I J R yX0_init cX0_init 2 none 1 1 60 [gvr w 701, gvr w 548] (fun r n2 I2 J2 R2 => r = none ∧ n2 = 703 ∧ I2 = I ∧ J2 = J ∧ gz_kp R R2 (701) (702) (703) ∧ R2 (701) 0 = some (w.2.2.2.1 + 548) ∧ R2 (701) 1 = some (w.2.2.2.1 + 702)) := by
  refine gz_intro (own := RX0) [some (gvr w 701), some (gvr w 548)] (by decide +kernel) rfl (Nat.le_of_ble_eq_true rfl) rfl (fun i v hv => g_args 0 i v hv rfl) (fun x hc hm hz hmn hgo => ?_)
  refine gq_aldn hc dX0_init_0 rfl ?_
  refine gz_obj hc mo_X0_3 mi_obj mc_obj rfl (by omega) (Nat.le_of_ble_eq_true rfl) dX0_init_1 ?_
  refine gq_aldn hc dX0_init_4 rfl ?_
  refine gq_bipush hc dX0_init_5 (by decide +kernel) ?_
  refine gz_newa (n := 702) (u := 0) (v := 0) (n0 := 702) (atype := .int) (ty := .int) (t := 0) (len := 60) hc hz (by omega) (by decide +kernel) (by decide) rfl rfl rfl ac_int (by decide) (Nat.le_of_ble_eq_true rfl) (by have z := hf (702) (by omega); exact ⟨z.1, z.2.1, fun j => z.2.2 j⟩) ⟨by have := hm.1; omega, by have := hm.2; omega⟩ dX0_init_7 ?_
  refine gz_putR (k := 701) (ci := 0) (j := 1) (a := w.2.2.2.1 + 702) (ty := .array .int) hc hmn lk_X0_9 rfl (show g_at (703) (701) (.inl 0) from ⟨by omega, by decide +kernel⟩) (by decide +kernel) rfl rfl dX0_init_9 ?_
  generalize e1 : g_upR R _ _ _ = R1
  refine gq_aldn hc dX0_init_12 rfl ?_
  refine gq_aldn hc dX0_init_13 rfl ?_
  refine gz_putR (k := 701) (ci := 0) (j := 0) (a := w.2.2.2.1 + 548) (ty := .object "OtherSelves$Table") hc hmn lk_X0_15 rfl (show g_at (703) (701) (.inl 0) from ⟨by omega, by decide +kernel⟩) (by decide +kernel) rfl rfl dX0_init_14 ?_
  generalize e2 : g_upR R1 _ _ _ = R2
  refine gz_vret (n := 703) (u := 1) (v := 60) (n0 := 702) hc hz (by omega) hm dX0_init_17 ?_
  exact ⟨rfl, rfl, rfl, rfl, ⟨fun a a1 a2 => funext fun j => by rw [← e2, g_upR_n (by omega), ← e1, g_upR_n (by omega)], fun a a2 => funext fun j => by rw [← e2, g_upR_n (by omega), ← e1, g_upR_n (by omega)]⟩, (by rw [← e2]; exact if_pos ⟨by omega, by omega⟩), (by rw [← e2, g_upR_n (by omega), ← e1]; exact if_pos ⟨by omega, by omega⟩)⟩
set_option maxHeartbeats 4000000 in
set_option maxRecDepth 100000 in
/-- OtherSelves$State.<init> -/
theorem z_X6_init (w : g_W) {I : g_I} {J : g_J} {R : g_R} (hf : ∀ a, 550 ≤ a → g_fr I J R a) : gz_Met w (550) I J R yX6_init cX6_init 1 none 1 4 128 [gvr w 549] (fun r n2 I2 J2 R2 => r = none ∧ n2 = 554 ∧ I2 = (g_up (g_up I 550 1 (-1)) 550 2 (-1)) ∧ J2 = J ∧ gz_kp R R2 (549) (550) (554) ∧ R2 (549) 0 = some (w.2.2.2.1 + 550) ∧ R2 (549) 1 = some (w.2.2.2.1 + 551) ∧ R2 (549) 2 = some (w.2.2.2.1 + 552) ∧ R2 (549) 3 = some (w.2.2.2.1 + 553)) := by
  refine gz_intro (own := RX6) [some (gvr w 549)] (by decide +kernel) rfl (Nat.le_of_ble_eq_true rfl) rfl (fun i v hv => g_args 0 i v hv rfl) (fun x hc hm hz hmn hgo => ?_)
  refine gq_aldn hc dX6_init_0 rfl ?_
  refine gz_obj hc mo_X6_3 mi_obj mc_obj rfl (by omega) (Nat.le_of_ble_eq_true rfl) dX6_init_1 ?_
  refine gq_aldn hc dX6_init_4 rfl ?_
  refine gq_bipush hc dX6_init_5 (by decide +kernel) ?_
  refine gz_newa (n := 550) (u := 0) (v := 0) (n0 := 550) (atype := .int) (ty := .int) (t := 0) (len := 24) hc hz (by omega) (by decide +kernel) (by decide) rfl rfl rfl ac_int (by decide) (Nat.le_of_ble_eq_true rfl) (by have z := hf (550) (by omega); exact ⟨z.1, z.2.1, fun j => z.2.2 j⟩) ⟨by have := hm.1; omega, by have := hm.2; omega⟩ dX6_init_7 ?_
  refine gz_putR (k := 549) (ci := 6) (j := 0) (a := w.2.2.2.1 + 550) (ty := .array .int) hc hmn lk_X6_9 rfl (show g_at (551) (549) (.inl 6) from ⟨by omega, by decide +kernel⟩) (by decide +kernel) rfl rfl dX6_init_9 ?_
  generalize e1 : g_upR R _ _ _ = R1
  refine gq_aldn hc dX6_init_12 rfl ?_
  refine gq_bipush hc dX6_init_13 (by decide +kernel) ?_
  refine gz_newa (n := 551) (u := 1) (v := 24) (n0 := 550) (atype := .int) (ty := .int) (t := 0) (len := 24) hc hz (by omega) (by decide +kernel) (by decide) rfl rfl rfl ac_int (by decide) (Nat.le_of_ble_eq_true rfl) (by have z := hf (551) (by omega); exact ⟨z.1, z.2.1, fun j => by rw [← e1, g_upR_n (by omega)]; exact z.2.2 j⟩) ⟨by have := hm.1; omega, by have := hm.2; omega⟩ dX6_init_15 ?_
  refine gz_putR (k := 549) (ci := 6) (j := 1) (a := w.2.2.2.1 + 551) (ty := .array .int) hc hmn lk_X6_15 rfl (show g_at (552) (549) (.inl 6) from ⟨by omega, by decide +kernel⟩) (by decide +kernel) rfl rfl dX6_init_17 ?_
  generalize e2 : g_upR R1 _ _ _ = R2
  refine gq_aldn hc dX6_init_20 rfl ?_
  refine gq_bipush hc dX6_init_21 (by decide +kernel) ?_
  refine gz_newa (n := 552) (u := 2) (v := 48) (n0 := 550) (atype := .int) (ty := .int) (t := 0) (len := 40) hc hz (by omega) (by decide +kernel) (by decide) rfl rfl rfl ac_int (by decide) (Nat.le_of_ble_eq_true rfl) (by have z := hf (552) (by omega); exact ⟨z.1, z.2.1, fun j => by rw [← e2, g_upR_n (by omega), ← e1, g_upR_n (by omega)]; exact z.2.2 j⟩) ⟨by have := hm.1; omega, by have := hm.2; omega⟩ dX6_init_23 ?_
  refine gz_putR (k := 549) (ci := 6) (j := 2) (a := w.2.2.2.1 + 552) (ty := .array .int) hc hmn lk_X6_18 rfl (show g_at (553) (549) (.inl 6) from ⟨by omega, by decide +kernel⟩) (by decide +kernel) rfl rfl dX6_init_25 ?_
  generalize e3 : g_upR R2 _ _ _ = R3
  refine gq_aldn hc dX6_init_28 rfl ?_
  refine gq_bipush hc dX6_init_29 (by decide +kernel) ?_
  refine gz_newa (n := 553) (u := 3) (v := 88) (n0 := 550) (atype := .int) (ty := .int) (t := 0) (len := 40) hc hz (by omega) (by decide +kernel) (by decide) rfl rfl rfl ac_int (by decide) (Nat.le_of_ble_eq_true rfl) (by have z := hf (553) (by omega); exact ⟨z.1, z.2.1, fun j => by rw [← e3, g_upR_n (by omega), ← e2, g_upR_n (by omega), ← e1, g_upR_n (by omega)]; exact z.2.2 j⟩) ⟨by have := hm.1; omega, by have := hm.2; omega⟩ dX6_init_31 ?_
  refine gz_putR (k := 549) (ci := 6) (j := 3) (a := w.2.2.2.1 + 553) (ty := .array .int) hc hmn lk_X6_21 rfl (show g_at (554) (549) (.inl 6) from ⟨by omega, by decide +kernel⟩) (by decide +kernel) rfl rfl dX6_init_33 ?_
  generalize e4 : g_upR R3 _ _ _ = R4
  refine gq_aldn hc dX6_init_36 rfl ?_
  refine gq_getR (k := 549) (ci := 6) (j := 0) (a := w.2.2.2.1 + 550) hc lk_X6_9 (show g_at (554) (549) (.inl 6) from ⟨by omega, by decide +kernel⟩) (by rw [← e4, g_upR_n (by omega), ← e3, g_upR_n (by omega), ← e2, g_upR_n (by omega), ← e1]; exact if_pos ⟨by omega, by omega⟩) dX6_init_37 ?_
  refine gq_iconst hc dX6_init_40 ?_
  refine gq_iconst hc dX6_init_41 ?_
  refine gq_iast (k := 550) (i := 1) (z := (-1)) hc (show g_at (554) (550) (.inr (0, 24)) from ⟨by omega, by decide +kernel⟩) (by decide) (by omega) (by omega) dX6_init_42 ?_
  refine gq_aldn hc dX6_init_43 rfl ?_
  refine gq_getR (k := 549) (ci := 6) (j := 0) (a := w.2.2.2.1 + 550) hc lk_X6_9 (show g_at (554) (549) (.inl 6) from ⟨by omega, by decide +kernel⟩) (by rw [← e4, g_upR_n (by omega), ← e3, g_upR_n (by omega), ← e2, g_upR_n (by omega), ← e1]; exact if_pos ⟨by omega, by omega⟩) dX6_init_44 ?_
  refine gq_iconst hc dX6_init_47 ?_
  refine gq_iconst hc dX6_init_48 ?_
  refine gq_iast (k := 550) (i := 2) (z := (-1)) hc (show g_at (554) (550) (.inr (0, 24)) from ⟨by omega, by decide +kernel⟩) (by decide) (by omega) (by omega) dX6_init_49 ?_
  refine gz_vret (n := 554) (u := 4) (v := 128) (n0 := 550) hc hz (by omega) hm dX6_init_50 ?_
  exact ⟨rfl, rfl, rfl, rfl, ⟨fun a a1 a2 => funext fun j => by rw [← e4, g_upR_n (by omega), ← e3, g_upR_n (by omega), ← e2, g_upR_n (by omega), ← e1, g_upR_n (by omega)], fun a a2 => funext fun j => by rw [← e4, g_upR_n (by omega), ← e3, g_upR_n (by omega), ← e2, g_upR_n (by omega), ← e1, g_upR_n (by omega)]⟩, (by rw [← e4, g_upR_n (by omega), ← e3, g_upR_n (by omega), ← e2, g_upR_n (by omega), ← e1]; exact if_pos ⟨by omega, by omega⟩), (by rw [← e4, g_upR_n (by omega), ← e3, g_upR_n (by omega), ← e2]; exact if_pos ⟨by omega, by omega⟩), (by rw [← e4, g_upR_n (by omega), ← e3]; exact if_pos ⟨by omega, by omega⟩), (by rw [← e4]; exact if_pos ⟨by omega, by omega⟩)⟩
set_option maxHeartbeats 4000000 in
set_option maxRecDepth 100000 in
/-- OtherSelves$Items.<init> -/
theorem z_X3_init (w : g_W) {I : g_I} {J : g_J} {R : g_R} {k sa i1 i2 i3 : Nat} {q : String × List Int} (hq : g_sar[i3]? = some q) (hq5 : q.2.length ≤ 5) (s0 : g_sh k = .inl 3) (s1 : g_sh (k + 1) = .inr (0, q.2.length)) (hf : ∀ a, k + 1 ≤ a → g_fr I J R a) : gz_Met w (k + 1) I J R yX3_init cX3_init 5 none 1 1 q.2.length [gvr w k, .ref (w.2.2.2.2 sa), .ref (w.2.2.2.2 i1), .ref (w.2.2.2.2 i2), .ref (w.2.2.2.2 i3)] (fun r n2 I2 J2 R2 => r = none ∧ n2 = k + 2 ∧ I2 = I ∧ J2 = J ∧ gz_kp R R2 (k) (k + 1) (k + 2) ∧ R2 k 0 = some (w.2.2.2.2 sa) ∧ R2 k 1 = some (w.2.2.2.2 i1) ∧ R2 k 2 = some (w.2.2.2.2 i2) ∧ R2 k 3 = some (w.2.2.2.2 i3) ∧ R2 k 4 = some (w.2.2.2.1 + (k + 1))) := by
  refine gz_intro (own := RX3) [some (gvr w k), some (.ref (w.2.2.2.2 sa)), some (.ref (w.2.2.2.2 i1)), some (.ref (w.2.2.2.2 i2)), some (.ref (w.2.2.2.2 i3))] (by decide +kernel) rfl (Nat.le_of_ble_eq_true rfl) rfl (fun i v hv => g_args 0 i v hv rfl) (fun x hc hm hz hmn hgo => ?_)
  refine gq_aldn hc dX3_init_0 rfl ?_
  refine gz_obj hc mo_X3_3 mi_obj mc_obj rfl (by omega) (Nat.le_of_ble_eq_true rfl) dX3_init_1 ?_
  refine gq_aldn hc dX3_init_4 rfl ?_
  refine gq_aload_n hc dX3_init_5 rfl ?_
  refine gz_putR (k := k) (ci := 3) (j := 0) (a := w.2.2.2.2 sa) (ty := .object "java/lang/String") hc hmn lk_X3_9 rfl (show g_at (k + 1) (k) (.inl 3) from ⟨by omega, s0⟩) (by decide +kernel) rfl rfl dX3_init_6 ?_
  generalize e1 : g_upR R _ _ _ = R1
  refine gq_aldn hc dX3_init_9 rfl ?_
  refine gq_aload_n hc dX3_init_10 rfl ?_
  refine gz_putR (k := k) (ci := 3) (j := 1) (a := w.2.2.2.2 i1) (ty := .array .int) hc hmn lk_X3_15 rfl (show g_at (k + 1) (k) (.inl 3) from ⟨by omega, s0⟩) (by decide +kernel) rfl rfl dX3_init_11 ?_
  generalize e2 : g_upR R1 _ _ _ = R2
  refine gq_aldn hc dX3_init_14 rfl ?_
  refine gq_aload_n hc dX3_init_15 rfl ?_
  refine gz_putR (k := k) (ci := 3) (j := 2) (a := w.2.2.2.2 i2) (ty := .array .int) hc hmn lk_X3_19 rfl (show g_at (k + 1) (k) (.inl 3) from ⟨by omega, s0⟩) (by decide +kernel) rfl rfl dX3_init_16 ?_
  generalize e3 : g_upR R2 _ _ _ = R3
  refine gq_aldn hc dX3_init_19 rfl ?_
  refine gq_aload hc dX3_init_20 rfl ?_
  refine gz_putR (k := k) (ci := 3) (j := 3) (a := w.2.2.2.2 i3) (ty := .array .int) hc hmn lk_X3_22 rfl (show g_at (k + 1) (k) (.inl 3) from ⟨by omega, s0⟩) (by decide +kernel) rfl rfl dX3_init_22 ?_
  generalize e4 : g_upR R3 _ _ _ = R4
  refine gq_aldn hc dX3_init_25 rfl ?_
  refine gq_aload hc dX3_init_26 rfl ?_
  refine gq_talen hc hq dX3_init_28 ?_
  refine gz_newa (n := k + 1) (u := 0) (v := 0) (n0 := k + 1) (atype := .int) (ty := .int) (t := 0) (len := q.2.length) hc hz (by omega) s1 (by decide) rfl rfl rfl ac_int (by omega) (by show q.2.length * 4 ≤ _; omega) (by have z := hf (k + 1) (by omega); exact ⟨z.1, z.2.1, fun j => by rw [← e4, g_upR_n (by omega), ← e3, g_upR_n (by omega), ← e2, g_upR_n (by omega), ← e1, g_upR_n (by omega)]; exact z.2.2 j⟩) ⟨by have := hm.1; omega, by have := hm.2; omega⟩ dX3_init_29 ?_
  refine gz_putR (k := k) (ci := 3) (j := 4) (a := w.2.2.2.1 + (k + 1)) (ty := .array .int) hc hmn lk_X3_25 rfl (show g_at (k + 2) (k) (.inl 3) from ⟨by omega, s0⟩) (by decide +kernel) rfl rfl dX3_init_31 ?_
  generalize e5 : g_upR R4 _ _ _ = R5
  refine gz_vret (n := k + 2) (u := 1) (v := 0 + q.2.length) (n0 := k + 1) hc hz (by omega) ⟨hm.1, hm.2.trans (Nat.zero_add _).symm⟩ dX3_init_34 ?_
  exact ⟨rfl, rfl, rfl, rfl, ⟨fun a a1 a2 => funext fun j => by rw [← e5, g_upR_n (by omega), ← e4, g_upR_n (by omega), ← e3, g_upR_n (by omega), ← e2, g_upR_n (by omega), ← e1, g_upR_n (by omega)], fun a a2 => funext fun j => by rw [← e5, g_upR_n (by omega), ← e4, g_upR_n (by omega), ← e3, g_upR_n (by omega), ← e2, g_upR_n (by omega), ← e1, g_upR_n (by omega)]⟩, (by rw [← e5, g_upR_n (by omega), ← e4, g_upR_n (by omega), ← e3, g_upR_n (by omega), ← e2, g_upR_n (by omega), ← e1]; exact if_pos ⟨by omega, by omega⟩), (by rw [← e5, g_upR_n (by omega), ← e4, g_upR_n (by omega), ← e3, g_upR_n (by omega), ← e2]; exact if_pos ⟨by omega, by omega⟩), (by rw [← e5, g_upR_n (by omega), ← e4, g_upR_n (by omega), ← e3]; exact if_pos ⟨by omega, by omega⟩), (by rw [← e5, g_upR_n (by omega), ← e4]; exact if_pos ⟨by omega, by omega⟩), (by rw [← e5]; exact if_pos ⟨by omega, by omega⟩)⟩
set_option maxHeartbeats 4000000 in
set_option maxRecDepth 100000 in
/-- OtherSelves$Council.<init> -/
theorem z_X1_init (w : g_W) {I : g_I} {J : g_J} {R : g_R} (hf : ∀ a, 687 ≤ a → g_fr I J R a) : gz_Met w (687) I J R yX1_init cX1_init 3 none 1 10 108 [gvr w 686, gvr w 548, gvr w 683] (fun r n2 I2 J2 R2 => r = none ∧ n2 = 697 ∧ I2 = I ∧ J2 = J ∧ gz_kp R R2 (686) (687) (697) ∧ R2 (686) 0 = some (w.2.2.2.1 + 548) ∧ R2 (686) 1 = some (w.2.2.2.1 + 683) ∧ R2 (686) 2 = some (w.2.2.2.1 + 687) ∧ R2 (686) 3 = some (w.2.2.2.1 + 688) ∧ R2 (686) 4 = some (w.2.2.2.1 + 689) ∧ R2 (686) 5 = some (w.2.2.2.1 + 690) ∧ (∀ i : Int, 0 ≤ i → i < 6 → R2 690 i = some (w.2.2.2.1 + (691 + i.toNat)))) := by
  refine gz_intro (own := RX1) [some (gvr w 686), some (gvr w 548), some (gvr w 683)] (by decide +kernel) rfl (Nat.le_of_ble_eq_true rfl) rfl (fun i v hv => g_args 0 i v hv rfl) (fun x hc hm hz hmn hgo => ?_)
  refine gq_aldn hc dX1_init_0 rfl ?_
  refine gz_obj hc mo_X1_3 mi_obj mc_obj rfl (by omega) (Nat.le_of_ble_eq_true rfl) dX1_init_1 ?_
  refine gq_aldn hc dX1_init_4 rfl ?_
  refine gq_bipush hc dX1_init_5 (by decide +kernel) ?_
  refine gz_newa (n := 687) (u := 0) (v := 0) (n0 := 687) (atype := .int) (ty := .int) (t := 0) (len := 12) hc hz (by omega) (by decide +kernel) (by decide) rfl rfl rfl ac_int (by decide) (Nat.le_of_ble_eq_true rfl) (by have z := hf (687) (by omega); exact ⟨z.1, z.2.1, fun j => z.2.2 j⟩) ⟨by have := hm.1; omega, by have := hm.2; omega⟩ dX1_init_7 ?_
  refine gz_putR (k := 686) (ci := 1) (j := 2) (a := w.2.2.2.1 + 687) (ty := .array .int) hc hmn lk_X1_9 rfl (show g_at (688) (686) (.inl 1) from ⟨by omega, by decide +kernel⟩) (by decide +kernel) rfl rfl dX1_init_9 ?_
  generalize e1 : g_upR R _ _ _ = R1
  refine gq_aldn hc dX1_init_12 rfl ?_
  refine gq_bipush hc dX1_init_13 (by decide +kernel) ?_
  refine gz_newa (n := 688) (u := 1) (v := 12) (n0 := 687) (atype := .int) (ty := .int) (t := 0) (len := 12) hc hz (by omega) (by decide +kernel) (by decide) rfl rfl rfl ac_int (by decide) (Nat.le_of_ble_eq_true rfl) (by have z := hf (688) (by omega); exact ⟨z.1, z.2.1, fun j => by rw [← e1, g_upR_n (by omega)]; exact z.2.2 j⟩) ⟨by have := hm.1; omega, by have := hm.2; omega⟩ dX1_init_15 ?_
  refine gz_putR (k := 686) (ci := 1) (j := 3) (a := w.2.2.2.1 + 688) (ty := .array .int) hc hmn lk_X1_15 rfl (show g_at (689) (686) (.inl 1) from ⟨by omega, by decide +kernel⟩) (by decide +kernel) rfl rfl dX1_init_17 ?_
  generalize e2 : g_upR R1 _ _ _ = R2
  refine gq_aldn hc dX1_init_20 rfl ?_
  refine gq_bipush hc dX1_init_21 (by decide +kernel) ?_
  refine gz_newa (n := 689) (u := 2) (v := 24) (n0 := 687) (atype := .int) (ty := .int) (t := 0) (len := 6) hc hz (by omega) (by decide +kernel) (by decide) rfl rfl rfl ac_int (by decide) (Nat.le_of_ble_eq_true rfl) (by have z := hf (689) (by omega); exact ⟨z.1, z.2.1, fun j => by rw [← e2, g_upR_n (by omega), ← e1, g_upR_n (by omega)]; exact z.2.2 j⟩) ⟨by have := hm.1; omega, by have := hm.2; omega⟩ dX1_init_23 ?_
  refine gz_putR (k := 686) (ci := 1) (j := 4) (a := w.2.2.2.1 + 689) (ty := .array .int) hc hmn lk_X1_18 rfl (show g_at (690) (686) (.inl 1) from ⟨by omega, by decide +kernel⟩) (by decide +kernel) rfl rfl dX1_init_25 ?_
  generalize e3 : g_upR R2 _ _ _ = R3
  refine gq_aldn hc dX1_init_28 rfl ?_
  refine gq_bipush hc dX1_init_29 (by decide +kernel) ?_
  refine gq_bipush hc dX1_init_31 (by decide +kernel) ?_
  refine gz_mna (n := 690) (u := 3) (v := 30) (n0 := 687) (N := 6) (K := 12) hc hz (by omega) (by decide +kernel) ((by decide +kernel : ∀ i, i < 6 → g_sh (690 + 1 + i) = .inr (0, 12))) cl_X1_21 hgo.1.2.2 ac_int (by decide) (by decide) (Nat.le_of_ble_eq_true rfl) (Nat.le_of_ble_eq_true rfl) (fun i hi => (by have z := hf (690 + i) (by omega); exact ⟨z.1, z.2.1, fun j => by rw [← e3, g_upR_n (by omega), ← e2, g_upR_n (by omega), ← e1, g_upR_n (by omega)]; exact z.2.2 j⟩)) ⟨by have := hm.1; omega, by have := hm.2; omega⟩ dX1_init_33 ?_
  generalize e4 : gz_up w R3 _ _ = R4
  refine gz_putR (k := 686) (ci := 1) (j := 5) (a := w.2.2.2.1 + 690) (ty := .array (.array .int)) hc hmn lk_X1_23 rfl (show g_at (697) (686) (.inl 1) from ⟨by omega, by decide +kernel⟩) (by decide +kernel) rfl rfl dX1_init_37 ?_
  generalize e5 : g_upR R4 _ _ _ = R5
  refine gq_aldn hc dX1_init_40 rfl ?_
  refine gq_aldn hc dX1_init_41 rfl ?_
  refine gz_putR (k := 686) (ci := 1) (j := 0) (a := w.2.2.2.1 + 548) (ty := .object "OtherSelves$Table") hc hmn lk_X1_26 rfl (show g_at (697) (686) (.inl 1) from ⟨by omega, by decide +kernel⟩) (by decide +kernel) rfl rfl dX1_init_42 ?_
  generalize e6 : g_upR R5 _ _ _ = R6
  refine gq_aldn hc dX1_init_45 rfl ?_
  refine gq_aldn hc dX1_init_46 rfl ?_
  refine gz_putR (k := 686) (ci := 1) (j := 1) (a := w.2.2.2.1 + 683) (ty := .object "OtherSelves$Values") hc hmn lk_X1_30 rfl (show g_at (697) (686) (.inl 1) from ⟨by omega, by decide +kernel⟩) (by decide +kernel) rfl rfl dX1_init_47 ?_
  generalize e7 : g_upR R6 _ _ _ = R7
  refine gz_vret (n := 697) (u := 10) (v := 108) (n0 := 687) hc hz (by omega) hm dX1_init_50 ?_
  exact ⟨rfl, rfl, rfl, rfl, ⟨fun a a1 a2 => funext fun j => by rw [← e7, g_upR_n (by omega), ← e6, g_upR_n (by omega), ← e5, g_upR_n (by omega), ← e4, gz_up_n (by omega), ← e3, g_upR_n (by omega), ← e2, g_upR_n (by omega), ← e1, g_upR_n (by omega)], fun a a2 => funext fun j => by rw [← e7, g_upR_n (by omega), ← e6, g_upR_n (by omega), ← e5, g_upR_n (by omega), ← e4, gz_up_n (by omega), ← e3, g_upR_n (by omega), ← e2, g_upR_n (by omega), ← e1, g_upR_n (by omega)]⟩, (by rw [← e7, g_upR_n (by omega), ← e6]; exact if_pos ⟨by omega, by omega⟩), (by rw [← e7]; exact if_pos ⟨by omega, by omega⟩), (by rw [← e7, g_upR_n (by omega), ← e6, g_upR_n (by omega), ← e5, g_upR_n (by omega), ← e4, gz_up_n (by omega), ← e3, g_upR_n (by omega), ← e2, g_upR_n (by omega), ← e1]; exact if_pos ⟨by omega, by omega⟩), (by rw [← e7, g_upR_n (by omega), ← e6, g_upR_n (by omega), ← e5, g_upR_n (by omega), ← e4, gz_up_n (by omega), ← e3, g_upR_n (by omega), ← e2]; exact if_pos ⟨by omega, by omega⟩), (by rw [← e7, g_upR_n (by omega), ← e6, g_upR_n (by omega), ← e5, g_upR_n (by omega), ← e4, gz_up_n (by omega), ← e3]; exact if_pos ⟨by omega, by omega⟩), (by rw [← e7, g_upR_n (by omega), ← e6, g_upR_n (by omega), ← e5]; exact if_pos ⟨by omega, by omega⟩), fun i h0 h1 => (by rw [← e7, g_upR_n (by omega), ← e6, g_upR_n (by omega), ← e5, g_upR_n (by omega), ← e4]; exact if_pos ⟨rfl, h0, h1⟩)⟩
set_option maxHeartbeats 4000000 in
set_option maxRecDepth 100000 in
/-- OtherSelves$Life.<init> -/
theorem z_X4_init (w : g_W) {I : g_I} {J : g_J} {R : g_R} {b : Nat} (hlb : g_life b) (hf : ∀ a, b + 1 ≤ a → g_fr I J R a) : gz_Met w (b + 1) I J R yX4_init cX4_init 1 none 1 127 936 [gvr w b] (fun r n2 I2 J2 R2 => r = none ∧ n2 = b + 128 ∧ I2 = I ∧ J2 = J ∧ gz_kp R R2 (b) (b + 1) (b + 128) ∧ g_rfL w R2 b) := by
  refine gz_intro (own := RX4) [some (gvr w b)] (by decide +kernel) rfl (Nat.le_of_ble_eq_true rfl) rfl (fun i v hv => g_args 0 i v hv rfl) (fun x hc hm hz hmn hgo => ?_)
  refine gq_aldn hc dX4_init_0 rfl ?_
  refine gz_obj hc mo_X4_3 mi_obj mc_obj rfl (by omega) (Nat.le_of_ble_eq_true rfl) dX4_init_1 ?_
  refine gq_aldn hc dX4_init_4 rfl ?_
  refine gq_bipush hc dX4_init_5 (by decide +kernel) ?_
  refine gq_bipush hc dX4_init_7 (by decide +kernel) ?_
  refine gz_mna (n := b + 1) (u := 0) (v := 0) (n0 := b + 1) (N := 12) (K := 7) hc hz (by omega) ((gl_sh hlb (o := 1) (by decide)).trans (by decide +kernel)) ((fun i hi => by rw [show b + 1 + 1 + i = b + (2 + i) by omega, gl_sh hlb (by omega)]; exact gl_r1 i hi)) cl_X4_9 hgo.1.2.2 ac_int (by decide) (by decide) (Nat.le_of_ble_eq_true rfl) (Nat.le_of_ble_eq_true rfl) (fun i hi => (by have z := hf (b + 1 + i) (by omega); exact ⟨z.1, z.2.1, fun j => z.2.2 j⟩)) ⟨by have := hm.1; omega, by have := hm.2; omega⟩ dX4_init_9 ?_
  generalize e1 : gz_up w R _ _ = R1
  refine gz_putR (k := b) (ci := 4) (j := 2) (a := w.2.2.2.1 + (b + 1)) (ty := .array (.array .int)) hc hmn lk_X4_11 rfl (show g_at (b + 14) (b) (.inl 4) from ⟨by omega, (gl_sh hlb (o := 0) (by decide)).trans rfl⟩) (by decide +kernel) rfl rfl dX4_init_13 ?_
  generalize e2 : g_upR R1 _ _ _ = R2
  refine gq_aldn hc dX4_init_16 rfl ?_
  refine gq_bipush hc dX4_init_17 (by decide +kernel) ?_
  refine gz_newa (n := b + 14) (u := 13) (v := 96) (n0 := b + 1) (atype := .int) (ty := .int) (t := 0) (len := 12) hc hz (by omega) ((gl_sh hlb (o := 14) (by decide)).trans (by decide +kernel)) (by decide) rfl rfl rfl ac_int (by decide) (Nat.le_of_ble_eq_true rfl) (by have z := hf (b + 14) (by omega); exact ⟨z.1, z.2.1, fun j => by rw [← e2, g_upR_n (by omega), ← e1, gz_up_n (by omega)]; exact z.2.2 j⟩) ⟨by have := hm.1; omega, by have := hm.2; omega⟩ dX4_init_19 ?_
  refine gz_putR (k := b) (ci := 4) (j := 3) (a := w.2.2.2.1 + (b + 14)) (ty := .array .int) hc hmn lk_X4_16 rfl (show g_at (b + 15) (b) (.inl 4) from ⟨by omega, (gl_sh hlb (o := 0) (by decide)).trans rfl⟩) (by decide +kernel) rfl rfl dX4_init_21 ?_
  generalize e3 : g_upR R2 _ _ _ = R3
  refine gq_aldn hc dX4_init_24 rfl ?_
  refine gq_bipush hc dX4_init_25 (by decide +kernel) ?_
  refine gq_bipush hc dX4_init_27 (by decide +kernel) ?_
  refine gz_mna (n := b + 15) (u := 14) (v := 108) (n0 := b + 1) (N := 12) (K := 6) hc hz (by omega) ((gl_sh hlb (o := 15) (by decide)).trans (by decide +kernel)) ((fun i hi => by rw [show b + 15 + 1 + i = b + (16 + i) by omega, gl_sh hlb (by omega)]; exact gl_r2 i hi)) cl_X4_9 hgo.1.2.2 ac_int (by decide) (by decide) (Nat.le_of_ble_eq_true rfl) (Nat.le_of_ble_eq_true rfl) (fun i hi => (by have z := hf (b + 15 + i) (by omega); exact ⟨z.1, z.2.1, fun j => by rw [← e3, g_upR_n (by omega), ← e2, g_upR_n (by omega), ← e1, gz_up_n (by omega)]; exact z.2.2 j⟩)) ⟨by have := hm.1; omega, by have := hm.2; omega⟩ dX4_init_29 ?_
  generalize e4 : gz_up w R3 _ _ = R4
  refine gz_putR (k := b) (ci := 4) (j := 4) (a := w.2.2.2.1 + (b + 15)) (ty := .array (.array .int)) hc hmn lk_X4_20 rfl (show g_at (b + 28) (b) (.inl 4) from ⟨by omega, (gl_sh hlb (o := 0) (by decide)).trans rfl⟩) (by decide +kernel) rfl rfl dX4_init_33 ?_
  generalize e5 : g_upR R4 _ _ _ = R5
  refine gq_aldn hc dX4_init_36 rfl ?_
  refine gq_bipush hc dX4_init_37 (by decide +kernel) ?_
  refine gq_bipush hc dX4_init_39 (by decide +kernel) ?_
  refine gz_mna (n := b + 28) (u := 27) (v := 192) (n0 := b + 1) (N := 12) (K := 6) hc hz (by omega) ((gl_sh hlb (o := 28) (by decide)).trans (by decide +kernel)) ((fun i hi => by rw [show b + 28 + 1 + i = b + (29 + i) by omega, gl_sh hlb (by omega)]; exact gl_r3 i hi)) cl_X4_9 hgo.1.2.2 ac_int (by decide) (by decide) (Nat.le_of_ble_eq_true rfl) (Nat.le_of_ble_eq_true rfl) (fun i hi => (by have z := hf (b + 28 + i) (by omega); exact ⟨z.1, z.2.1, fun j => by rw [← e5, g_upR_n (by omega), ← e4, gz_up_n (by omega), ← e3, g_upR_n (by omega), ← e2, g_upR_n (by omega), ← e1, gz_up_n (by omega)]; exact z.2.2 j⟩)) ⟨by have := hm.1; omega, by have := hm.2; omega⟩ dX4_init_41 ?_
  generalize e6 : gz_up w R5 _ _ = R6
  refine gz_putR (k := b) (ci := 4) (j := 5) (a := w.2.2.2.1 + (b + 28)) (ty := .array (.array .int)) hc hmn lk_X4_23 rfl (show g_at (b + 41) (b) (.inl 4) from ⟨by omega, (gl_sh hlb (o := 0) (by decide)).trans rfl⟩) (by decide +kernel) rfl rfl dX4_init_45 ?_
  generalize e7 : g_upR R6 _ _ _ = R7
  refine gq_aldn hc dX4_init_48 rfl ?_
  refine gq_bipush hc dX4_init_49 (by decide +kernel) ?_
  refine gz_newa (n := b + 41) (u := 40) (v := 276) (n0 := b + 1) (atype := .int) (ty := .int) (t := 0) (len := 20) hc hz (by omega) ((gl_sh hlb (o := 41) (by decide)).trans (by decide +kernel)) (by decide) rfl rfl rfl ac_int (by decide) (Nat.le_of_ble_eq_true rfl) (by have z := hf (b + 41) (by omega); exact ⟨z.1, z.2.1, fun j => by rw [← e7, g_upR_n (by omega), ← e6, gz_up_n (by omega), ← e5, g_upR_n (by omega), ← e4, gz_up_n (by omega), ← e3, g_upR_n (by omega), ← e2, g_upR_n (by omega), ← e1, gz_up_n (by omega)]; exact z.2.2 j⟩) ⟨by have := hm.1; omega, by have := hm.2; omega⟩ dX4_init_51 ?_
  refine gz_putR (k := b) (ci := 4) (j := 6) (a := w.2.2.2.1 + (b + 41)) (ty := .array .int) hc hmn lk_X4_26 rfl (show g_at (b + 42) (b) (.inl 4) from ⟨by omega, (gl_sh hlb (o := 0) (by decide)).trans rfl⟩) (by decide +kernel) rfl rfl dX4_init_53 ?_
  generalize e8 : g_upR R7 _ _ _ = R8
  refine gq_aldn hc dX4_init_56 rfl ?_
  refine gq_bipush hc dX4_init_57 (by decide +kernel) ?_
  refine gz_newa (n := b + 42) (u := 41) (v := 296) (n0 := b + 1) (atype := .int) (ty := .int) (t := 0) (len := 20) hc hz (by omega) ((gl_sh hlb (o := 42) (by decide)).trans (by decide +kernel)) (by decide) rfl rfl rfl ac_int (by decide) (Nat.le_of_ble_eq_true rfl) (by have z := hf (b + 42) (by omega); exact ⟨z.1, z.2.1, fun j => by rw [← e8, g_upR_n (by omega), ← e7, g_upR_n (by omega), ← e6, gz_up_n (by omega), ← e5, g_upR_n (by omega), ← e4, gz_up_n (by omega), ← e3, g_upR_n (by omega), ← e2, g_upR_n (by omega), ← e1, gz_up_n (by omega)]; exact z.2.2 j⟩) ⟨by have := hm.1; omega, by have := hm.2; omega⟩ dX4_init_59 ?_
  refine gz_putR (k := b) (ci := 4) (j := 7) (a := w.2.2.2.1 + (b + 42)) (ty := .array .int) hc hmn lk_X4_29 rfl (show g_at (b + 43) (b) (.inl 4) from ⟨by omega, (gl_sh hlb (o := 0) (by decide)).trans rfl⟩) (by decide +kernel) rfl rfl dX4_init_61 ?_
  generalize e9 : g_upR R8 _ _ _ = R9
  refine gq_aldn hc dX4_init_64 rfl ?_
  refine gq_bipush hc dX4_init_65 (by decide +kernel) ?_
  refine gz_newa (n := b + 43) (u := 42) (v := 316) (n0 := b + 1) (atype := .int) (ty := .int) (t := 0) (len := 20) hc hz (by omega) ((gl_sh hlb (o := 43) (by decide)).trans (by decide +kernel)) (by decide) rfl rfl rfl ac_int (by decide) (Nat.le_of_ble_eq_true rfl) (by have z := hf (b + 43) (by omega); exact ⟨z.1, z.2.1, fun j => by rw [← e9, g_upR_n (by omega), ← e8, g_upR_n (by omega), ← e7, g_upR_n (by omega), ← e6, gz_up_n (by omega), ← e5, g_upR_n (by omega), ← e4, gz_up_n (by omega), ← e3, g_upR_n (by omega), ← e2, g_upR_n (by omega), ← e1, gz_up_n (by omega)]; exact z.2.2 j⟩) ⟨by have := hm.1; omega, by have := hm.2; omega⟩ dX4_init_67 ?_
  refine gz_putR (k := b) (ci := 4) (j := 8) (a := w.2.2.2.1 + (b + 43)) (ty := .array .int) hc hmn lk_X4_32 rfl (show g_at (b + 44) (b) (.inl 4) from ⟨by omega, (gl_sh hlb (o := 0) (by decide)).trans rfl⟩) (by decide +kernel) rfl rfl dX4_init_69 ?_
  generalize e10 : g_upR R9 _ _ _ = R10
  refine gq_aldn hc dX4_init_72 rfl ?_
  refine gq_bipush hc dX4_init_73 (by decide +kernel) ?_
  refine gz_newa (n := b + 44) (u := 43) (v := 336) (n0 := b + 1) (atype := .int) (ty := .int) (t := 0) (len := 20) hc hz (by omega) ((gl_sh hlb (o := 44) (by decide)).trans (by decide +kernel)) (by decide) rfl rfl rfl ac_int (by decide) (Nat.le_of_ble_eq_true rfl) (by have z := hf (b + 44) (by omega); exact ⟨z.1, z.2.1, fun j => by rw [← e10, g_upR_n (by omega), ← e9, g_upR_n (by omega), ← e8, g_upR_n (by omega), ← e7, g_upR_n (by omega), ← e6, gz_up_n (by omega), ← e5, g_upR_n (by omega), ← e4, gz_up_n (by omega), ← e3, g_upR_n (by omega), ← e2, g_upR_n (by omega), ← e1, gz_up_n (by omega)]; exact z.2.2 j⟩) ⟨by have := hm.1; omega, by have := hm.2; omega⟩ dX4_init_75 ?_
  refine gz_putR (k := b) (ci := 4) (j := 9) (a := w.2.2.2.1 + (b + 44)) (ty := .array .int) hc hmn lk_X4_35 rfl (show g_at (b + 45) (b) (.inl 4) from ⟨by omega, (gl_sh hlb (o := 0) (by decide)).trans rfl⟩) (by decide +kernel) rfl rfl dX4_init_77 ?_
  generalize e11 : g_upR R10 _ _ _ = R11
  refine gq_aldn hc dX4_init_80 rfl ?_
  refine gq_bipush hc dX4_init_81 (by decide +kernel) ?_
  refine gz_newa (n := b + 45) (u := 44) (v := 356) (n0 := b + 1) (atype := .int) (ty := .int) (t := 0) (len := 20) hc hz (by omega) ((gl_sh hlb (o := 45) (by decide)).trans (by decide +kernel)) (by decide) rfl rfl rfl ac_int (by decide) (Nat.le_of_ble_eq_true rfl) (by have z := hf (b + 45) (by omega); exact ⟨z.1, z.2.1, fun j => by rw [← e11, g_upR_n (by omega), ← e10, g_upR_n (by omega), ← e9, g_upR_n (by omega), ← e8, g_upR_n (by omega), ← e7, g_upR_n (by omega), ← e6, gz_up_n (by omega), ← e5, g_upR_n (by omega), ← e4, gz_up_n (by omega), ← e3, g_upR_n (by omega), ← e2, g_upR_n (by omega), ← e1, gz_up_n (by omega)]; exact z.2.2 j⟩) ⟨by have := hm.1; omega, by have := hm.2; omega⟩ dX4_init_83 ?_
  refine gz_putR (k := b) (ci := 4) (j := 10) (a := w.2.2.2.1 + (b + 45)) (ty := .array .int) hc hmn lk_X4_38 rfl (show g_at (b + 46) (b) (.inl 4) from ⟨by omega, (gl_sh hlb (o := 0) (by decide)).trans rfl⟩) (by decide +kernel) rfl rfl dX4_init_85 ?_
  generalize e12 : g_upR R11 _ _ _ = R12
  refine gq_aldn hc dX4_init_88 rfl ?_
  refine gq_bipush hc dX4_init_89 (by decide +kernel) ?_
  refine gq_iconst hc dX4_init_91 ?_
  refine gz_mna (n := b + 46) (u := 45) (v := 376) (n0 := b + 1) (N := 80) (K := 5) hc hz (by omega) ((gl_sh hlb (o := 46) (by decide)).trans (by decide +kernel)) ((fun i hi => by rw [show b + 46 + 1 + i = b + (47 + i) by omega, gl_sh hlb (by omega)]; exact gl_r4 i hi)) cl_X4_9 hgo.1.2.2 ac_int (by decide) (by decide) (Nat.le_of_ble_eq_true rfl) (Nat.le_of_ble_eq_true rfl) (fun i hi => (by have z := hf (b + 46 + i) (by omega); exact ⟨z.1, z.2.1, fun j => by rw [← e12, g_upR_n (by omega), ← e11, g_upR_n (by omega), ← e10, g_upR_n (by omega), ← e9, g_upR_n (by omega), ← e8, g_upR_n (by omega), ← e7, g_upR_n (by omega), ← e6, gz_up_n (by omega), ← e5, g_upR_n (by omega), ← e4, gz_up_n (by omega), ← e3, g_upR_n (by omega), ← e2, g_upR_n (by omega), ← e1, gz_up_n (by omega)]; exact z.2.2 j⟩)) ⟨by have := hm.1; omega, by have := hm.2; omega⟩ dX4_init_92 ?_
  generalize e13 : gz_up w R12 _ _ = R13
  refine gz_putR (k := b) (ci := 4) (j := 11) (a := w.2.2.2.1 + (b + 46)) (ty := .array (.array .int)) hc hmn lk_X4_41 rfl (show g_at (b + 127) (b) (.inl 4) from ⟨by omega, (gl_sh hlb (o := 0) (by decide)).trans rfl⟩) (by decide +kernel) rfl rfl dX4_init_96 ?_
  generalize e14 : g_upR R13 _ _ _ = R14
  refine gq_aldn hc dX4_init_99 rfl ?_
  refine gq_bipush hc dX4_init_100 (by decide +kernel) ?_
  refine gz_newa (n := b + 127) (u := 126) (v := 856) (n0 := b + 1) (atype := .int) (ty := .int) (t := 0) (len := 80) hc hz (by omega) ((gl_sh hlb (o := 127) (by decide)).trans (by decide +kernel)) (by decide) rfl rfl rfl ac_int (by decide) (Nat.le_of_ble_eq_true rfl) (by have z := hf (b + 127) (by omega); exact ⟨z.1, z.2.1, fun j => by rw [← e14, g_upR_n (by omega), ← e13, gz_up_n (by omega), ← e12, g_upR_n (by omega), ← e11, g_upR_n (by omega), ← e10, g_upR_n (by omega), ← e9, g_upR_n (by omega), ← e8, g_upR_n (by omega), ← e7, g_upR_n (by omega), ← e6, gz_up_n (by omega), ← e5, g_upR_n (by omega), ← e4, gz_up_n (by omega), ← e3, g_upR_n (by omega), ← e2, g_upR_n (by omega), ← e1, gz_up_n (by omega)]; exact z.2.2 j⟩) ⟨by have := hm.1; omega, by have := hm.2; omega⟩ dX4_init_102 ?_
  refine gz_putR (k := b) (ci := 4) (j := 12) (a := w.2.2.2.1 + (b + 127)) (ty := .array .int) hc hmn lk_X4_44 rfl (show g_at (b + 128) (b) (.inl 4) from ⟨by omega, (gl_sh hlb (o := 0) (by decide)).trans rfl⟩) (by decide +kernel) rfl rfl dX4_init_104 ?_
  generalize e15 : g_upR R14 _ _ _ = R15
  refine gz_vret (n := b + 128) (u := 127) (v := 936) (n0 := b + 1) hc hz (by omega) hm dX4_init_107 ?_
  exact ⟨rfl, rfl, rfl, rfl, ⟨fun a a1 a2 => funext fun j => by rw [← e15, g_upR_n (by omega), ← e14, g_upR_n (by omega), ← e13, gz_up_n (by omega), ← e12, g_upR_n (by omega), ← e11, g_upR_n (by omega), ← e10, g_upR_n (by omega), ← e9, g_upR_n (by omega), ← e8, g_upR_n (by omega), ← e7, g_upR_n (by omega), ← e6, gz_up_n (by omega), ← e5, g_upR_n (by omega), ← e4, gz_up_n (by omega), ← e3, g_upR_n (by omega), ← e2, g_upR_n (by omega), ← e1, gz_up_n (by omega)], fun a a2 => funext fun j => by rw [← e15, g_upR_n (by omega), ← e14, g_upR_n (by omega), ← e13, gz_up_n (by omega), ← e12, g_upR_n (by omega), ← e11, g_upR_n (by omega), ← e10, g_upR_n (by omega), ← e9, g_upR_n (by omega), ← e8, g_upR_n (by omega), ← e7, g_upR_n (by omega), ← e6, gz_up_n (by omega), ← e5, g_upR_n (by omega), ← e4, gz_up_n (by omega), ← e3, g_upR_n (by omega), ← e2, g_upR_n (by omega), ← e1, gz_up_n (by omega)]⟩, ⟨(by rw [← e15, g_upR_n (by omega), ← e14, g_upR_n (by omega), ← e13, gz_up_n (by omega), ← e12, g_upR_n (by omega), ← e11, g_upR_n (by omega), ← e10, g_upR_n (by omega), ← e9, g_upR_n (by omega), ← e8, g_upR_n (by omega), ← e7, g_upR_n (by omega), ← e6, gz_up_n (by omega), ← e5, g_upR_n (by omega), ← e4, gz_up_n (by omega), ← e3, g_upR_n (by omega), ← e2]; exact if_pos ⟨by omega, by omega⟩), (by rw [← e15, g_upR_n (by omega), ← e14, g_upR_n (by omega), ← e13, gz_up_n (by omega), ← e12, g_upR_n (by omega), ← e11, g_upR_n (by omega), ← e10, g_upR_n (by omega), ← e9, g_upR_n (by omega), ← e8, g_upR_n (by omega), ← e7, g_upR_n (by omega), ← e6, gz_up_n (by omega), ← e5, g_upR_n (by omega), ← e4, gz_up_n (by omega), ← e3]; exact if_pos ⟨by omega, by omega⟩), (by rw [← e15, g_upR_n (by omega), ← e14, g_upR_n (by omega), ← e13, gz_up_n (by omega), ← e12, g_upR_n (by omega), ← e11, g_upR_n (by omega), ← e10, g_upR_n (by omega), ← e9, g_upR_n (by omega), ← e8, g_upR_n (by omega), ← e7, g_upR_n (by omega), ← e6, gz_up_n (by omega), ← e5]; exact if_pos ⟨by omega, by omega⟩), (by rw [← e15, g_upR_n (by omega), ← e14, g_upR_n (by omega), ← e13, gz_up_n (by omega), ← e12, g_upR_n (by omega), ← e11, g_upR_n (by omega), ← e10, g_upR_n (by omega), ← e9, g_upR_n (by omega), ← e8, g_upR_n (by omega), ← e7]; exact if_pos ⟨by omega, by omega⟩), (by rw [← e15, g_upR_n (by omega), ← e14, g_upR_n (by omega), ← e13, gz_up_n (by omega), ← e12, g_upR_n (by omega), ← e11, g_upR_n (by omega), ← e10, g_upR_n (by omega), ← e9, g_upR_n (by omega), ← e8]; exact if_pos ⟨by omega, by omega⟩), (by rw [← e15, g_upR_n (by omega), ← e14, g_upR_n (by omega), ← e13, gz_up_n (by omega), ← e12, g_upR_n (by omega), ← e11, g_upR_n (by omega), ← e10, g_upR_n (by omega), ← e9]; exact if_pos ⟨by omega, by omega⟩), (by rw [← e15, g_upR_n (by omega), ← e14, g_upR_n (by omega), ← e13, gz_up_n (by omega), ← e12, g_upR_n (by omega), ← e11, g_upR_n (by omega), ← e10]; exact if_pos ⟨by omega, by omega⟩), (by rw [← e15, g_upR_n (by omega), ← e14, g_upR_n (by omega), ← e13, gz_up_n (by omega), ← e12, g_upR_n (by omega), ← e11]; exact if_pos ⟨by omega, by omega⟩), (by rw [← e15, g_upR_n (by omega), ← e14, g_upR_n (by omega), ← e13, gz_up_n (by omega), ← e12]; exact if_pos ⟨by omega, by omega⟩), (by rw [← e15, g_upR_n (by omega), ← e14]; exact if_pos ⟨by omega, by omega⟩), (by rw [← e15]; exact if_pos ⟨by omega, by omega⟩), (fun i h0 h1 => by rw [← e15, g_upR_n (by omega), ← e14, g_upR_n (by omega), ← e13, gz_up_n (by omega), ← e12, g_upR_n (by omega), ← e11, g_upR_n (by omega), ← e10, g_upR_n (by omega), ← e9, g_upR_n (by omega), ← e8, g_upR_n (by omega), ← e7, g_upR_n (by omega), ← e6, gz_up_n (by omega), ← e5, g_upR_n (by omega), ← e4, gz_up_n (by omega), ← e3, g_upR_n (by omega), ← e2, g_upR_n (by omega), ← e1]; exact (if_pos ⟨rfl, h0, h1⟩).trans (congrArg some (by omega))), (fun i h0 h1 => by rw [← e15, g_upR_n (by omega), ← e14, g_upR_n (by omega), ← e13, gz_up_n (by omega), ← e12, g_upR_n (by omega), ← e11, g_upR_n (by omega), ← e10, g_upR_n (by omega), ← e9, g_upR_n (by omega), ← e8, g_upR_n (by omega), ← e7, g_upR_n (by omega), ← e6, gz_up_n (by omega), ← e5, g_upR_n (by omega), ← e4]; exact (if_pos ⟨rfl, h0, h1⟩).trans (congrArg some (by omega))), (fun i h0 h1 => by rw [← e15, g_upR_n (by omega), ← e14, g_upR_n (by omega), ← e13, gz_up_n (by omega), ← e12, g_upR_n (by omega), ← e11, g_upR_n (by omega), ← e10, g_upR_n (by omega), ← e9, g_upR_n (by omega), ← e8, g_upR_n (by omega), ← e7, g_upR_n (by omega), ← e6]; exact (if_pos ⟨rfl, h0, h1⟩).trans (congrArg some (by omega))), (fun i h0 h1 => by rw [← e15, g_upR_n (by omega), ← e14, g_upR_n (by omega), ← e13]; exact (if_pos ⟨rfl, h0, h1⟩).trans (congrArg some (by omega)))⟩⟩
