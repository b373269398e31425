/-- a mask with one BRANCH turned -/
theorem x_mk : ∀ m : Fin 16, ∀ r k : Fin 4, (0 ≤ g_xor m.val (g_shl 1 r.val) ∧ g_xor m.val (g_shl 1 r.val) ≤ 15) ∧ (g_bit (g_xor m.val (g_shl 1 r.val)) k.val ↔ if k = r then ¬ g_bit m.val k.val else g_bit m.val k.val) ∧ (g_xor m.val (g_shl 1 r.val) = 0 ↔ g_bit m.val r.val ∧ g_bc m.val = 1) := by decide +kernel
theorem x_ms : ∀ m : Fin 16, ∀ n : Fin 5, ∀ r : Fin 4, r.val < n.val → (m.val : Int) < g_shl 1 n.val → g_xor m.val (g_shl 1 r.val) < g_shl 1 n.val := by decide +kernel
theorem x_mask {m r n : Int} (hm : 0 ≤ m ∧ m ≤ 15) (hr : 0 ≤ r ∧ r < n) (hn : n ≤ 4) (hl : m < g_shl 1 n) : (0 ≤ g_xor m (g_shl 1 r) ∧ g_xor m (g_shl 1 r) ≤ 15) ∧ g_xor m (g_shl 1 r) < g_shl 1 n ∧ (g_xor m (g_shl 1 r) = 0 ↔ g_bit m r ∧ g_bc m = 1) ∧ ∀ k : Int, 0 ≤ k → k < n → (g_bit (g_xor m (g_shl 1 r)) k ↔ if k = r then ¬ g_bit m k else g_bit m k) := by
  obtain ⟨a, rfl⟩ := Int.eq_ofNat_of_zero_le hm.1
  obtain ⟨c, rfl⟩ := Int.eq_ofNat_of_zero_le hr.1
  obtain ⟨e, rfl⟩ := Int.eq_ofNat_of_zero_le (show 0 ≤ n by omega)
  have h1 := x_mk ⟨a, by omega⟩ ⟨c, by omega⟩
  have h2 := x_ms ⟨a, by omega⟩ ⟨e, by omega⟩ ⟨c, by omega⟩ (show c < e by omega) hl
  refine ⟨(h1 0).1, h2, (h1 0).2.2, fun k k0 k1 => ?_⟩
  obtain ⟨d, rfl⟩ := Int.eq_ofNat_of_zero_le k0
  have h3 := (h1 ⟨d, by omega⟩).2.1
  have e3 : ((⟨d, by omega⟩ : Fin 4) = ⟨c, by omega⟩) ↔ (d : Int) = (c : Int) := by rw [Fin.mk.injEq]; omega
  by_cases z : (d : Int) = (c : Int)
  · rw [if_pos (e3.mpr z)] at h3; rw [if_pos z]; exact h3
  · rw [if_neg (fun w => z (e3.mp w))] at h3; rw [if_neg z]; exact h3
abbrev x_og (I : g_I) (lb : Nat) (f r b : Int) : Prop := ((0 ≤ f ∧ f < I lb 1) ∧ 0 ≤ r ∧ r < I (lb + 43) f) ∧ ¬ g_b (g_bit (I 550 (4 + f)) r) = b ∧ ¬ g_xor (I 550 (4 + f)) (g_shl 1 r) = 0
theorem x_og_row {I M : g_I} {lb : Nat} (h : q_rel I lb M) {f r b : Int} (hA : 0 ≤ I 549 5 ∧ I 549 5 ≤ 40) (hs : x_og I lb f r b) : q_row I lb (g_tell I (4 + f) (g_xor (I 550 (4 + f)) (g_shl 1 r)) 550) := by
  obtain ⟨a, s, -, -, -, -, -, -, -, ⟨h8, h8b⟩, -, -⟩ := x_tell (I := I) (p := 4 + f) (v := g_xor (I 550 (4 + f)) (g_shl 1 r)) hA
  obtain ⟨r0, r1, r2, r3, r4⟩ := h.row
  obtain ⟨⟨⟨f0, f1⟩, k0, k1⟩, -, hz⟩ := hs
  have hk := ((q_lok h).2.2.2 f f0 f1).1
  obtain ⟨w1, w2⟩ := r4 f f0 f1
  obtain ⟨m1, m2, -, -⟩ := x_mask (m := I 550 (4 + f)) (r := r) (n := I (lb + 43) f) ⟨by omega, by omega⟩ ⟨k0, k1⟩ (by omega) w2
  refine ⟨by rw [h8b 0 (by omega)]; exact r0, by rw [h8b 1 (by omega)]; exact r1, by rw [h8b 2 (by omega)]; exact r2, by rw [h8b 3 (by omega)]; exact r3, fun t t0 t1 => ?_⟩
  by_cases e : t = f
  · rw [e, h8]; exact ⟨by omega, m2⟩
  · rw [h8b (4 + t) (by omega)]; exact r4 t t0 t1
