theorem g_pbh_in {I : g_I} {b : Nat} {p f r m : Int} (hL : g_lok I b) (hf : 0 ≤ f ∧ f < I b 1) (hr : 0 ≤ r ∧ r < I (b + 43) f) (hp : 0 ≤ p) : 0 ≤ g_pbh I b p f r m ∧ g_pbh I b p f r m ≤ p := by
  obtain ⟨-, -, -, h4⟩ := hL
  obtain ⟨hk2, hk1, hy, hit⟩ := h4 f hf.1 hf.2
  have hb1 := g_and1 (a := g_shr m r)
  have hwin := g_wt_in (m := m) (fun r h0 h1 => (hit r h0 h1).1) (I (b + 43) f).toNat (by omega)
  have hw := (hit r hr.1 hr.2).1
  have hbc := g_bc_in (a := m)
  unfold g_pbh
  by_cases h1 : g_and (g_shr m r) 1 = 0
  · rw [if_pos h1]; omega
  · rw [if_neg h1]
    by_cases h2 : I (b + 42) f = 1
    · rw [if_pos h2]
      by_cases h3 : g_wt I b f m (I (b + 43) f).toNat = 0
      · rw [if_pos h3]; omega
      · rw [if_neg h3]
        have hwge := g_wt_ge (m := m) (fun r h0 h1 => (hit r h0 h1).1) hr.1 (by show _ = (1 : Int); omega) (I (b + 43) f).toNat (by omega) (by omega)
        exact g_mulDiv hp (by omega) hwge (by omega)
    · rw [if_neg h2]
      by_cases h3 : I 550 0 = 3
      · rw [if_pos h3]
        by_cases h5 : g_bc m = 0
        · rw [if_pos h5]; omega
        · rw [if_neg h5]; exact g_tdiv1 hp (by omega)
      · rw [if_neg h3]
        split <;> omega
theorem g_mulb {a b : Int} {m n : Nat} (ha : a.natAbs ≤ m) (hb : b.natAbs ≤ n) : (a * b).natAbs ≤ m * n := by
  rw [Int.natAbs_mul]; exact Nat.mul_le_mul ha hb
theorem g_shl_s {k : Int} (h : 2 ≤ k ∧ k ≤ 4) : 3 ≤ g_shl 1 k - 1 ∧ g_shl 1 k - 1 ≤ 15 := by
  rcases (show k = 2 ∨ k = 3 ∨ k = 4 by omega) with rfl | rfl | rfl <;> decide +kernel
