abbrev g_sW (k : Nat) : Prop := k = 554 ∨ (519 ≤ k ∧ k ≤ 537 ∧ k % 3 = 0) ∨ k = 684 ∨ k = 685 ∨ k = 687
abbrev g_sD (k : Nat) : Prop := k = 688
/-- whether a SELF has a SHARE: it is THERE, not DEAD or the LAW has 2 -/
abbrev g_shs (I : g_I) (b : Nat) (s : Int) : Prop := g_thr I b s = true ∧ (¬ I (b + 2 + s.toNat) 4 = 1 ∨ ¬ g_and (I 550 3) 2 = 0)
/-- WEIGHT of a SELF -/
def g_wgt (I : g_I) (b : Nat) (s : Int) : Int := if g_shs I b s then 1 + (g_rgs I b s).tdiv 100 else 0
def g_wsm (I : g_I) (b : Nat) : Int := g_sum (g_wgt I b) (I b 0).toNat
/-- SHARE -/
def g_sho (I : g_I) (b : Nat) (s pot : Int) : Int :=
  if g_wsm I b = 0 then -1
  else (pot * g_wgt I b s).tdiv (g_wsm I b) + (if 0 < g_wgt I b s ∧ g_sum (fun t => if t < s ∧ 0 < g_wgt I b t then 1 else 0) (I b 0).toNat < pot - g_sum (fun t => (pot * g_wgt I b t).tdiv (g_wsm I b)) (I b 0).toNat then 1 else 0)
/-- DEMAND -/
def g_dem (I : g_I) (b : Nat) (s : Int) : Int := if g_shs I b s then (I (b + 2 + s.toNat) 0 * (10 - I (b + 2 + s.toNat) 5)).tdiv 10 else 0
def g_dms (I : g_I) (b : Nat) : Int := g_sum (g_dem I b) (I b 0).toNat
def g_asb (I : g_I) (b : Nat) (set : Int) : Int := g_sum (fun s => if g_bit set s then g_dem I b s else 0) (I b 0).toNat
/-- AWAY among the first n sets -/
def g_awn (I : g_I) (b : Nat) (pot : Int) : Nat → Int
  | 0 => g_shl 1 (I b 0) - 1
  | n + 1 => if g_bc n < g_bc (g_awn I b pot n) ∧ g_dms I b - pot ≤ g_asb I b n then (n : Int) else g_awn I b pot n
theorem g_awn_i {I : g_I} {b : Nat} {pot i : Int} (h : 0 ≤ i) : g_awn I b pot (i + 1).toNat = if g_bc i < g_bc (g_awn I b pot i.toNat) ∧ g_dms I b - pot ≤ g_asb I b i then i else g_awn I b pot i.toNat := by
  rw [show (i + 1).toNat = i.toNat + 1 by omega, g_awn, show ((i.toNat : Nat) : Int) = i by omega]
def g_awy (I : g_I) (b : Nat) (pot : Int) : Int := g_awn I b pot (g_shl 1 (I b 0)).toNat
theorem g_shl_p {k : Int} (h : 0 ≤ k ∧ k ≤ 12) : 1 ≤ g_shl 1 k ∧ g_shl 1 k ≤ 4096 := by
  rcases (show k = 0 ∨ k = 1 ∨ k = 2 ∨ k = 3 ∨ k = 4 ∨ k = 5 ∨ k = 6 ∨ k = 7 ∨ k = 8 ∨ k = 9 ∨ k = 10 ∨ k = 11 ∨ k = 12 by omega) with rfl | rfl | rfl | rfl | rfl | rfl | rfl | rfl | rfl | rfl | rfl | rfl | rfl <;> decide +kernel
theorem g_sum_in {f : Int → Int} {m : Int} : ∀ n : Nat, (∀ i : Int, 0 ≤ i → i < n → 0 ≤ f i ∧ f i ≤ m) → 0 ≤ g_sum f n ∧ g_sum f n ≤ m * n
  | 0, _ => by simp [g_sum]
  | n + 1, h => by
    have ih := g_sum_in n (fun i h0 h1 => h i h0 (by omega))
    have h2 := h n (by omega) (by omega)
    rw [g_sum]
    have e : m * ((n + 1 : Nat) : Int) = m * n + m := by rw [show ((n + 1 : Nat) : Int) = (n : Int) + 1 by omega, Int.mul_add, Int.mul_one]
    omega
theorem g_rgs_in {I I2 : g_I} {b : Nat} {s : Int} (hL : g_lok I b) (hv : g_vok I b I2 0) (h1 : 0 ≤ s ∧ s < I b 0) : 0 ≤ g_rgs I b s ∧ g_rgs I b s ≤ 1200360000 := by
  obtain ⟨hst, -⟩ := g_lok_s hL h1
  have h := g_sum_in (f := fun i => g_rgt I b s i) (m := 200060000) (I (b + 14) s).toNat (fun i h0 h2 => g_rgt_in hL hv h1 (by omega))
  unfold g_rgs
  omega
theorem g_wgt_in {I I2 : g_I} {b : Nat} {s : Int} (hL : g_lok I b) (hv : g_vok I b I2 0) (h1 : 0 ≤ s ∧ s < I b 0) : 0 ≤ g_wgt I b s ∧ g_wgt I b s ≤ 12003601 := by
  have h := g_rgs_in hL hv h1
  have h2 := g_tdiv1 (p := g_rgs I b s) (c := 100) h.1 (by decide)
  have h3 : (g_rgs I b s).tdiv 100 = g_rgs I b s / 100 := Int.tdiv_eq_ediv_of_nonneg h.1
  unfold g_wgt
  split <;> omega
theorem g_dem_in {I : g_I} {b : Nat} {s : Int} (hL : g_lok I b) (h1 : 0 ≤ s ∧ s < I b 0) : 0 ≤ g_dem I b s ∧ g_dem I b s ≤ 693 := by
  obtain ⟨-, -, hLs, -⟩ := hL
  obtain ⟨-, -, hr0, -, -, -, -, hr5, -⟩ := hLs s h1.1 h1.2
  have hm : 0 ≤ I (b + 2 + s.toNat) 0 * (10 - I (b + 2 + s.toNat) 5) := Int.mul_nonneg (by omega) (by omega)
  have hm2 : I (b + 2 + s.toNat) 0 * (10 - I (b + 2 + s.toNat) 5) ≤ I (b + 2 + s.toNat) 0 * 10 := Int.mul_le_mul_of_nonneg_left (by omega) (by omega)
  have h3 := Int.tdiv_eq_ediv_of_nonneg (b := 10) hm
  unfold g_dem
  split <;> omega
