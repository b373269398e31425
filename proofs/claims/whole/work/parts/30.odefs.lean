theorem g_andm {a m : Int} (k : Nat) (hm : (Int32.ofInt m).toBitVec.toNat = 2 ^ k - 1) (hk : k ≤ 30) : 0 ≤ g_and a m ∧ g_and a m < 2 ^ k := by
  unfold g_and
  obtain ⟨j, hj, e⟩ := pk_andE (Int32.ofInt a) k hm
  rw [e]
  have h2 : (2 : Nat) ^ k ≤ 2 ^ 30 := Nat.pow_le_pow_right (by decide) hk
  have h3 : (2 : Nat) ^ 30 = 1073741824 := by decide
  rw [nI_toInt (by omega)]
  have h4 : ((2 ^ k : Nat) : Int) = (2 : Int) ^ k := by simp
  omega
theorem g_and1 {a : Int} : g_and a 1 = 0 ∨ g_and a 1 = 1 := by
  have h := g_andm (a := a) (m := 1) 1 (by decide +kernel) (by decide)
  have h2 : (2 : Int) ^ 1 = 2 := by decide
  omega
theorem g_bc_in {a : Int} : 0 ≤ g_bc a ∧ g_bc a ≤ 63 := by
  have h := g_andm (a := g_bc4 a + g_ushr (g_bc4 a) 16) (m := 63) 6 (by decide +kernel) (by decide)
  have h2 : (2 : Int) ^ 6 = 64 := by decide
  unfold g_bc
  omega
/-- letters of a BRANCH: at FORK f the BRANCH r, so many open -/
def g_lt8 (I : g_I) (b : Nat) (f r o : Int) : Int → Int := fun k => if k = 7 then I (b + 47 + (f * 4 + r).toNat) 0 else if k = 6 then r else if k = 5 then o else if k = 4 then 0 else if k = 3 then I (b + 41) f else if k = 2 then I (b + 47 + (f * 4 + r).toNat) 3 else if k = 1 then I (b + 47 + (f * 4 + r).toNat) 2 else I (b + 47 + (f * 4 + r).toNat) 1
/-- by what a BRANCH is chosen -/
def g_rnk (I : g_I) (b : Nat) (f r o : Int) : Int := if I 550 0 = 2 then r else if ¬ I 550 0 = 0 ∨ I 550 1 = -1 then 0 else g_tw I (517 + 3 * (I 550 1).toNat) (g_lt8 I b f r o)
/-- the greatest of ranks among the first n of a mask, of several the lowest: which, its rank -/
def g_chs (rank : Int → Int) (mask : Int) : Nat → Int × Int
  | 0 => (-1, 0)
  | n + 1 => if g_bit mask n then (if (g_chs rank mask n).1 = -1 ∨ (g_chs rank mask n).2 < rank n then ((n : Int), rank n) else g_chs rank mask n) else g_chs rank mask n
theorem g_chs_i {rank : Int → Int} {mask i : Int} (h : 0 ≤ i) : g_chs rank mask (i + 1).toNat = if g_bit mask i then (if (g_chs rank mask i.toNat).1 = -1 ∨ (g_chs rank mask i.toNat).2 < rank i then (i, rank i) else g_chs rank mask i.toNat) else g_chs rank mask i.toNat := by
  rw [show (i + 1).toNat = i.toNat + 1 by omega, g_chs, show ((i.toNat : Nat) : Int) = i by omega]
/-- what is chosen by POLICY 0, 1, 2 -/
def g_cho (I : g_I) (b : Nat) (f mask : Int) : Int := (g_chs (fun r => g_rnk I b f r (g_bc mask)) mask (I (b + 43) f).toNat).1
theorem g_chs_in {rank : Int → Int} {mask : Int} : ∀ n : Nat, -1 ≤ (g_chs rank mask n).1 ∧ (g_chs rank mask n).1 < n
  | 0 => by simp [g_chs]
  | n + 1 => by
    have ih := g_chs_in (rank := rank) (mask := mask) n
    unfold g_chs
    split
    · split
      · dsimp only; omega
      · omega
    · omega
theorem g_cho32 {I : g_I} {b : Nat} {f m : Int} (h : 2 ≤ I (b + 43) f ∧ I (b + 43) f ≤ 4) (h2 : 0 ≤ (0 : Int)) : g32 (g_cho I b f m) := by
  have h3 := g_chs_in (rank := fun r => g_rnk I b f r (g_bc m)) (mask := m) (I (b + 43) f).toNat
  unfold g_cho
  exact ⟨by omega, by omega⟩
/-- parts behind a BRANCH, of p parts ahead of the FORK -/
def g_pbh (I : g_I) (b : Nat) (p f r mask : Int) : Int :=
  if g_and (g_shr mask r) 1 = 0 then 0
  else if I (b + 42) f = 1 then (if g_wt I b f mask (I (b + 43) f).toNat = 0 then 0 else (p * I (b + 47 + (f * 4 + r).toNat) 0).tdiv (g_wt I b f mask (I (b + 43) f).toNat))
  else if I 550 0 = 3 then (if g_bc mask = 0 then 0 else p.tdiv (g_bc mask))
  else if g_cho I b f mask = r then p else 0
theorem g_wt_in {I : g_I} {b : Nat} {f m : Int} (hw : ∀ r : Int, 0 ≤ r → r < I (b + 43) f → 1 ≤ I (b + 47 + (f * 4 + r).toNat) 0 ∧ I (b + 47 + (f * 4 + r).toNat) 0 ≤ 9) : ∀ n : Nat, (n : Int) ≤ I (b + 43) f → 0 ≤ g_wt I b f m n ∧ g_wt I b f m n ≤ 9 * n
  | 0, _ => by simp [g_wt, g_sum]
  | n + 1, h => by
    have ih := g_wt_in (m := m) hw n (by omega)
    have h2 := hw n (by omega) (by omega)
    unfold g_wt at ih ⊢
    rw [g_sum]
    split <;> omega
theorem g_wt_ge {I : g_I} {b : Nat} {f m r : Int} (hw : ∀ r : Int, 0 ≤ r → r < I (b + 43) f → 1 ≤ I (b + 47 + (f * 4 + r).toNat) 0 ∧ I (b + 47 + (f * 4 + r).toNat) 0 ≤ 9) (h0 : 0 ≤ r) (hb : g_bit m r) : ∀ n : Nat, (n : Int) ≤ I (b + 43) f → r < n → I (b + 47 + (f * 4 + r).toNat) 0 ≤ g_wt I b f m n
  | 0, _, h => by omega
  | n + 1, h, h1 => by
    have hi := g_wt_in (m := m) hw n (by omega)
    have h2 := hw n (by omega) (by omega)
    by_cases e : r = n
    · subst e
      unfold g_wt at hi ⊢
      rw [g_sum]
      rw [if_pos hb]
      omega
    · have ih := g_wt_ge hw h0 hb n (by omega) (by omega)
      unfold g_wt at ih ⊢
      rw [g_sum]
      split <;> omega
theorem g_mulDiv {p a c : Int} (hp : 0 ≤ p) (ha : 0 ≤ a) (hac : a ≤ c) (hc : 0 < c) : 0 ≤ (p * a).tdiv c ∧ (p * a).tdiv c ≤ p := by
  have h1 : 0 ≤ p * a := Int.mul_nonneg hp ha
  have h2 : p * a ≤ p * c := Int.mul_le_mul_of_nonneg_left hac hp
  rw [Int.tdiv_eq_ediv_of_nonneg h1]
  constructor
  · exact Int.ediv_nonneg h1 (by omega)
  · exact Int.ediv_le_of_le_mul hc h2
theorem g_tdiv1 {p c : Int} (hp : 0 ≤ p) (hc : 0 < c) : 0 ≤ p.tdiv c ∧ p.tdiv c ≤ p := by
  have h := g_mulDiv (p := p) (a := 1) (c := c) hp (by decide) (by omega) hc
  rwa [Int.mul_one] at h
/-- ODDS over the first n steps of a WAY -/
def g_ptn (I : g_I) (b : Nat) (s : Int) (mask : Int → Int) : Nat → Int
  | 0 => 1000000000
  | n + 1 => g_pbh I b (g_ptn I b s mask n) (I (b + 16 + s.toNat) n) (I (b + 29 + s.toNat) n) (mask (I (b + 16 + s.toNat) n))
theorem g_ptn_i {I : g_I} {b : Nat} {s : Int} {mask : Int → Int} {i : Int} (h : 0 ≤ i) : g_ptn I b s mask (i + 1).toNat = g_pbh I b (g_ptn I b s mask i.toNat) (I (b + 16 + s.toNat) i) (I (b + 29 + s.toNat) i) (mask (I (b + 16 + s.toNat) i)) := by
  rw [show (i + 1).toNat = i.toNat + 1 by omega, g_ptn, show ((i.toNat : Nat) : Int) = i by omega]
/-- ODDS of a SELF; z 1: as if all were open -/
def g_pts (I : g_I) (b : Nat) (s z : Int) : Int := g_ptn I b s (fun f => if z = 0 then I 550 (4 + f) else g_shl 1 (I (b + 43) f) - 1) (I (b + 14) s).toNat
/-- MEAN -/
def g_avg (I : g_I) (b : Nat) (k : Int) : Int := (g_sum (fun s => (if k = 3 then g_lkd I b s else I (b + 2 + s.toNat) k) * g_pts I b s 0) (I b 0).toNat).tdiv 1000000000
theorem g_relE {w : g_W} {E v : Int} {Sc : Nat → Prop} {I2 I3 : g_I} {J : g_J} {R : g_R} (hE : E = v) (hd : ∀ k : Nat, ¬ Sc k → I3 k = I2 k) (hx : ∀ k j, g32 (I3 k j)) : g_rel w (some (gvI E)) Sc I2 J R (some (gvI v)) g_n I3 J R := by
  subst hE
  exact ⟨rfl, rfl, hd, hx, rfl, rfl⟩
