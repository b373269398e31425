/-- the last FORK on the WAYS of both, among their first n steps -/
def g_prn (I : g_I) (b : Nat) (one other : Int) : Nat → Int
  | 0 => 0
  | n + 1 => if I (b + 16 + one.toNat) n = I (b + 16 + other.toNat) n then I (b + 16 + one.toNat) n else g_prn I b one other n
theorem g_prn_i {I : g_I} {b : Nat} {one other i : Int} (h : 0 ≤ i) : g_prn I b one other (i + 1).toNat = if I (b + 16 + one.toNat) i = I (b + 16 + other.toNat) i then I (b + 16 + one.toNat) i else g_prn I b one other i.toNat := by
  rw [show (i + 1).toNat = i.toNat + 1 by omega, g_prn, show ((i.toNat : Nat) : Int) = i by omega]
def g_prt (I : g_I) (b : Nat) (one other : Int) : Int := g_prn I b one other (min (I (b + 14) one) (I (b + 14) other)).toNat
/-- VALUE behind a BRANCH, W5 being those of the FORKS -/
def g_bhd (I : g_I) (b : Nat) (W5 : Int → Int) (f r : Int) : Int :=
  if (0 ≤ f ∧ f < I b 1) ∧ 0 ≤ r ∧ r < I (b + 43) f then (if 100 ≤ I (b + 127) (f * 4 + r) then W5 (I (b + 127) (f * 4 + r) - 100) else 100 * g_lkd I b (I (b + 127) (f * 4 + r))) else 0
/-- ADVICE among the first n BRANCHES -/
def g_bsn (I : g_I) (b : Nat) (W5 : Int → Int) (f : Int) : Nat → Int
  | 0 => -1
  | n + 1 => if g_bit (I 550 (4 + f)) n ∧ (g_bsn I b W5 f n = -1 ∨ g_bhd I b W5 f (g_bsn I b W5 f n) < g_bhd I b W5 f n) then (n : Int) else g_bsn I b W5 f n
theorem g_bsn_i {I : g_I} {b : Nat} {W5 : Int → Int} {f i : Int} (h : 0 ≤ i) : g_bsn I b W5 f (i + 1).toNat = if g_bit (I 550 (4 + f)) i ∧ (g_bsn I b W5 f i.toNat = -1 ∨ g_bhd I b W5 f (g_bsn I b W5 f i.toNat) < g_bhd I b W5 f i) then i else g_bsn I b W5 f i.toNat := by
  rw [show (i + 1).toNat = i.toNat + 1 by omega, g_bsn, show ((i.toNat : Nat) : Int) = i by omega]
def g_bst (I : g_I) (b : Nat) (W5 : Int → Int) (f : Int) : Int := g_bsn I b W5 f (I (b + 43) f).toNat
/-- VALUE of a FORK of KIND 1 -/
def g_chv (I : g_I) (b : Nat) (W5 : Int → Int) (f : Int) : Int :=
  if g_wt I b f (I 550 (4 + f)) (I (b + 43) f).toNat = 0 then 0
  else (g_sum (fun r => if g_bit (I 550 (4 + f)) r then g_bhd I b W5 f r * I (b + 47 + (f * 4 + r).toNat) 0 else 0) (I (b + 43) f).toNat).tdiv (g_wt I b f (I 550 (4 + f)) (I (b + 43) f).toNat)
def g_st5 (I : g_I) (b : Nat) (W5 : Int → Int) (f : Int) : Int := if I (b + 42) f = 1 then g_chv I b W5 f else g_bhd I b W5 f (g_bst I b W5 f)
def g_w5n (I : g_I) (b : Nat) : Nat → Int → Int
  | 0, _ => 0
  | n + 1, f => g_st5 I b (g_w5n I b n) f
/-- VALUES of FORKS -/
def g_w5 (I : g_I) (b : Nat) (f : Int) : Int := g_w5n I b 20 f
section GV
variable {I : g_I} {b : Nat} {W W2 : Int → Int} {f : Int}
theorem g_bhd_cg (hL : g_lok I b) (hW : ∀ k : Int, f < k → k < I b 1 → W2 k = W k) (r : Int) : g_bhd I b W2 f r = g_bhd I b W f r := by
  obtain ⟨hn0, -, -, h4⟩ := hL
  unfold g_bhd
  by_cases h : (0 ≤ f ∧ f < I b 1) ∧ 0 ≤ r ∧ r < I (b + 43) f
  · rw [if_pos h, if_pos h]
    obtain ⟨-, -, -, hit⟩ := h4 f h.1.1 h.1.2
    obtain ⟨-, -, -, -, -, ht⟩ := hit r h.2.1 h.2.2
    by_cases h5 : 100 ≤ I (b + 127) (f * 4 + r)
    · rw [if_pos h5, if_pos h5]
      exact hW _ (by omega) (by omega)
    · rw [if_neg h5, if_neg h5]
  · rw [if_neg h, if_neg h]
theorem g_st5_cg (hL : g_lok I b) (hW : ∀ k : Int, f < k → k < I b 1 → W2 k = W k) : g_st5 I b W2 f = g_st5 I b W f := by
  have e := g_bhd_cg (I := I) (b := b) hL hW
  have e2 : ∀ n : Nat, g_bsn I b W2 f n = g_bsn I b W f n := by
    intro n
    induction n with
    | zero => rfl
    | succ n ih => unfold g_bsn; rw [ih, e, e]
  unfold g_st5 g_chv g_bst
  rw [e2, e]
  simp only [e]
theorem g_w5n_s (hL : g_lok I b) : ∀ (n : Nat) (f : Int), I b 1 - f ≤ n → 0 ≤ f → f < I b 1 → g_w5n I b (n + 1) f = g_w5n I b n f
  | 0, f, h, h0, h1 => by omega
  | n + 1, f, h, h0, h1 => by
    rw [g_w5n, g_w5n]
    exact g_st5_cg hL (fun k hk1 hk2 => g_w5n_s hL n k (by omega) (by omega) hk2)
/-- VALUES of FORKS out of those behind -/
theorem g_w5_eq (hL : g_lok I b) (h0 : 0 ≤ f) (h1 : f < I b 1) : g_w5 I b f = g_st5 I b (g_w5 I b) f := by
  have hn := hL.2.1
  unfold g_w5
  rw [← g_w5n_s hL 20 f (by omega) h0 h1, g_w5n]
/-- the values' rows hold what they should, FORKS from lo on -/
def g_vok (I : g_I) (b : Nat) (I2 : g_I) (lo : Int) : Prop :=
  (∀ s : Int, 0 ≤ s → s < I b 0 → I2 684 s = 100 * g_lkd I b s ∧ -100030000 ≤ I2 684 s ∧ I2 684 s ≤ 100030000) ∧ ∀ f : Int, lo ≤ f → f < I b 1 → I2 685 f = g_w5 I b f ∧ -100030000 ≤ I2 685 f ∧ I2 685 f ≤ 100030000
theorem g_bhd_in {I2 : g_I} {lo : Int} (hL : g_lok I b) (hv : g_vok I b I2 lo) (hlo : lo ≤ f + 1) (r : Int) : -100030000 ≤ g_bhd I b (g_w5 I b) f r ∧ g_bhd I b (g_w5 I b) f r ≤ 100030000 := by
  obtain ⟨hn0, -, -, h4⟩ := hL
  unfold g_bhd
  by_cases h : (0 ≤ f ∧ f < I b 1) ∧ 0 ≤ r ∧ r < I (b + 43) f
  · rw [if_pos h]
    obtain ⟨-, -, -, hit⟩ := h4 f h.1.1 h.1.2
    obtain ⟨-, -, -, -, -, ht⟩ := hit r h.2.1 h.2.2
    by_cases h5 : 100 ≤ I (b + 127) (f * 4 + r)
    · rw [if_pos h5]
      obtain ⟨e1, e2⟩ := hv.2 (I (b + 127) (f * 4 + r) - 100) (by omega) (by omega)
      rw [← e1]; exact e2
    · rw [if_neg h5]
      obtain ⟨e1, e2⟩ := hv.1 (I (b + 127) (f * 4 + r)) (by omega) (by omega)
      rw [← e1]; exact e2
  · rw [if_neg h]; omega
theorem g_bsn_in {W5 : Int → Int} : ∀ n : Nat, -1 ≤ g_bsn I b W5 f n ∧ g_bsn I b W5 f n < n
  | 0 => by simp [g_bsn]
  | n + 1 => by
    have ih := g_bsn_in (W5 := W5) n
    unfold g_bsn
    split <;> omega
/-- REGRET at a step of a WAY -/
def g_rgt (I : g_I) (b : Nat) (s i : Int) : Int :=
  if I (b + 42) (I (b + 16 + s.toNat) i) = 1 then 0 else max 0 (g_w5 I b (I (b + 16 + s.toNat) i) - g_bhd I b (g_w5 I b) (I (b + 16 + s.toNat) i) (I (b + 29 + s.toNat) i))
/-- all REGRETS of a WAY -/
def g_rgs (I : g_I) (b : Nat) (s : Int) : Int := g_sum (fun i => g_rgt I b s i) (I (b + 14) s).toNat
/-- at which of the first n steps the REGRET is greatest -/
def g_srn (I : g_I) (b : Nat) (s : Int) : Nat → Int
  | 0 => -1
  | n + 1 => if g_srn I b s n = -1 ∨ g_rgt I b s (g_srn I b s n) < g_rgt I b s n then (n : Int) else g_srn I b s n
theorem g_srn_i {s i : Int} (h : 0 ≤ i) : g_srn I b s (i + 1).toNat = if g_srn I b s i.toNat = -1 ∨ g_rgt I b s (g_srn I b s i.toNat) < g_rgt I b s i then i else g_srn I b s i.toNat := by
  rw [show (i + 1).toNat = i.toNat + 1 by omega, g_srn, show ((i.toNat : Nat) : Int) = i by omega]
/-- SORE -/
def g_sor (I : g_I) (b : Nat) (s : Int) : Int := if g_srn I b s (I (b + 14) s).toNat = -1 then -1 else I (b + 16 + s.toNat) (g_srn I b s (I (b + 14) s).toNat)
/-- APOLOGY -/
def g_apo (I : g_I) (b : Nat) (one other : Int) : Int := if g_stp I b one (g_prt I b one other) = -1 then 0 else g_bhd I b (g_w5 I b) (g_prt I b one other) (I (b + 29 + one.toNat) (g_stp I b one (g_prt I b one other))) - g_bhd I b (g_w5 I b) (g_prt I b one other) (I (b + 29 + other.toNat) (g_stp I b one (g_prt I b one other)))
end GV
