theorem g_or_0 {x : Int} (h : g32 x) : g_or x 0 = x := by
  unfold g32 at h
  rw [g_or, show (Int32.ofInt 0) = 0 from rfl, Int32.or_zero, Int32.toInt_ofInt_of_le (by omega) (by omega)]
abbrev g_sH (k : Nat) : Prop := k = 554 ∨ (519 ≤ k ∧ k ≤ 537 ∧ k % 3 = 0) ∨ k = 686 ∨ k = 689 ∨ (691 ≤ k ∧ k ≤ 696)
/-- whether a SELF VOTES: it is THERE, not DEAD or the LAW has 1 -/
abbrev g_vtr (I : g_I) (b : Nat) (s : Int) : Prop := g_thr I b s = true ∧ (¬ I (b + 2 + s.toNat) 4 = 1 ∨ ¬ g_and (I 550 3) 1 = 0)
/-- VOTERS as bits -/
def g_vtb (I : g_I) (b : Nat) : Int := g_ors (fun s => if g_vtr I b s then g_shl 1 s else 0) (I b 0).toNat
/-- what hearing m MOTIONS leaves -/
def g_hrd (I : g_I) (b : Nat) (m : Int) (M : g_I) : Prop := M 686 6 = g_vtb I b ∧ ∀ τ s : Int, 0 ≤ τ → τ < m → 0 ≤ s → s < I b 0 → g_vtr I b s → M (691 + τ.toNat) s = g_wby I b τ s
theorem g_vtb_bit {I : g_I} {b : Nat} (hn : 0 ≤ I b 0 ∧ I b 0 ≤ 12) {s : Int} (h : 0 ≤ s ∧ s < I b 0) : g_bit (g_vtb I b) s ↔ g_vtr I b s := by
  have := g_ors_bit (f := fun s => if g_vtr I b s then g_shl 1 s else 0) (p := fun k => decide (g_vtr I b (k : Int))) (n := (I b 0).toNat) (by omega) (fun k _ => by simp only [decide_eq_true_eq]) (k := s.toNat) (by omega)
  rw [show ((s.toNat : Nat) : Int) = s by omega] at this
  unfold g_vtb
  rw [this, decide_eq_true_eq]
theorem g_vtb_0 {I : g_I} {b : Nat} (hn : 0 ≤ I b 0 ∧ I b 0 ≤ 12) : g_vtb I b = 0 ↔ ∀ s : Int, 0 ≤ s → s < I b 0 → ¬ g_vtr I b s := by
  have := g_ors_0 (f := fun s => if g_vtr I b s then g_shl 1 s else 0) (p := fun k => decide (g_vtr I b (k : Int))) (n := (I b 0).toNat) (by omega) (fun k _ => by simp only [decide_eq_true_eq])
  unfold g_vtb
  rw [this]
  constructor
  · intro h s h0 h1 z
    have := h s.toNat (by omega)
    rw [show ((s.toNat : Nat) : Int) = s by omega] at this
    exact this (decide_eq_true z)
  · intro h k hk z
    exact h k (by omega) (by omega) (of_decide_eq_true z)
theorem g_hrd_bit {I M : g_I} {b : Nat} {m : Int} (hH : g_hrd I b m M) (hn : 0 ≤ I b 0 ∧ I b 0 ≤ 12) {s : Int} (h : 0 ≤ s ∧ s < I b 0) : g_bit (M 686 6) s ↔ g_vtr I b s := by
  rw [hH.1, g_vtb_bit hn h]
def g_cmp (a b : Int) : Int := if a < b then -1 else if a = b then 0 else 1
theorem g_cmp_in {a b : Int} : -1 ≤ g_cmp a b ∧ g_cmp a b ≤ 1 := by
  unfold g_cmp
  split
  · omega
  · split <;> omega
/-- the MOTION that a SELF VOTES for, of the first n -/
def g_vfn (I : g_I) (b : Nat) (s : Int) : Nat → Int
  | 0 => 0
  | n + 1 => if g_wby I b (g_vfn I b s n) s < g_wby I b n s then (n : Int) else g_vfn I b s n
theorem g_vfn_i {I : g_I} {b : Nat} {s i : Int} (h : 0 ≤ i) : g_vfn I b s (i + 1).toNat = if g_wby I b (g_vfn I b s i.toNat) s < g_wby I b i s then i else g_vfn I b s i.toNat := by
  rw [show (i + 1).toNat = i.toNat + 1 by omega, g_vfn, show ((i.toNat : Nat) : Int) = i by omega]
theorem g_vfn_1 {I : g_I} {b : Nat} {s : Int} : g_vfn I b s 1 = 0 := by
  rw [g_vfn, g_vfn]
  split <;> rfl
theorem g_vfn_in {I : g_I} {b : Nat} {s : Int} : ∀ n : Nat, 0 < n → 0 ≤ g_vfn I b s n ∧ g_vfn I b s n < n
  | 0, h => absurd h (by decide)
  | 1, _ => by rw [g_vfn_1]; decide
  | n + 2, _ => by
    have ih := g_vfn_in (I := I) (b := b) (s := s) (n + 1) (by omega)
    rw [g_vfn]
    split <;> omega
/-- VOTES for a MOTION -/
def g_vts (I : g_I) (b : Nat) (m t : Int) (n : Nat) : Int := g_sum (fun s => if g_vtr I b s ∧ g_vfn I b s m.toNat = t then 1 else 0) n
theorem g_vts_in {I : g_I} {b : Nat} {m t : Int} (n : Nat) : 0 ≤ g_vts I b m t n ∧ g_vts I b m t n ≤ n := by
  have := g_sum_in (f := fun s => if g_vtr I b s ∧ g_vfn I b s m.toNat = t then 1 else 0) (m := 1) n (fun i _ _ => by split <;> omega)
  unfold g_vts
  omega
def g_wnn (V : Int → Int) : Nat → Int
  | 0 => 0
  | n + 1 => if V (g_wnn V n) < V n then (n : Int) else g_wnn V n
theorem g_wnn_i {V : Int → Int} {i : Int} (h : 0 ≤ i) : g_wnn V (i + 1).toNat = if V (g_wnn V i.toNat) < V i then i else g_wnn V i.toNat := by
  rw [show (i + 1).toNat = i.toNat + 1 by omega, g_wnn, show ((i.toNat : Nat) : Int) = i by omega]
theorem g_wnn_1 {V : Int → Int} : g_wnn V 1 = 0 := by
  rw [g_wnn, g_wnn]
  split <;> rfl
def g_win (I : g_I) (b : Nat) (m what : Int) : Int := if g_vtb I b = 0 then -1 else if what = 0 then g_wnn (fun t => g_vts I b m t (I b 0).toNat) m.toNat else g_vts I b m (g_wnn (fun t => g_vts I b m t (I b 0).toNat) m.toNat) (I b 0).toNat
/-- DUEL -/
def g_ahd (I : g_I) (b : Nat) (t q : Int) : Int := g_sum (fun s => if g_vtr I b s then g_cmp (g_wby I b t s) (g_wby I b q s) else 0) (I b 0).toNat
theorem g_sum_ab {f : Int → Int} : ∀ n : Nat, (∀ i : Int, -1 ≤ f i ∧ f i ≤ 1) → -(n : Int) ≤ g_sum f n ∧ g_sum f n ≤ n
  | 0, _ => by simp [g_sum]
  | n + 1, h => by
    have ih := g_sum_ab n h
    have h2 := h n
    rw [g_sum]
    omega
theorem g_ahd_in {I : g_I} {b : Nat} {t q : Int} (hn : 0 ≤ I b 0 ∧ I b 0 ≤ 12) : -12 ≤ g_ahd I b t q ∧ g_ahd I b t q ≤ 12 := by
  have := g_sum_ab (f := fun s => if g_vtr I b s then g_cmp (g_wby I b t s) (g_wby I b q s) else 0) (I b 0).toNat (fun i => by
    have := @g_cmp_in (g_wby I b t i) (g_wby I b q i)
    split <;> omega)
  unfold g_ahd
  omega
/-- BEATS all -/
def g_btw (I : g_I) (b : Nat) (m t : Int) : Bool := g_all (fun q => decide (q = t ∨ 0 < g_ahd I b t q)) m.toNat 0
def g_bta (I : g_I) (b : Nat) (m : Int) : Int := g_first (fun t => g_btw I b m t) m.toNat 0
/-- RING -/
def g_rnd (I : g_I) (b : Nat) (m t q : Int) : Int := g_first (fun l => decide (0 < g_ahd I b q l ∧ 0 < g_ahd I b l t)) m.toNat 0
def g_rn2 (I : g_I) (b : Nat) (m t : Int) : Int := g_first (fun q => decide (0 < g_ahd I b t q ∧ ¬ g_rnd I b m t q = -1)) m.toNat 0
def g_rn3 (I : g_I) (b : Nat) (m : Int) : Int := g_first (fun t => decide (¬ g_rn2 I b m t = -1)) m.toNat 0
def g_rng (I : g_I) (b : Nat) (m : Int) : Int := if g_rn3 I b m = -1 then -1 else 100 * g_rn3 I b m + 10 * g_rn2 I b m (g_rn3 I b m) + g_rnd I b m (g_rn3 I b m) (g_rn2 I b m (g_rn3 I b m))
