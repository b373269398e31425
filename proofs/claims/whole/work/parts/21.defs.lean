/-- bit k of m -/
abbrev g_bit (m k : Int) : Prop := g_and (g_shr m k) 1 = 1
/-- whether p is so at i, i+1, .. (n of them) -/
def g_all (p : Int → Bool) : Nat → Int → Bool
  | 0, _ => true
  | n + 1, i => p i && g_all p n (i + 1)
theorem g_all_t {p : Int → Bool} {n i : Int} (h : i < n) (hp : p i = true) : g_all p (n - i).toNat i = g_all p (n - (i + 1)).toNat (i + 1) := by
  rw [show (n - i).toNat = (n - (i + 1)).toNat + 1 by omega, g_all, hp, Bool.true_and]
theorem g_all_f {p : Int → Bool} {n i : Int} (h : i < n) (hp : ¬ p i = true) : g_all p (n - i).toNat i = false := by
  rw [show (n - i).toNat = (n - (i + 1)).toNat + 1 by omega, g_all]
  have : p i = false := by simpa using hp
  rw [this, Bool.false_and]
theorem g_all_e {p : Int → Bool} {n i : Int} (h : n ≤ i) : g_all p (n - i).toNat i = true := by
  rw [show (n - i).toNat = 0 by omega, g_all]
theorem g_all_iff {p : Int → Bool} : ∀ {n : Nat} {i : Int}, g_all p n i = true ↔ ∀ j : Int, i ≤ j → j < i + n → p j = true
  | 0, i => by simp [g_all]; intro j h1 h2; omega
  | n + 1, i => by
    rw [g_all, Bool.and_eq_true, g_all_iff (n := n) (i := i + 1)]
    constructor
    · rintro ⟨h1, h2⟩ j hj hk
      by_cases e : j = i
      · rw [e]; exact h1
      · exact h2 j (by omega) (by omega)
    · intro h
      exact ⟨h i (by omega) (by omega), fun j h1 h2 => h j (by omega) (by omega)⟩
/-- bits of all f k together, k below n -/
def g_ors (f : Int → Int) : Nat → Int
  | 0 => 0
  | n + 1 => g_or (g_ors f n) (f n)
theorem g_ors_i {f : Int → Int} {i : Int} (h : 0 ≤ i) : g_ors f (i + 1).toNat = g_or (g_ors f i.toNat) (f i) := by
  rw [show (i + 1).toNat = i.toNat + 1 by omega, g_ors, show ((i.toNat : Nat) : Int) = i by omega]
theorem g_ors32 {f : Int → Int} {n : Nat} : g32 (g_ors f n) := by
  cases n with
  | zero => exact (show g32 0 from ⟨by decide, by decide⟩)
  | succ n => exact g_or32
/-- what a LIFE's rows keep to -/
def g_lok (I : g_I) (b : Nat) : Prop :=
  (0 ≤ I b 0 ∧ I b 0 ≤ 12) ∧ (0 ≤ I b 1 ∧ I b 1 ≤ 18) ∧
  (∀ s : Int, 0 ≤ s → s < I b 0 → (0 ≤ I (b + 14) s ∧ I (b + 14) s ≤ 6) ∧ (∀ i : Int, 0 ≤ i → i < I (b + 14) s → (0 ≤ I (b + 16 + s.toNat) i ∧ I (b + 16 + s.toNat) i < I b 1) ∧ 0 ≤ I (b + 29 + s.toNat) i ∧ I (b + 29 + s.toNat) i < I (b + 43) (I (b + 16 + s.toNat) i)) ∧
    (0 ≤ I (b + 2 + s.toNat) 0 ∧ I (b + 2 + s.toNat) 0 ≤ 693) ∧ (0 ≤ I (b + 2 + s.toNat) 1 ∧ I (b + 2 + s.toNat) 1 ≤ 693) ∧ (0 ≤ I (b + 2 + s.toNat) 2 ∧ I (b + 2 + s.toNat) 2 ≤ 594) ∧ (1 ≤ I (b + 2 + s.toNat) 3 ∧ I (b + 2 + s.toNat) 3 ≤ 99) ∧ (0 ≤ I (b + 2 + s.toNat) 4 ∧ I (b + 2 + s.toNat) 4 ≤ 1) ∧ (0 ≤ I (b + 2 + s.toNat) 5 ∧ I (b + 2 + s.toNat) 5 ≤ 9) ∧ (0 ≤ I (b + 2 + s.toNat) 6 ∧ I (b + 2 + s.toNat) 6 ≤ 1023)) ∧
  (∀ f : Int, 0 ≤ f → f < I b 1 → (2 ≤ I (b + 43) f ∧ I (b + 43) f ≤ 4) ∧ (0 ≤ I (b + 42) f ∧ I (b + 42) f ≤ 1) ∧ (1 ≤ I (b + 41) f ∧ I (b + 41) f ≤ 99) ∧
    ∀ r : Int, 0 ≤ r → r < I (b + 43) f → (1 ≤ I (b + 47 + (f * 4 + r).toNat) 0 ∧ I (b + 47 + (f * 4 + r).toNat) 0 ≤ 9) ∧ (0 ≤ I (b + 47 + (f * 4 + r).toNat) 1 ∧ I (b + 47 + (f * 4 + r).toNat) 1 ≤ 99) ∧ (0 ≤ I (b + 47 + (f * 4 + r).toNat) 2 ∧ I (b + 47 + (f * 4 + r).toNat) 2 ≤ 99) ∧ (0 ≤ I (b + 47 + (f * 4 + r).toNat) 3 ∧ I (b + 47 + (f * 4 + r).toNat) 3 ≤ 99) ∧ (-1 ≤ I (b + 47 + (f * 4 + r).toNat) 4 ∧ I (b + 47 + (f * 4 + r).toNat) 4 ≤ 9) ∧
      ((0 ≤ I (b + 127) (f * 4 + r) ∧ I (b + 127) (f * 4 + r) < I b 0) ∨ (100 + f < I (b + 127) (f * 4 + r) ∧ I (b + 127) (f * 4 + r) < 100 + I b 1)))
section GLOK
variable {I : g_I} {b : Nat}
theorem g_lok_s (h : g_lok I b) {s : Int} (h0 : 0 ≤ s ∧ s < I b 0) : (0 ≤ I (b + 14) s ∧ I (b + 14) s ≤ 6) ∧ (∀ i : Int, 0 ≤ i → i < I (b + 14) s → (0 ≤ I (b + 16 + s.toNat) i ∧ I (b + 16 + s.toNat) i < I b 1) ∧ 0 ≤ I (b + 29 + s.toNat) i ∧ I (b + 29 + s.toNat) i < I (b + 43) (I (b + 16 + s.toNat) i)) := ⟨(h.2.2.1 s h0.1 h0.2).1, (h.2.2.1 s h0.1 h0.2).2.1⟩
theorem g_lok_f (h : g_lok I b) {f : Int} (h0 : 0 ≤ f ∧ f < I b 1) : (2 ≤ I (b + 43) f ∧ I (b + 43) f ≤ 4) ∧ (0 ≤ I (b + 42) f ∧ I (b + 42) f ≤ 1) ∧ (1 ≤ I (b + 41) f ∧ I (b + 41) f ≤ 99) := ⟨(h.2.2.2 f h0.1 h0.2).1, (h.2.2.2 f h0.1 h0.2).2.1, (h.2.2.2 f h0.1 h0.2).2.2.1⟩
end GLOK
/-- whether a SELF is THERE -/
def g_thr (I : g_I) (b : Nat) (s : Int) : Bool := g_all (fun i => decide (g_bit (I 550 (4 + I (b + 16 + s.toNat) i)) (I (b + 29 + s.toNat) i))) (I (b + 14) s).toNat 0
/-- those THERE, as bits -/
def g_thb (I : g_I) (b : Nat) : Int := g_ors (fun s => if g_thr I b s = true then g_shl 1 s else 0) (I b 0).toNat
