theorem g_bvn (n : Nat) : (Int32.ofInt (n : Int)).toBitVec = BitVec.ofNat 32 n := by
  show BitVec.ofInt 32 (n : Int) = _
  rw [BitVec.ofInt_natCast]
theorem g_bvi {n : Nat} (h : n < 2147483648) : (BitVec.ofNat 32 n).toInt = (n : Int) := by
  rw [BitVec.toInt_ofNat']
  have : (n : Int) % 4294967296 = n := by omega
  rw [Int.bmod_def]
  omega
theorem g_i32 (x : Int32) : x.toInt = x.toBitVec.toInt := rfl
theorem g_or_n {a b : Nat} (ha : a < 2147483648) (hb : b < 2147483648) : g_or a b = ((a ||| b : Nat) : Int) := by
  have h : a ||| b < 2 ^ 31 := Nat.or_lt_two_pow (by omega) (by omega)
  rw [g_or, g_i32, Int32.toBitVec_or, g_bvn, g_bvn, ← BitVec.ofNat_or, g_bvi (by omega)]
theorem g_and_n {a b : Nat} (ha : a < 2147483648) (hb : b < 2147483648) : g_and a b = ((a &&& b : Nat) : Int) := by
  have h : a &&& b < 2 ^ 31 := Nat.and_lt_two_pow _ (by omega)
  rw [g_and, g_i32, Int32.toBitVec_and, g_bvn, g_bvn, ← BitVec.ofNat_and, g_bvi (by omega)]
theorem g_xor_n {a b : Nat} (ha : a < 2147483648) (hb : b < 2147483648) : g_xor a b = ((a ^^^ b : Nat) : Int) := by
  have h : a ^^^ b < 2 ^ 31 := Nat.xor_lt_two_pow (by omega) (by omega)
  rw [g_xor, g_i32, Int32.toBitVec_xor, g_bvn, g_bvn, ← BitVec.ofNat_xor, g_bvi (by omega)]
theorem g_shl_n {k : Nat} (h : k < 31) : g_shl 1 k = ((2 ^ k : Nat) : Int) := by
  have : ∀ k : Fin 31, g_shl 1 (k.val : Int) = ((2 ^ k.val : Nat) : Int) := by decide +kernel
  exact this ⟨k, h⟩
theorem g_shr_n {a k : Nat} (ha : a < 2147483648) (hk : k < 31) : g_shr a k = ((a >>> k : Nat) : Int) := by
  have e : ∀ k : Fin 31, ((Int32.ofInt ((k.val : Nat) : Int) &&& 31).toBitVec.smod 32).toNat = k.val := by decide +kernel
  have ea : (Int32.ofInt (a : Int)).toInt = (a : Int) := by rw [g_i32, g_bvn, g_bvi ha]
  rw [g_shr, pk_shr _ _ k (e ⟨k, hk⟩), ea, Int.shiftRight_eq_div_pow, Nat.shiftRight_eq_div_pow]
  simp
theorem g_bit_n {a k : Nat} (ha : a < 2147483648) (hk : k < 31) : g_bit a k ↔ a.testBit k = true := by
  have h : a >>> k < 2147483648 := Nat.lt_of_le_of_lt (Nat.shiftRight_le _ _) ha
  have e1 : (1 : Int) = ((1 : Nat) : Int) := rfl
  unfold g_bit
  rw [g_shr_n ha hk, e1, g_and_n h (by decide), Nat.testBit_eq_decide_div_mod_eq, Nat.shiftRight_eq_div_pow, Nat.and_one_is_mod]
  simp only [decide_eq_true_eq]
  omega
/-- bits of those of which p is so, below n, as a number -/
def g_nb (p : Nat → Bool) : Nat → Nat
  | 0 => 0
  | n + 1 => g_nb p n ||| (if p n then 2 ^ n else 0)
theorem g_nb_lt {p : Nat → Bool} : ∀ n : Nat, g_nb p n < 2 ^ n
  | 0 => by simp [g_nb]
  | n + 1 => by
    have ih := g_nb_lt (p := p) n
    have e : 2 ^ n < 2 ^ (n + 1) := by rw [Nat.pow_succ]; omega
    rw [g_nb]
    refine Nat.or_lt_two_pow (by omega) ?_
    split
    · exact e
    · omega
theorem g_nb_bit {p : Nat → Bool} {k : Nat} : ∀ n : Nat, (g_nb p n).testBit k = (decide (k < n) && p k)
  | 0 => by simp [g_nb]
  | n + 1 => by
    rw [g_nb, Nat.testBit_or, g_nb_bit n]
    by_cases e : k = n
    · subst e
      cases hp : p k <;> simp [hp]
    · have h2 : (if p n = true then 2 ^ n else 0).testBit k = false := by
        split
        · rw [Nat.testBit_two_pow]; simp; omega
        · simp
      rw [h2, Bool.or_false]
      by_cases h : k < n
      · simp [h, show k < n + 1 by omega]
      · simp [h, show ¬ k < n + 1 by omega]
theorem g_ors_n {f : Int → Int} {p : Nat → Bool} : ∀ n : Nat, n ≤ 30 → (∀ k : Nat, k < n → f k = if p k = true then g_shl 1 k else 0) → g_ors f n = (g_nb p n : Int)
  | 0, _, _ => rfl
  | n + 1, hn, h => by
    have hl := g_nb_lt (p := p) n
    have e : 2 ^ n < 2147483648 := Nat.pow_lt_pow_right (a := 2) (m := n) (n := 31) (by decide) (by omega)
    rw [g_ors, g_nb, g_ors_n n (by omega) (fun k hk => h k (by omega)), h n (by omega)]
    have e2 : (if p n = true then g_shl 1 (n : Int) else 0) = (((if p n = true then 2 ^ n else 0 : Nat)) : Int) := by
      split
      · exact g_shl_n (by omega)
      · rfl
    rw [e2, g_or_n (by omega) (by split <;> omega)]
theorem g_ors_bit {f : Int → Int} {p : Nat → Bool} {n : Nat} (hn : n ≤ 30) (h : ∀ k : Nat, k < n → f k = if p k = true then g_shl 1 k else 0) {k : Nat} (hk : k < n) : g_bit (g_ors f n) k ↔ p k = true := by
  have hl := g_nb_lt (p := p) n
  have e : 2 ^ n < 2147483648 := Nat.pow_lt_pow_right (a := 2) (m := n) (n := 31) (by decide) (by omega)
  rw [g_ors_n n hn h, g_bit_n (by omega) (by omega), g_nb_bit]
  simp [hk]
theorem g_ors_0 {f : Int → Int} {p : Nat → Bool} {n : Nat} (hn : n ≤ 30) (h : ∀ k : Nat, k < n → f k = if p k = true then g_shl 1 k else 0) : g_ors f n = 0 ↔ ∀ k : Nat, k < n → ¬ p k = true := by
  rw [g_ors_n n hn h]
  constructor
  · intro e k hk hp
    have hb := g_nb_bit (p := p) (k := k) n
    rw [show g_nb p n = 0 by omega] at hb
    simp [hk, hp] at hb
  · intro e
    have : g_nb p n = 0 := by
      apply Nat.eq_of_testBit_eq
      intro k
      rw [g_nb_bit, Nat.zero_testBit]
      by_cases hk : k < n
      · have := e k hk
        simp [this]
      · simp [hk]
    omega
