/-! ===== between the class's words and the reference's: pure rows ===== -/
theorem g_all_s {p : Int → Bool} : ∀ (n : Nat) (i : Int), g_all p (n + 1) i = (g_all p n i && p (i + n))
  | 0, i => by simp [g_all]
  | n + 1, i => by
    rw [g_all, g_all_s n (i + 1), g_all, Bool.and_assoc, show i + 1 + (n : Int) = i + ((n + 1 : Nat) : Int) by omega]
theorem g_or_or {a b : Int} : g_or (g_or a b) b = g_or a b := by
  unfold g_or
  rw [Int32.ofInt_toInt, Int32.or_assoc, Int32.or_self]
/-- bits of what is joined -/
theorem g_or_bit {a b : Int} (ha : 0 ≤ a ∧ a < 2147483648) (hb : 0 ≤ b ∧ b < 2147483648) {k : Int} (hk : 0 ≤ k ∧ k < 31) : g_bit (g_or a b) k ↔ g_bit a k ∨ g_bit b k := by
  obtain ⟨x, rfl⟩ : ∃ x : Nat, a = x := ⟨a.toNat, by omega⟩
  obtain ⟨y, rfl⟩ : ∃ y : Nat, b = y := ⟨b.toNat, by omega⟩
  obtain ⟨z, rfl⟩ : ∃ z : Nat, k = z := ⟨k.toNat, by omega⟩
  have hx : x < 2 ^ 31 := by omega
  have hy : y < 2 ^ 31 := by omega
  rw [g_or_n (by omega) (by omega), g_bit_n (by have := Nat.or_lt_two_pow hx hy; omega) (by omega), g_bit_n (by omega) (by omega), g_bit_n (by omega) (by omega), Nat.testBit_or, Bool.or_eq_true]
theorem g_or_in {a b : Int} {n : Nat} (hn : n ≤ 30) (ha : 0 ≤ a ∧ a < ((2 ^ n : Nat) : Int)) (hb : 0 ≤ b ∧ b < ((2 ^ n : Nat) : Int)) : 0 ≤ g_or a b ∧ g_or a b < ((2 ^ n : Nat) : Int) := by
  have h30 : 2 ^ n ≤ 2 ^ 30 := Nat.pow_le_pow_right (by decide) hn
  have h31 : (2 : Nat) ^ 30 = 1073741824 := by decide
  obtain ⟨x, rfl⟩ : ∃ x : Nat, a = x := ⟨a.toNat, by omega⟩
  obtain ⟨y, rfl⟩ : ∃ y : Nat, b = y := ⟨b.toNat, by omega⟩
  have hx : x < 2 ^ n := by omega
  have hy : y < 2 ^ n := by omega
  have := Nat.or_lt_two_pow hx hy
  rw [g_or_n (by omega) (by omega)]
  omega
/-- two numbers of n bits are one if their bits are -/
theorem g_ext {a b : Int} {n : Nat} (hn : n ≤ 30) (ha : 0 ≤ a ∧ a < ((2 ^ n : Nat) : Int)) (hb : 0 ≤ b ∧ b < ((2 ^ n : Nat) : Int)) (h : ∀ k : Int, 0 ≤ k → k < n → (g_bit a k ↔ g_bit b k)) : a = b := by
  have h30 : 2 ^ n ≤ 2 ^ 30 := Nat.pow_le_pow_right (by decide) hn
  have h31 : (2 : Nat) ^ 30 = 1073741824 := by decide
  obtain ⟨x, rfl⟩ : ∃ x : Nat, a = x := ⟨a.toNat, by omega⟩
  obtain ⟨y, rfl⟩ : ∃ y : Nat, b = y := ⟨b.toNat, by omega⟩
  congr 1
  apply Nat.eq_of_testBit_eq
  intro i
  by_cases hi : i < n
  · have := h i (by omega) (by omega)
    rw [g_bit_n (by omega) (by omega), g_bit_n (by omega) (by omega)] at this
    cases h1 : x.testBit i <;> cases h2 : y.testBit i <;> simp_all
  · rw [Nat.testBit_lt_two_pow (by have := Nat.pow_le_pow_right (n := 2) (by decide) (show n ≤ i by omega); omega), Nat.testBit_lt_two_pow (by have := Nat.pow_le_pow_right (n := 2) (by decide) (show n ≤ i by omega); omega)]
theorem g_law1 {m : Int} (h : 0 ≤ m ∧ m ≤ 3) : (g_bit m 1 ↔ ¬ g_and m 2 = 0) ∧ (g_bit m 0 ↔ ¬ g_and m 1 = 0) := by
  have z : ∀ i : Fin 4, (g_bit i.val 1 ↔ ¬ g_and i.val 2 = 0) ∧ (g_bit i.val 0 ↔ ¬ g_and i.val 1 = 0) := by decide +kernel
  have h2 := z ⟨m.toNat, by omega⟩
  dsimp only at h2
  rwa [show ((m.toNat : Nat) : Int) = m by omega] at h2
section P2
variable {I : g_I} {b : Nat}
/-- the BRANCH of a WAY at a FORK -/
def q_bo (I : g_I) (b : Nat) (s f : Int) : Int := if g_stp I b s f = -1 then -1 else I (b + 29 + s.toNat) (g_stp I b s f)
theorem q_stp {s f : Int} : g_stp I b s f = -1 ∧ (∀ i, 0 ≤ i → i < I (b + 14) s → ¬ I (b + 16 + s.toNat) i = f) ∨ (0 ≤ g_stp I b s f ∧ g_stp I b s f < I (b + 14) s ∧ I (b + 16 + s.toNat) (g_stp I b s f) = f) := by
  have key : ∀ (n : Nat) (i : Int), 0 ≤ i → g_first (fun i => I (b + 16 + s.toNat) i == f) n i = -1 → ∀ j, i ≤ j → j < i + n → ¬ I (b + 16 + s.toNat) j = f := by
    intro n
    induction n with
    | zero => intro i _ _ j h1 h2; omega
    | succ n ih =>
      intro i hi0 h j h1 h2 he
      rw [g_first] at h
      by_cases hp : (I (b + 16 + s.toNat) i == f) = true
      · rw [if_pos hp] at h
        by_cases e : j = i
        · have := g_first_in (p := fun i => I (b + 16 + s.toNat) i == f) 0 i
          omega
        · omega
      · rw [if_neg hp] at h
        by_cases e : j = i
        · rw [e] at he; exact hp (by simpa using he)
        · exact ih (i + 1) (by omega) h j (by omega) (by omega) he
  unfold g_stp
  rcases g_first_in (p := fun i => I (b + 16 + s.toNat) i == f) (I (b + 14) s).toNat 0 (Int.le_refl _) with h | ⟨h1, h2, h3⟩
  · exact Or.inl ⟨h, fun i h0 h9 => key _ 0 (Int.le_refl _) h i h0 (by omega)⟩
  · exact Or.inr ⟨h1, by omega, by simpa using h3⟩
/-- one step alone goes by a FORK -/
theorem q_asc (h : q_str I b) {s : Int} (h1 : 0 ≤ s ∧ s < I b 0) : ∀ (n : Nat) (i : Int), 0 ≤ i → i + n + 1 < I (b + 14) s + 0 → I (b + 16 + s.toNat) i < I (b + 16 + s.toNat) (i + n + 1)
  | 0, i, h0, h9 => by
    have := (h.2.1 s h1.1 h1.2).2.1 i h0 (by omega)
    rwa [show i + ((0 : Nat) : Int) + 1 = i + 1 by omega]
  | n + 1, i, h0, h9 => by
    have a := q_asc h h1 n i h0 (by omega)
    have c := (h.2.1 s h1.1 h1.2).2.1 (i + n + 1) (by omega) (by omega)
    rw [show i + ((n + 1 : Nat) : Int) + 1 = i + n + 1 + 1 by omega]
    omega
theorem q_lt (h : q_str I b) {s i j : Int} (h1 : 0 ≤ s ∧ s < I b 0) (h0 : 0 ≤ i) (hij : i < j) (h9 : j < I (b + 14) s) : I (b + 16 + s.toNat) i < I (b + 16 + s.toNat) j := by
  have := q_asc h h1 (j - i - 1).toNat i h0 (by omega)
  rwa [show i + (((j - i - 1).toNat : Nat) : Int) + 1 = j by omega] at this
/-- the first so many steps go by FORKS below f -/
def q_cut (I : g_I) (b : Nat) (s f c : Int) : Prop := 0 ≤ c ∧ c ≤ I (b + 14) s ∧ (∀ i, 0 ≤ i → i < c → I (b + 16 + s.toNat) i < f) ∧ ∀ i, c ≤ i → i < I (b + 14) s → f ≤ I (b + 16 + s.toNat) i
theorem q_cut_n {s f c : Int} (hc : q_cut I b s f c) (h : g_stp I b s f = -1) : q_cut I b s (f + 1) c := by
  obtain ⟨h1, h2, h3, h4⟩ := hc
  refine ⟨h1, h2, fun i a e => by have := h3 i a e; omega, fun i a e => ?_⟩
  rcases @q_stp I b s f with ⟨-, z⟩ | ⟨z, -⟩
  · have := z i (by omega) e; have := h4 i a e; omega
  · omega
theorem q_cut_y (hs : q_str I b) {s f c : Int} (hs1 : 0 ≤ s ∧ s < I b 0) (hc : q_cut I b s f c) (h : ¬ g_stp I b s f = -1) : g_stp I b s f = c ∧ c < I (b + 14) s ∧ I (b + 16 + s.toNat) c = f ∧ q_cut I b s (f + 1) (c + 1) := by
  obtain ⟨h1, h2, h3, h4⟩ := hc
  rcases @q_stp I b s f with ⟨z, -⟩ | ⟨z1, z2, z3⟩
  · exact absurd z h
  · have e : g_stp I b s f = c := by
      by_cases a : g_stp I b s f < c
      · have := h3 _ z1 a; omega
      · by_cases d : c < g_stp I b s f
        · have := q_lt hs hs1 h1 d z2
          have := h4 c (Int.le_refl _) (by omega)
          omega
        · omega
    rw [e] at z1 z2 z3
    refine ⟨e, z2, z3, by omega, by omega, fun i a d => ?_, fun i a d => ?_⟩
    · by_cases y : i = c
      · rw [y]; omega
      · have := h3 i a (by omega); omega
    · have := q_lt hs hs1 z1 (show c < i by omega) d; omega
/-- REGRET at a FORK for a BRANCH -/
def q_rg (I : g_I) (b : Nat) (f r : Int) : Int := if I (b + 42) f = 1 then 0 else max 0 (g_w5 I b f - g_bhd I b (g_w5 I b) f r)
theorem q_rg_s {s i f : Int} (h : I (b + 16 + s.toNat) i = f) : g_rgt I b s i = q_rg I b f (I (b + 29 + s.toNat) i) := by
  unfold g_rgt q_rg
  rw [h]
/-- VALUE of a node -/
def q_val (I : g_I) (b : Nat) (nd : Int) : Int := if nd < 100 then 100 * g_lkd I b nd else g_w5 I b (nd - 100)
theorem q_bhd {f r : Int} (hf : 0 ≤ f ∧ f < I b 1) (hr : 0 ≤ r ∧ r < I (b + 43) f) : g_bhd I b (g_w5 I b) f r = q_val I b (I (b + 127) (f * 4 + r)) := by
  unfold g_bhd q_val
  rw [if_pos ⟨hf, hr⟩]
  by_cases h : I (b + 127) (f * 4 + r) < 100
  · rw [if_pos h, if_neg (by omega)]
  · rw [if_neg h, if_pos (by omega)]
/-- on the WAYS of both -/
def q_bth (I : g_I) (b : Nat) (s t f : Int) : Prop := q_on I b s f = true ∧ q_on I b t f = true
theorem q_on_iff {s f : Int} : q_on I b s f = true ↔ ∃ i, 0 ≤ i ∧ i < I (b + 14) s ∧ I (b + 16 + s.toNat) i = f := by
  unfold q_on
  rw [Bool.not_eq_true', ← Bool.not_eq_true, g_all_iff]
  constructor
  · intro h
    refine Classical.byContradiction fun hn => h fun j h0 h1 => ?_
    rw [decide_eq_true_eq]
    exact fun e => hn ⟨j, h0, by omega, e⟩
  · rintro ⟨i, h0, h1, h2⟩ h
    have := of_decide_eq_true (h i h0 (by omega))
    exact this h2
/-- where two WAYS part: the last FORK of both -/
theorem q_prt (h : q_str I b) {s t : Int} (hs : 0 ≤ s ∧ s < I b 0) (ht : 0 ≤ t ∧ t < I b 0) (hst : ¬ s = t) (hl : 0 ≤ I b 1) : q_bth I b s t (g_prt I b s t) ∧ ∀ f, q_bth I b s t f → f ≤ g_prt I b s t := by
  obtain ⟨⟨-, hz⟩, hw, ⟨dep, -, -, hd, -⟩, -⟩ := id h
  have hf1 : 0 < I b 1 := by
    rcases Int.lt_or_le 0 (I b 1) with z | z
    · exact z
    · have := hz (by omega); omega
  obtain ⟨a1, a2⟩ := (hw s hs.1 hs.2).1 hf1
  obtain ⟨c1, c2⟩ := (hw t ht.1 ht.2).1 hf1
  have key : ∀ n : Nat, 1 ≤ n → (n : Int) ≤ I (b + 14) s → (n : Int) ≤ I (b + 14) t → q_bth I b s t (g_prn I b s t n) ∧ ∀ i : Int, 0 ≤ i → i < (n : Int) → I (b + 16 + s.toNat) i = I (b + 16 + t.toNat) i → I (b + 16 + s.toNat) i ≤ g_prn I b s t n := by
    intro n
    induction n with
    | zero => intro z; omega
    | succ n ih =>
      intro _ h1 h2
      rw [g_prn]
      by_cases e : I (b + 16 + s.toNat) n = I (b + 16 + t.toNat) n
      · rw [if_pos e]
        refine ⟨⟨q_on_iff.mpr ⟨n, by omega, by omega, rfl⟩, q_on_iff.mpr ⟨n, by omega, by omega, e.symm⟩⟩, fun i i0 i1 _ => ?_⟩
        by_cases y : i = n
        · rw [y]; exact Int.le_refl _
        · have := q_lt h hs i0 (show i < (n : Int) by omega) (by omega); omega
      · rw [if_neg e]
        have hn : 1 ≤ n := by
          rcases Nat.eq_zero_or_pos n with z | z
          · subst z
            exact absurd (by show I (b + 16 + s.toNat) 0 = I (b + 16 + t.toNat) 0; rw [a2, c2]) e
          · exact z
        obtain ⟨i1, i2⟩ := ih hn (by omega) (by omega)
        refine ⟨i1, fun i i0 i9 ie => ?_⟩
        by_cases y : i = n
        · rw [y] at ie; exact absurd ie e
        · exact i2 i i0 (by omega) ie
  obtain ⟨k1, k2⟩ := key (min (I (b + 14) s) (I (b + 14) t)).toNat (by omega) (by omega) (by omega)
  refine ⟨k1, fun f hf => ?_⟩
  obtain ⟨i, i0, i1, i2⟩ := q_on_iff.mp hf.1
  obtain ⟨j, j0, j1, j2⟩ := q_on_iff.mp hf.2
  have e1 := hd s hs.1 hs.2 i i0 i1
  have e2 := hd t ht.1 ht.2 j j0 j1
  rw [i2] at e1
  rw [j2] at e2
  have eij : i = j := by omega
  have := k2 i i0 (by omega) (by rw [i2, eij, j2])
  rw [i2] at this
  exact this
end P2
section P3
variable {I : g_I} {b : Nat} {W5 : Int → Int} {f : Int}
theorem q_chs_in {B : Int} (hB : 0 ≤ B) (hv : ∀ r, 0 ≤ r → r < I (b + 43) f → -B ≤ g_bhd I b W5 f r ∧ g_bhd I b W5 f r ≤ B) (hw : ∀ r, 0 ≤ r → r < I (b + 43) f → 1 ≤ I (b + 47 + (f * 4 + r).toNat) 0) (m : Int) : ∀ n : Nat, (n : Int) ≤ I (b + 43) f →
    -(B * g_wt I b f m n) ≤ g_sum (fun r => if g_bit m r then g_bhd I b W5 f r * I (b + 47 + (f * 4 + r).toNat) 0 else 0) n ∧ g_sum (fun r => if g_bit m r then g_bhd I b W5 f r * I (b + 47 + (f * 4 + r).toNat) 0 else 0) n ≤ B * g_wt I b f m n
  | 0, _ => by
    show -(B * 0) ≤ 0 ∧ 0 ≤ B * 0
    omega
  | n + 1, hn => by
    obtain ⟨i1, i2⟩ := q_chs_in hB hv hw m n (by omega)
    have e : g_wt I b f m (n + 1) = g_wt I b f m n + (if g_and (g_shr m n) 1 = 1 then I (b + 47 + (f * 4 + n).toNat) 0 else 0) := rfl
    rw [g_sum, e]
    by_cases hb : g_bit m n
    · rw [if_pos hb, if_pos hb, Int.mul_add]
      obtain ⟨v1, v2⟩ := hv n (by omega) (by omega)
      have w1 := hw n (by omega) (by omega)
      have a1 : g_bhd I b W5 f n * I (b + 47 + (f * 4 + n).toNat) 0 ≤ B * I (b + 47 + (f * 4 + n).toNat) 0 := Int.mul_le_mul_of_nonneg_right v2 (by omega)
      have a2 : -B * I (b + 47 + (f * 4 + n).toNat) 0 ≤ g_bhd I b W5 f n * I (b + 47 + (f * 4 + n).toNat) 0 := Int.mul_le_mul_of_nonneg_right v1 (by omega)
      rw [Int.neg_mul] at a2
      omega
    · rw [if_neg hb, if_neg hb, Int.add_zero, Int.add_zero]
      exact ⟨i1, i2⟩
theorem q_tdiv_in {x B c : Int} (hB : 0 ≤ B) (hc : 0 < c) (h1 : -(B * c) ≤ x) (h2 : x ≤ B * c) : -B ≤ x.tdiv c ∧ x.tdiv c ≤ B := by
  have h3 : x.natAbs ≤ B.natAbs * c.natAbs := by rw [← Int.natAbs_mul]; omega
  have h4 : (x.tdiv c).natAbs ≤ B.natAbs := by
    rw [Int.natAbs_tdiv]
    exact Nat.div_le_of_le_mul (by rw [Nat.mul_comm]; exact h3)
  omega
theorem q_w5_in (hC : g_cin I b) : ∀ (n : Nat) (f : Int), I b 1 - f ≤ n → 0 ≤ f → f < I b 1 → -100030000 ≤ g_w5 I b f ∧ g_w5 I b f ≤ 100030000
  | 0, f, h, h0, h1 => by omega
  | n + 1, f, h, h0, h1 => by
    obtain ⟨⟨k1, k2⟩, -, hy, hit⟩ := hC.1.2.2.2 f h0 h1
    have hbd : ∀ r, 0 ≤ r → r < I (b + 43) f → -100030000 ≤ g_bhd I b (g_w5 I b) f r ∧ g_bhd I b (g_w5 I b) f r ≤ 100030000 := by
      intro r r0 r1
      obtain ⟨-, -, -, -, -, ht⟩ := hit r r0 r1
      rw [q_bhd ⟨h0, h1⟩ ⟨r0, r1⟩]
      unfold q_val
      rcases ht with ht | ht
      · rw [if_pos (by have := hC.1.1; omega)]
        have := g_lkd_in hC ht
        omega
      · rw [if_neg (by omega)]
        exact q_w5_in hC n _ (by omega) (by omega) (by omega)
    rw [g_w5_eq hC.1 h0 h1]
    unfold g_st5
    split
    · unfold g_chv
      split
      · omega
      · have hw0 := g_wt_in (m := I 550 (4 + f)) (fun r a c => (hit r a c).1) (I (b + 43) f).toNat (by omega)
        obtain ⟨s1, s2⟩ := q_chs_in (B := 100030000) (by decide) hbd (fun r a c => (hit r a c).1.1) (I 550 (4 + f)) (I (b + 43) f).toNat (by omega)
        exact q_tdiv_in (by decide) (by omega) s1 s2
    · have hbs := g_bsn_in (I := I) (b := b) (W5 := g_w5 I b) (f := f) (I (b + 43) f).toNat
      by_cases e : g_bst I b (g_w5 I b) f = -1
      · rw [e]
        unfold g_bhd
        rw [if_neg (by omega)]
        omega
      · unfold g_bst at e ⊢
        exact hbd _ (by omega) (by omega)
theorem q_val_in (hC : g_cin I b) {nd : Int} (h : (0 ≤ nd ∧ nd < I b 0) ∨ (100 ≤ nd ∧ nd < 100 + I b 1)) : -100030000 ≤ q_val I b nd ∧ q_val I b nd ≤ 100030000 := by
  have hn := hC.1.1
  unfold q_val
  rcases h with h | h
  · rw [if_pos (by omega)]
    have := g_lkd_in hC h
    omega
  · rw [if_neg (by omega)]
    exact q_w5_in hC (I b 1 - (nd - 100)).toNat _ (by omega) (by omega) (by omega)
end P3
