theorem x_bc12 : ∀ a c : Fin 64, g_bc ((64 * a.val + c.val : Nat) : Int) = g_sum (fun k => if (64 * a.val + c.val).testBit k.toNat then 1 else 0) 12 := by decide +kernel
theorem x_no12 : ∀ a c : Fin 64, g_and 4095 (g_xor ((64 * a.val + c.val : Nat) : Int) (-1)) = ((4095 ^^^ (64 * a.val + c.val) : Nat) : Int) := by decide +kernel
theorem x_bcb {n : Nat} (h : n < 4096) : g_bc n = g_sum (fun k => if n.testBit k.toNat then 1 else 0) 12 := by
  have := x_bc12 ⟨n / 64, by omega⟩ ⟨n % 64, by omega⟩
  rw [show 64 * (n / 64) + n % 64 = n by omega] at this
  exact this
theorem x_nob {n : Nat} (h : n < 4096) : g_and 4095 (g_xor n (-1)) = ((4095 ^^^ n : Nat) : Int) := by
  have := x_no12 ⟨n / 64, by omega⟩ ⟨n % 64, by omega⟩
  rw [show 64 * (n / 64) + n % 64 = n by omega] at this
  exact this
/-- a set within another -/
theorem x_sub {a c : Nat} (ha : a < 4096) (hc : c < 4096) : g_and a (g_xor c (-1)) = 0 ↔ ∀ k : Nat, a.testBit k = true → c.testBit k = true := by
  have h3 : 4095 ^^^ c < 2 ^ 31 := Nat.xor_lt_two_pow (by decide) (by omega)
  have e : g_and a (g_xor c (-1)) = ((a &&& (4095 ^^^ c) : Nat) : Int) := by
    rw [← x_and_nat ha, x_and_assoc, x_nob hc, g_and_n (by omega) (by omega)]
  have hb : ∀ k : Nat, a.testBit k = true → k < 12 := by
    intro k hk
    by_cases z : k < 12
    · exact z
    · rw [Nat.testBit_lt_two_pow (show a < 2 ^ k from Nat.lt_of_lt_of_le (show a < 2 ^ 12 by omega) (Nat.pow_le_pow_right (by decide) (by omega)))] at hk
      exact absurd hk (by decide)
  rw [e]
  constructor
  · intro z k hk
    have h := congrArg (fun z => z.testBit k) (show a &&& (4095 ^^^ c) = 0 by omega)
    rw [Nat.testBit_and, Nat.testBit_xor, show (4095 : Nat) = 2 ^ 12 - 1 from rfl, Nat.testBit_two_pow_sub_one, hk, decide_eq_true (hb k hk), Bool.true_and, Bool.true_xor, Nat.zero_testBit] at h
    simpa using h
  · intro h
    have : a &&& (4095 ^^^ c) = 0 := by
      apply Nat.eq_of_testBit_eq
      intro k
      rw [Nat.testBit_and, Nat.testBit_xor, show (4095 : Nat) = 2 ^ 12 - 1 from rfl, Nat.testBit_two_pow_sub_one, Nat.zero_testBit]
      by_cases hk : a.testBit k = true
      · rw [hk, h k hk, decide_eq_true (hb k hk)]; rfl
      · rw [Bool.eq_false_iff.mpr hk]; rfl
    rw [this]; rfl
theorem x_sum_le {f g : Int → Int} : ∀ n : Nat, (∀ i : Int, 0 ≤ i → i < n → f i ≤ g i) → g_sum f n ≤ g_sum g n
  | 0, _ => Int.le_refl _
  | n + 1, h => by
    have := x_sum_le n (fun i a c => h i a (by omega))
    have := h n (by omega) (by omega)
    rw [g_sum, g_sum]
    omega
theorem x_sum_lt {f g : Int → Int} : ∀ n : Nat, (∀ i : Int, 0 ≤ i → i < n → f i ≤ g i) → (∃ i : Int, 0 ≤ i ∧ i < n ∧ f i < g i) → g_sum f n < g_sum g n
  | 0, _, ⟨i, a, c, _⟩ => by omega
  | n + 1, h, ⟨i, a, c, d⟩ => by
    have h1 := x_sum_le n (fun i a c => h i a (by omega))
    have h2 := h n (by omega) (by omega)
    rw [g_sum, g_sum]
    by_cases e : i = n
    · rw [e] at d; omega
    · have := x_sum_lt n (fun i a c => h i a (by omega)) ⟨i, a, by omega, d⟩
      omega
theorem x_sum_eq {f g : Int → Int} : ∀ n : Nat, (∀ i : Int, 0 ≤ i → i < n → f i = g i) → g_sum f n = g_sum g n
  | 0, _ => rfl
  | n + 1, h => by rw [g_sum, g_sum, x_sum_eq n (fun i a c => h i a (by omega)), h n (by omega) (by omega)]
/-- fewer elements -/
theorem x_bc_lt {a c : Nat} (ha : a < 4096) (hc : c < 4096) (h : ∀ k : Nat, a.testBit k = true → c.testBit k = true) (hne : ¬ a = c) : g_bc a < g_bc c := by
  rw [x_bcb ha, x_bcb hc]
  apply x_sum_lt
  · intro i a0 a1
    by_cases z : a.testBit i.toNat = true
    · rw [if_pos z, if_pos (h _ z)]; exact Int.le_refl _
    · rw [if_neg z]; split <;> decide
  · apply Classical.byContradiction
    intro hn
    apply hne
    apply Nat.eq_of_testBit_eq
    intro k
    by_cases z : a.testBit k = true
    · rw [z, h k z]
    · by_cases y : c.testBit k = true
      · exfalso
        have hk : k < 12 := by
          by_cases w : k < 12
          · exact w
          · rw [Nat.testBit_lt_two_pow (show c < 2 ^ k from Nat.lt_of_lt_of_le (show c < 2 ^ 12 by omega) (Nat.pow_le_pow_right (by decide) (by omega)))] at y
            exact absurd y (by decide)
        refine hn ⟨k, by omega, by omega, ?_⟩
        rw [show ((k : Int)).toNat = k by omega, if_neg z, if_pos y]
        decide
      · rw [Bool.eq_false_iff.mpr z, Bool.eq_false_iff.mpr y]
/-- the least of the fewest, as it is found from none -/
def x_aw (P : Int → Prop) (i e : Int) : Prop := (e = -1 ∧ ∀ j : Int, 0 ≤ j → j < i → ¬ P j) ∨ (0 ≤ e ∧ e < i ∧ P e ∧ ∀ j : Int, 0 ≤ j → j < i → P j → g_bc e < g_bc j ∨ (g_bc e = g_bc j ∧ e ≤ j))
theorem x_aw.no {P : Int → Prop} {i e : Int} (h : x_aw P i e) (hc : (¬ e = -1 ∧ ¬ g_bc i < g_bc e) ∨ ¬ P i) : x_aw P (i + 1) e := by
  rcases h with ⟨a, d⟩ | ⟨a, c, d, f⟩
  · refine Or.inl ⟨a, fun j j0 j1 => ?_⟩
    by_cases z : j = i
    · rw [z]; rcases hc with y | y
      · exact absurd a y.1
      · exact y
    · exact d j j0 (by omega)
  · refine Or.inr ⟨a, by omega, d, fun j j0 j1 hj => ?_⟩
    by_cases z : j = i
    · rw [z] at hj ⊢; rcases hc with y | y
      · omega
      · exact absurd hj y
    · exact f j j0 (by omega) hj
theorem x_aw.yes {P : Int → Prop} {i e : Int} (h : x_aw P i e) (h0 : 0 ≤ i) (hc : e = -1 ∨ g_bc i < g_bc e) (hp : P i) : x_aw P (i + 1) i := by
  refine Or.inr ⟨h0, by omega, hp, fun j j0 j1 hj => ?_⟩
  by_cases z : j = i
  · rw [z]; exact Or.inr ⟨rfl, Int.le_refl _⟩
  · rcases h with ⟨a, d⟩ | ⟨a, c, d, f⟩
    · exact absurd hj (d j j0 (by omega))
    · have := f j j0 (by omega) hj
      rcases hc with y | y <;> omega
/-- who goes AWAY: the class's way of looking -/
abbrev x_ap (I : g_I) (b : Nat) (p : Int) (j : Int) : Prop := g_dms I b - p ≤ g_asb I b j
theorem x_awn {I : g_I} {b : Nat} {p : Int} (hn : 0 ≤ I b 0 ∧ I b 0 ≤ 12) (hall : x_ap I b p (g_shl 1 (I b 0) - 1)) : ∀ n : Nat, (n : Int) ≤ g_shl 1 (I b 0) → x_ap I b p (g_awn I b p n) ∧ (0 ≤ g_awn I b p n ∧ g_awn I b p n < g_shl 1 (I b 0)) ∧ (g_awn I b p n < n ∨ g_awn I b p n = g_shl 1 (I b 0) - 1) ∧ ∀ j : Int, 0 ≤ j → j < n → x_ap I b p j → g_bc (g_awn I b p n) < g_bc j ∨ (g_bc (g_awn I b p n) = g_bc j ∧ g_awn I b p n ≤ j)
  | 0, _ => by
    have := g_shl_p hn
    refine ⟨hall, ?_, Or.inr rfl, fun j a c => by omega⟩
    rw [g_awn]; omega
  | n + 1, h => by
    obtain ⟨i1, i2, i3, i4⟩ := x_awn hn hall n (by omega)
    have hsp := g_shl_p hn
    have hsn := g_shl_n (k := (I b 0).toNat) (by omega)
    rw [show (((I b 0).toNat : Nat) : Int) = I b 0 by omega] at hsn
    rw [g_awn]
    by_cases z : g_bc n < g_bc (g_awn I b p n) ∧ g_dms I b - p ≤ g_asb I b n
    · rw [if_pos z]
      refine ⟨z.2, by omega, Or.inl (by omega), fun j j0 j1 hj => ?_⟩
      by_cases y : j = n
      · rw [y]; exact Or.inr ⟨rfl, Int.le_refl _⟩
      · have := i4 j j0 (by omega) hj; omega
    · rw [if_neg z]
      refine ⟨i1, i2, by omega, fun j j0 j1 hj => ?_⟩
      by_cases y : j = n
      · rw [y] at hj ⊢
        have hb : ¬ g_bc n < g_bc (g_awn I b p n) := fun w => z ⟨w, hj⟩
        by_cases w : g_awn I b p n ≤ n
        · omega
        · have e : g_awn I b p n = ((2 ^ (I b 0).toNat - 1 : Nat) : Int) := by
            have : 0 < 2 ^ (I b 0).toNat := Nat.pow_pos (by decide)
            omega
          exfalso
          apply hb
          rw [e]
          have hk : 2 ^ (I b 0).toNat ≤ 2 ^ 12 := Nat.pow_le_pow_right (by decide) (by omega)
          apply x_bc_lt (by omega) (by omega)
          · intro k hk2
            rw [Nat.testBit_two_pow_sub_one]
            apply decide_eq_true
            by_cases v : k < (I b 0).toNat
            · exact v
            · rw [Nat.testBit_lt_two_pow (show n < 2 ^ k from Nat.lt_of_lt_of_le (show n < 2 ^ (I b 0).toNat by omega) (Nat.pow_le_pow_right (by decide) (by omega)))] at hk2
              exact absurd hk2 (by decide)
          · omega
      · exact i4 j j0 (by omega) hj
theorem x_awf {I : g_I} {b : Nat} {p e : Int} (hL : g_lok I b) (hp : 0 ≤ p) (h : x_aw (fun j => g_and j (g_xor (g_thb I b) (-1)) = 0 ∧ x_ap I b p j) (g_shl 1 (I b 0)) e) : e = g_awy I b p := by
  have hn := hL.1
  obtain ⟨⟨c, hc, hc2⟩, hcb⟩ := x_thb (I := I) hn
  have hsp := g_shl_p hn
  have hsn := g_shl_n (k := (I b 0).toNat) (by omega)
  rw [show (((I b 0).toNat : Nat) : Int) = I b 0 by omega] at hsn
  have hk12 : 2 ^ (I b 0).toNat ≤ 2 ^ 12 := Nat.pow_le_pow_right (by decide) (by omega)
  -- those not THERE ask for nothing
  have hde : ∀ t : Int, 0 ≤ t → t < I b 0 → ¬ g_bit (g_thb I b) t → g_dem I b t = 0 := by
    intro t t0 t1 hb
    unfold g_dem
    rw [if_neg (fun z => hb ((hcb t t0 t1).mpr z.1))]
  have hcut : ∀ a : Nat, a < 4096 → g_asb I b ((a &&& c : Nat) : Int) = g_asb I b a := by
    intro a ha
    unfold g_asb
    apply x_sum_eq
    intro t t0 t1
    have hl : a &&& c < 4096 := Nat.lt_of_le_of_lt Nat.and_le_left ha
    have e1 := g_bit_n (a := a &&& c) (k := t.toNat) (by omega) (by omega)
    have e2 := g_bit_n (a := a) (k := t.toNat) (by omega) (by omega)
    have e3 := g_bit_n (a := c) (k := t.toNat) (by omega) (by omega)
    rw [show ((t.toNat : Nat) : Int) = t by omega] at e1 e2 e3
    rw [Nat.testBit_and, Bool.and_eq_true] at e1
    by_cases z : g_bit (a : Int) t
    · rw [if_pos z]
      by_cases y : g_bit (c : Int) t
      · rw [if_pos (e1.mpr ⟨e2.mp z, e3.mp y⟩)]
      · rw [if_neg (fun w => y (e3.mpr (e1.mp w).2)), hde t t0 (by omega) (by rw [hc]; exact y)]
    · rw [if_neg z, if_neg (fun w => z (e2.mpr (e1.mp w).1))]
  have hfull : ∀ a : Nat, a < 4096 → (∀ k : Nat, k < (I b 0).toNat → a.testBit k = true) → g_asb I b a = g_dms I b := by
    intro a ha hk
    unfold g_asb g_dms
    apply x_sum_eq
    intro t t0 t1
    have e2 := g_bit_n (a := a) (k := t.toNat) (by omega) (by omega)
    rw [show ((t.toNat : Nat) : Int) = t by omega] at e2
    rw [if_pos (e2.mpr (hk _ (by omega)))]
  have hpos : 0 < 2 ^ (I b 0).toNat := Nat.pow_pos (by decide)
  have hall : x_ap I b p (g_shl 1 (I b 0) - 1) := by
    have := hfull (2 ^ (I b 0).toNat - 1) (by omega) (fun k hk => by rw [Nat.testBit_two_pow_sub_one]; exact decide_eq_true hk)
    unfold x_ap
    rw [show g_shl 1 (I b 0) - 1 = ((2 ^ (I b 0).toNat - 1 : Nat) : Int) by omega, this]
    omega
  obtain ⟨k1, k2, -, k4⟩ := x_awn hn hall (g_shl 1 (I b 0)).toNat (by omega)
  rw [show g_awn I b p (g_shl 1 (I b 0)).toNat = g_awy I b p from rfl] at k1 k2 k4
  obtain ⟨a, ha⟩ := Int.eq_ofNat_of_zero_le k2.1
  have ha2 : a < 4096 := by omega
  have hl : a &&& c ≤ a := Nat.and_le_left
  have hsub : ∀ k : Nat, (a &&& c).testBit k = true → a.testBit k = true := fun k hk => by rw [Nat.testBit_and, Bool.and_eq_true] at hk; exact hk.1
  have hS : a &&& c = a := by
    apply Classical.byContradiction
    intro hne
    have hlt := x_bc_lt (a := a &&& c) (c := a) (by omega) ha2 hsub hne
    have := k4 ((a &&& c : Nat) : Int) (by omega) (by omega) (by unfold x_ap; rw [hcut a ha2, ← ha]; exact k1)
    rw [ha] at this
    omega
  have hS2 : g_and (g_awy I b p) (g_xor (g_thb I b) (-1)) = 0 := by
    rw [ha, hc, x_sub ha2 hc2]
    intro k hk
    have : (a &&& c).testBit k = true := by rw [hS]; exact hk
    rw [Nat.testBit_and, Bool.and_eq_true] at this
    exact this.2
  rcases h with ⟨-, d⟩ | ⟨q1, q2, q3, q4⟩
  · exact absurd ⟨hS2, k1⟩ (d _ k2.1 k2.2)
  · have w1 := q4 _ k2.1 k2.2 ⟨hS2, k1⟩
    have w2 := k4 e q1 (by omega) q3.2
    omega
/-- the sum of those left -/
theorem x_left {f : Int → Int} {m : Int} : ∀ n : Nat, g_sum (fun t => if g_bit m t then 0 else f t) n = g_sum f n - g_sum (fun s => if g_bit m s then f s else 0) n
  | 0 => rfl
  | n + 1 => by
    rw [g_sum, g_sum, g_sum, x_left n]
    by_cases h : g_bit m n
    · rw [if_pos h, if_pos h]; omega
    · rw [if_neg h, if_neg h]; omega
