theorem x_and_assoc {a b c : Int} : g_and (g_and a b) c = g_and a (g_and b c) := by
  unfold g_and
  rw [Int32.ofInt_toInt, Int32.ofInt_toInt, Int32.and_assoc]
theorem x_o12 : ∀ s : Fin 12, g_and 4095 (g_xor (g_shl 1 s.val) (-1)) = ((4095 ^^^ 2 ^ s.val : Nat) : Int) := by decide +kernel
theorem x_and_nat {n : Nat} (h : n < 4096) : g_and n 4095 = n := by
  have := g_and_n (a := n) (b := 4095) (by omega) (by decide)
  rw [show ((4095 : Nat) : Int) = 4095 from rfl] at this
  rw [this, show (4095 : Nat) = 2 ^ 12 - 1 from rfl, Nat.and_two_pow_sub_one_eq_mod, Nat.mod_eq_of_lt (by omega)]
theorem x_obit {n s t : Nat} (hn : n < 4096) (hs : s < 12) (ht : t < 12) : g_bit (g_and n (g_xor (g_shl 1 s) (-1))) t ↔ g_bit n t ∧ ¬ t = s := by
  have e : g_and n (g_xor (g_shl 1 s) (-1)) = ((n &&& (4095 ^^^ 2 ^ s) : Nat) : Int) := by
    have h1 : g_and 4095 (g_xor (g_shl 1 (s : Int)) (-1)) = ((4095 ^^^ 2 ^ s : Nat) : Int) := x_o12 ⟨s, hs⟩
    have h2 : 2 ^ s < 2 ^ 12 := Nat.pow_lt_pow_right (by decide) hs
    have h3 : 4095 ^^^ 2 ^ s < 2 ^ 31 := Nat.xor_lt_two_pow (by decide) (by omega)
    rw [← x_and_nat hn, x_and_assoc, h1, g_and_n (by omega) (by omega)]
  have hl : n &&& (4095 ^^^ 2 ^ s) < 2147483648 := Nat.lt_of_le_of_lt Nat.and_le_left (by omega)
  rw [e, g_bit_n hl (by omega), g_bit_n (by omega) (by omega), Nat.testBit_and, Nat.testBit_xor, show (4095 : Nat) = 2 ^ 12 - 1 from rfl, Nat.testBit_two_pow_sub_one, Nat.testBit_two_pow, decide_eq_true ht, Bool.true_xor, Bool.and_eq_true, Bool.not_eq_true', decide_eq_false_iff_not]
  constructor
  · rintro ⟨a, c⟩; exact ⟨a, fun z => c z.symm⟩
  · rintro ⟨a, c⟩; exact ⟨a, fun z => c z.symm⟩
theorem x_thb {I : g_I} {b : Nat} (hn : 0 ≤ I b 0 ∧ I b 0 ≤ 12) : (∃ n : Nat, g_thb I b = n ∧ n < 4096) ∧ ∀ t : Int, 0 ≤ t → t < I b 0 → (g_bit (g_thb I b) t ↔ g_thr I b t = true) := by
  have hp : ∀ k : Nat, k < (I b 0).toNat → (fun s : Int => if g_thr I b s = true then g_shl 1 s else 0) k = if (fun k : Nat => g_thr I b k) k = true then g_shl 1 k else 0 := fun k _ => rfl
  constructor
  · refine ⟨_, g_ors_n (I b 0).toNat (by omega) hp, ?_⟩
    have := @g_nb_lt (fun k : Nat => g_thr I b k) (I b 0).toNat
    exact Nat.lt_of_lt_of_le this (show 2 ^ (I b 0).toNat ≤ 2 ^ 12 from Nat.pow_le_pow_right (by decide) (by omega))
  · intro t t0 t1
    have := g_ors_bit (f := fun s : Int => if g_thr I b s = true then g_shl 1 s else 0) (p := fun k : Nat => g_thr I b k) (n := (I b 0).toNat) (by omega) hp (k := t.toNat) (by omega)
    rw [show ((t.toNat : Nat) : Int) = t by omega] at this
    exact this
theorem x_oth {I : g_I} {b : Nat} (hn : 0 ≤ I b 0 ∧ I b 0 ≤ 12) {s t : Int} (hs : 0 ≤ s ∧ s < I b 0) (ht : 0 ≤ t ∧ t < I b 0) : g_bit (g_and (g_thb I b) (g_xor (g_shl 1 s) (-1))) t ↔ g_thr I b t = true ∧ ¬ t = s := by
  obtain ⟨⟨n, e, hn2⟩, h2⟩ := x_thb (I := I) hn
  have := x_obit (n := n) (s := s.toNat) (t := t.toNat) hn2 (by omega) (by omega)
  rw [show ((t.toNat : Nat) : Int) = t by omega, show ((s.toNat : Nat) : Int) = s by omega, ← e, h2 t ht.1 ht.2] at this
  rw [this]
  constructor
  · rintro ⟨a, c⟩; exact ⟨a, fun z => c (by omega)⟩
  · rintro ⟨a, c⟩; exact ⟨a, fun z => c (by omega)⟩
/-- the least set as it is found from none -/
theorem x_bcm : ∀ i : Fin 1023, g_bc i.val < g_bc 1023 := by decide +kernel
def x_fw (p : Int → Bool) (i e : Int) : Prop := (e = -1 ∧ g_fws p (min i.toNat 1023) = 1023 ∧ ∀ j : Int, 0 ≤ j → j < i → ¬ p j = true) ∨ (0 ≤ e ∧ e < i ∧ p e = true ∧ e = g_fws p (min i.toNat 1023))
theorem x_bcl {i : Int} (h : 0 ≤ i ∧ i < 1023) : g_bc i < g_bc 1023 := by
  have := x_bcm ⟨i.toNat, by omega⟩
  rwa [show ((i.toNat : Nat) : Int) = i by omega] at this
theorem x_fw.no {p : Int → Bool} {i e : Int} (h : x_fw p i e) (h0 : 0 ≤ i ∧ i < 1024) (hc : ¬ e = -1 ∧ ¬ g_bc i < g_bc e ∨ ¬ p i = true) : x_fw p (i + 1) e := by
  have key : (e = -1 → ¬ p i = true) → (¬ e = -1 → e = g_fws p (min i.toNat 1023)) → g_fws p (min (i + 1).toNat 1023) = g_fws p (min i.toNat 1023) := by
    intro k1 k2
    by_cases z : i = 1023
    · rw [z]; rfl
    · rw [show min (i + 1).toNat 1023 = (i + 1).toNat by omega, show min i.toNat 1023 = i.toNat by omega, g_fws_i h0.1, if_neg]
      rintro ⟨a, c⟩
      rcases hc with ⟨c1, c2⟩ | c1
      · have := k2 c1
        rw [show min i.toNat 1023 = i.toNat by omega] at this
        rw [← this] at a
        exact c2 a
      · exact c1 c
  rcases h with ⟨a, c, d⟩ | ⟨a, c, d, f⟩
  · have hp : ¬ p i = true := by
      rcases hc with ⟨c1, -⟩ | c1
      · exact absurd a c1
      · exact c1
    refine Or.inl ⟨a, by rw [key (fun _ => hp) (fun z => absurd a z)]; exact c, fun j j0 j1 => ?_⟩
    by_cases y : j = i
    · rw [y]; exact hp
    · exact d j j0 (by omega)
  · exact Or.inr ⟨a, by omega, d, by rw [key (fun z => by omega) (fun _ => f)]; exact f⟩
theorem x_fw.yes {p : Int → Bool} {i e : Int} (h : x_fw p i e) (h0 : 0 ≤ i ∧ i < 1024) (hc : e = -1 ∨ g_bc i < g_bc e) (hp : p i = true) : x_fw p (i + 1) i := by
  refine Or.inr ⟨h0.1, by omega, hp, ?_⟩
  by_cases z : i = 1023
  · rcases h with ⟨a, c, d⟩ | ⟨a, c, d, f⟩
    · rw [z] at c ⊢; exact c.symm
    · exfalso
      have := x_bcl (i := e) ⟨a, by omega⟩
      rw [z] at hc
      rcases hc with y | y <;> omega
  · rw [show min (i + 1).toNat 1023 = (i + 1).toNat by omega, g_fws_i h0.1, if_pos]
    refine ⟨?_, hp⟩
    rcases h with ⟨a, c, d⟩ | ⟨a, c, d, f⟩
    · rw [show min i.toNat 1023 = i.toNat by omega] at c
      rw [c]; exact x_bcl ⟨h0.1, by omega⟩
    · rw [show min i.toNat 1023 = i.toNat by omega] at f
      rcases hc with y | y
      · omega
      · rw [← f]; exact y
theorem x_fw.fin {p : Int → Bool} {e : Int} (h : x_fw p 1024 e) (hm : ∀ j : Int, 0 ≤ j → j < 1024 → p j = true → p 1023 = true) : e = if p 1023 = true then g_fws p 1023 else -1 := by
  rcases h with ⟨a, c, d⟩ | ⟨a, c, d, f⟩
  · rw [if_neg (d 1023 (by decide) (by decide))]; exact a
  · rw [if_pos (hm e a c d)]; exact f
/-- sets of FACTS: more FACTS tell no less -/
theorem x_and1023 {x m : Int} (hx : 0 ≤ x ∧ x ≤ 1023) (h : ¬ g_and x m = 0) : ¬ g_and x 1023 = 0 := by
  rw [(x_cmn1 hx).1]
  intro z
  rw [z] at h
  apply h
  unfold g_and
  rw [show Int32.ofInt 0 = 0 from by decide +kernel, Int32.zero_and]
  decide +kernel
theorem x_xor_in {a c : Int} (ha : 0 ≤ a ∧ a ≤ 1023) (hc : 0 ≤ c ∧ c ≤ 1023) : (0 ≤ g_xor a c ∧ g_xor a c ≤ 1023) ∧ (g_xor a c = 0 ↔ a = c) := by
  obtain ⟨n, hn⟩ := Int.eq_ofNat_of_zero_le ha.1
  obtain ⟨m, hm⟩ := Int.eq_ofNat_of_zero_le hc.1
  subst hn hm
  have h1 : n ^^^ m < 2 ^ 10 := Nat.xor_lt_two_pow (by omega) (by omega)
  rw [g_xor_n (by omega) (by omega)]
  refine ⟨by omega, ?_⟩
  constructor
  · intro z
    have := Nat.eq_of_testBit_eq (x := n) (y := m) (fun i => by have h := congrArg (fun z => z.testBit i) (show n ^^^ m = 0 by omega); simpa [Nat.testBit_xor] using h)
    omega
  · intro z
    rw [show n = m by omega, Nat.xor_self]
    rfl
theorem x_rea_m {I : g_I} {b : Nat} (hL : g_lok I b) {o j : Int} (h : g_rea I b o j = true) : g_rea I b o 1023 = true := by
  unfold g_rea at h ⊢
  rw [g_all_iff] at h ⊢
  intro t t0 t1
  have hf := (hL.2.2.1 t t0 (by omega)).2.2.2.2.2.2.2.2
  have := of_decide_eq_true (h t t0 t1)
  exact decide_eq_true (fun z => x_and1023 hf (fun y => this ⟨z.1, y⟩) z.2)
theorem x_tls_m {I : g_I} {b : Nat} (hL : g_lok I b) {s o j : Int} (hs : 0 ≤ s ∧ s < I b 0) (h : g_tls I b s o j = true) : g_tls I b s o 1023 = true := by
  unfold g_tls at h ⊢
  rw [g_all_iff] at h ⊢
  intro t t0 t1
  have hf := (hL.2.2.1 t t0 (by omega)).2.2.2.2.2.2.2.2
  have hg := (hL.2.2.1 s hs.1 hs.2).2.2.2.2.2.2.2.2
  have := of_decide_eq_true (h t t0 t1)
  exact decide_eq_true (fun z => x_and1023 (x_xor_in hf hg).1 (fun y => this ⟨z.1, y⟩) z.2)
/-- no TWIN: all FACTS tell -/
theorem x_twn {I : g_I} {b : Nat} (hL : g_lok I b) {s : Int} (hs : 0 ≤ s ∧ s < I b 0) : g_twn I b s = 0 ↔ g_tls I b s (g_and (g_thb I b) (g_xor (g_shl 1 s) (-1))) 1023 = true := by
  have hn := hL.1
  have hp : ∀ k : Nat, k < (I b 0).toNat → (fun t : Int => if ¬ t = s ∧ g_fct I b t = g_fct I b s ∧ g_thr I b t = true then g_shl 1 t else 0) k = if (fun k : Nat => decide (¬ (k : Int) = s ∧ g_fct I b k = g_fct I b s ∧ g_thr I b k = true)) k = true then g_shl 1 k else 0 := by
    intro k _
    dsimp only
    simp only [decide_eq_true_eq]
  have h0 := g_ors_0 (f := fun t : Int => if ¬ t = s ∧ g_fct I b t = g_fct I b s ∧ g_thr I b t = true then g_shl 1 t else 0) (p := fun k : Nat => decide (¬ (k : Int) = s ∧ g_fct I b k = g_fct I b s ∧ g_thr I b k = true)) (n := (I b 0).toNat) (by omega) hp
  unfold g_twn
  rw [h0]
  unfold g_tls
  rw [g_all_iff]
  have hg := (hL.2.2.1 s hs.1 hs.2).2.2.2.2.2.2.2.2
  constructor
  · intro h t t0 t1
    have hf := (hL.2.2.1 t t0 (by omega)).2.2.2.2.2.2.2.2
    refine decide_eq_true (fun z => ?_)
    have ho := (x_oth hn hs ⟨t0, by omega⟩).mp z.1
    have hx := x_xor_in hf hg
    rw [(x_cmn1 hx.1).1] at z
    have := h t.toNat (by omega)
    rw [decide_eq_true_eq, show ((t.toNat : Nat) : Int) = t by omega] at this
    exact this ⟨ho.2, hx.2.mp z.2, ho.1⟩
  · intro h k hk z
    rw [decide_eq_true_eq] at z
    have hf := (hL.2.2.1 k (by omega) (by omega)).2.2.2.2.2.2.2.2
    have hx := x_xor_in hf hg
    have := of_decide_eq_true (h k (by omega) (by omega))
    exact this ⟨(x_oth hn hs ⟨by omega, by omega⟩).mpr ⟨z.2.2, z.1⟩, by rw [(x_cmn1 hx.1).1]; exact hx.2.mpr z.2.1⟩
