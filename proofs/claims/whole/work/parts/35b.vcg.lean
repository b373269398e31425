abbrev g_sV (k : Nat) : Prop := k = 554 ∨ (519 ≤ k ∧ k ≤ 537 ∧ k % 3 = 0) ∨ k = 684 ∨ k = 685
theorem g_stp_cg {I I2 : g_I} {b : Nat} {s f : Int} (hs : g_off I I2) (hb : g_life b) (h : 0 ≤ s ∧ s < 12) : g_stp I2 b s f = g_stp I b s f := by
  unfold g_stp
  rw [hs (b + 14) (g_nl hb (by omega) (by omega)), hs (b + 16 + s.toNat) (g_nl hb (by omega) (by omega))]
theorem g_prt_cg {I I2 : g_I} {b : Nat} {s t : Int} (hs : g_off I I2) (hb : g_life b) (h : 0 ≤ s ∧ s < 12) (h2 : 0 ≤ t ∧ t < 12) : g_prt I2 b s t = g_prt I b s t := by
  have e : ∀ n : Nat, g_prn I2 b s t n = g_prn I b s t n := by
    intro n
    induction n with
    | zero => rfl
    | succ n ih => unfold g_prn; rw [ih, hs (b + 16 + s.toNat) (g_nl hb (by omega) (by omega)), hs (b + 16 + t.toNat) (g_nl hb (by omega) (by omega))]
  unfold g_prt
  rw [e, hs (b + 14) (g_nl hb (by omega) (by omega))]
theorem g_postE {E v : Int} {n : Nat} {I : g_I} {J : g_J} {R : g_R} (hE : E = v) : g_post (some (gvI E)) n I J R (some (gvI v)) n I J R := by
  subst hE
  exact ⟨rfl, rfl, rfl, rfl, rfl⟩
theorem g_prn_in {I : g_I} {b : Nat} {s t : Int} {m : Int} (hm : 0 < m) : ∀ n : Nat, (∀ i : Int, 0 ≤ i → i < n → 0 ≤ I (b + 16 + s.toNat) i ∧ I (b + 16 + s.toNat) i < m) → 0 ≤ g_prn I b s t n ∧ g_prn I b s t n < m
  | 0, _ => by simp [g_prn]; omega
  | n + 1, h => by
    have ih := g_prn_in (t := t) hm n (fun i h0 h1 => h i h0 (by omega))
    have h2 := h n (by omega) (by omega)
    unfold g_prn
    split <;> omega
theorem g_first_in {p : Int → Bool} : ∀ (n : Nat) (i : Int), 0 ≤ i → g_first p n i = -1 ∨ (i ≤ g_first p n i ∧ g_first p n i < i + n ∧ p (g_first p n i) = true)
  | 0, i, _ => Or.inl rfl
  | n + 1, i, h => by
    unfold g_first
    split
    · rename_i hp; exact Or.inr ⟨by omega, by omega, hp⟩
    · rcases g_first_in (p := p) n (i + 1) (by omega) with h2 | h2
      · exact Or.inl h2
      · exact Or.inr ⟨by omega, by omega, h2.2.2⟩
