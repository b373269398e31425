/-- cells that questions may leave changed: letters, what waits, values, the table's rows -/
abbrev g_sT (k : Nat) : Prop := k = 554 ∨ (519 ≤ k ∧ k ≤ 537 ∧ k % 3 = 0)
abbrev g_sc (k : Nat) : Prop := k = 554 ∨ (519 ≤ k ∧ k ≤ 537 ∧ k % 3 = 0) ∨ (684 ≤ k ∧ k ≤ 689) ∨ (691 ≤ k ∧ k ≤ 696)
abbrev g_off (I I2 : g_I) : Prop := ∀ k : Nat, ¬ g_sc k → I2 k = I k
theorem g_off_rf {I : g_I} : g_off I I := fun _ _ => rfl
theorem g_nl {b k : Nat} (hb : g_life b) (h1 : b ≤ k) (h2 : k < b + 128) : ¬ g_sc k := by
  unfold g_life at hb
  unfold g_sc
  omega
theorem g_cpy32 {I : g_I} (hI : ∀ k j, g32 (I k j)) {s t : Nat} {sp dp n : Int} : ∀ k j, g32 (g_cpy I s sp t dp n k j) := by
  intro k j
  unfold g_cpy
  split <;> exact hI _ _
theorem g_lok_cg {I I2 : g_I} {b : Nat} (hs : g_off I I2) (hb : g_life b) (h : g_lok I b) : g_lok I2 b := by
  have e : ∀ o : Nat, o < 128 → I2 (b + o) = I (b + o) := fun o ho => hs _ (g_nl hb (by omega) (by omega))
  have e0 : I2 b = I b := e 0 (by omega)
  obtain ⟨h1, h2, h3, h4⟩ := h
  unfold g_lok
  rw [e0, e 14 (by omega), e 41 (by omega), e 42 (by omega), e 43 (by omega), e 127 (by omega)]
  refine ⟨h1, h2, fun s hs0 hs1 => ?_, fun f hf0 hf1 => ?_⟩
  · have e2 : I2 (b + 2 + s.toNat) = I (b + 2 + s.toNat) := by rw [Nat.add_assoc]; exact e _ (by omega)
    have e16 : I2 (b + 16 + s.toNat) = I (b + 16 + s.toNat) := by rw [Nat.add_assoc]; exact e _ (by omega)
    have e29 : I2 (b + 29 + s.toNat) = I (b + 29 + s.toNat) := by rw [Nat.add_assoc]; exact e _ (by omega)
    rw [e2, e16, e29]
    exact h3 s hs0 hs1
  · obtain ⟨g1, g2, g3, g4⟩ := h4 f hf0 hf1
    refine ⟨g1, g2, g3, fun r hr0 hr1 => ?_⟩
    have e47 : I2 (b + 47 + (f * 4 + r).toNat) = I (b + 47 + (f * 4 + r).toNat) := by rw [Nat.add_assoc]; exact e _ (by omega)
    rw [e47]
    exact g4 r hr0 hr1
theorem g_thr_cg {I I2 : g_I} {b : Nat} {s : Int} (hs : g_off I I2) (hb : g_life b) (h : 0 ≤ s ∧ s < 12) : g_thr I2 b s = g_thr I b s := by
  unfold g_thr
  rw [hs 550 (by omega), hs (b + 14) (g_nl hb (by omega) (by omega)), hs (b + 16 + s.toNat) (g_nl hb (by omega) (by omega)), hs (b + 29 + s.toNat) (g_nl hb (by omega) (by omega))]
theorem g_ors_cg {f g : Int → Int} : ∀ n : Nat, (∀ i : Int, 0 ≤ i → i < n → f i = g i) → g_ors f n = g_ors g n
  | 0, _ => rfl
  | n + 1, h => by rw [g_ors, g_ors, g_ors_cg n (fun i h0 h1 => h i h0 (by omega)), h n (by omega) (by omega)]
theorem g_thb_cg {I I2 : g_I} {b : Nat} (hs : g_off I I2) (hb : g_life b) (hL : g_lok I b) : g_thb I2 b = g_thb I b := by
  have hn := hL.1
  unfold g_thb
  rw [hs b (g_nl hb (by omega) (by omega))]
  exact g_ors_cg _ (fun i h0 h1 => by rw [g_thr_cg hs hb (by omega)])
theorem g_wt_cg {I I2 : g_I} {b : Nat} {f m : Int} (hs : g_off I I2) (hb : g_life b) (h : 0 ≤ f ∧ f < 20) : ∀ n : Nat, n ≤ 4 → g_wt I2 b f m n = g_wt I b f m n := by
  intro n
  induction n with
  | zero => intro _; rfl
  | succ n ih =>
    intro hn
    have ih := ih (by omega)
    unfold g_wt at ih ⊢
    rw [g_sum, g_sum, ih, hs (b + 47 + (f * 4 + (n : Int)).toNat) (g_nl hb (by omega) (by omega))]
theorem g_tok_cg {I I2 : g_I} {t : Nat} (hs : g_off I I2) (ht : g_taste t) (h : g_tok I t) : g_tok I2 t := by
  unfold g_taste at ht
  unfold g_tok
  rw [hs t (by omega), hs (t + 1) (by omega)]
  exact h
theorem g_rk_cg {S Lt Lt2 : Int → Int} {n : Int} (hS : ∀ i : Int, 0 ≤ i → i < n → S i < 10008) (hL : ∀ k : Int, 0 ≤ k → k < 8 → Lt2 k = Lt k) : ∀ (m : Nat) (i : Int) (st : List Int) (sk : Bool), 0 ≤ i → i + m = n → g_rk S Lt2 m i st sk = g_rk S Lt m i st sk
  | 0, _, _, _, _, _ => rfl
  | m + 1, i, st, sk, h0, h1 => by
    have e : g_rk1 S Lt2 i st sk = g_rk1 S Lt i st sk := by
      unfold g_rk1
      by_cases hs : sk = true
      · rw [if_pos hs, if_pos hs]
      · rw [if_neg hs, if_neg hs]
        by_cases h2 : 0 ≤ S i
        · rw [if_pos h2, if_pos h2]
          by_cases h3 : S i < 10000
          · rw [if_pos h3, if_pos h3]
          · rw [if_neg h3, if_neg h3, hL (S i - 10000) (by omega) (by have := hS i h0 (by omega); omega)]
        · rw [if_neg h2, if_neg h2]
    unfold g_rk
    rw [e]
    cases g_rk1 S Lt i st sk with
    | inl r => rfl
    | inr q => exact g_rk_cg hS hL m (i + 1) q.1 q.2 (by omega) (by omega)
/-- how a taste's worth comes behind a call: relative to a base -/
def g_rel (w : g_W) (rv : Option Value) (Sc : Nat → Prop) (I2 : g_I) (J : g_J) (R : g_R) : g_P := fun r n' I' J' R' => r = rv ∧ n' = g_n ∧ (∀ k : Nat, ¬ Sc k → I' k = I2 k) ∧ (∀ k j, g32 (I' k j)) ∧ J = J' ∧ R = R'
/-- a taste by its letters -/
def g_tw (I : g_I) (t : Nat) (Lf : Int → Int) : Int := g_rk (I (t + 1)) Lf (I t 2).toNat 0 [] false
theorem g_rconv {I I2 : g_I} {J : g_J} {R : g_R} {t : Nat} {Lf : Int → Int} {r : Option Value} {n' : Nat} {I' : g_I} {J' : g_J} {R' : g_R} (hs : g_off I I2) (ht : g_taste t) (hT : g_tok I t) (hL : ∀ k : Int, 0 ≤ k → k < 8 → I2 554 k = Lf k)
    (hp : g_pgen (some (gvI (g_rk (I2 (t + 1)) (I2 554) (I2 t 2).toNat 0 [] false))) (fun k _ => k = t + 2) I2 J R r n' I' J' R' ∧ -1000300 ≤ g_rk (I2 (t + 1)) (I2 554) (I2 t 2).toNat 0 [] false ∧ g_rk (I2 (t + 1)) (I2 554) (I2 t 2).toNat 0 [] false ≤ 1000300) :
    (r = some (gvI (g_tw I t Lf)) ∧ n' = g_n ∧ (∀ k : Nat, ¬ g_sT k → I' k = I2 k) ∧ (∀ k j, g32 (I' k j)) ∧ J = J' ∧ R = R') ∧ -1000300 ≤ g_tw I t Lf ∧ g_tw I t Lf ≤ 1000300 := by
  have ht2 := ht
  unfold g_taste at ht2
  have e1 : I2 (t + 1) = I (t + 1) := hs _ (by omega)
  have e2 : I2 t = I t := hs _ (by omega)
  have e : g_rk (I2 (t + 1)) (I2 554) (I2 t 2).toNat 0 [] false = g_tw I t Lf := by
    rw [e1, e2]
    refine g_rk_cg (n := I t 2) (fun i h0 h1 => ?_) hL _ _ _ _ (by omega) (by have := hT.1; omega)
    have := hT.2 i h0 h1
    omega
  rw [e] at hp
  obtain ⟨⟨h1, h2, h3, h4, rfl, rfl⟩, h7⟩ := hp
  exact ⟨⟨h1, h2, fun k hk => funext fun j => h3 k j (fun q => hk (by omega)), h4, rfl, rfl⟩, h7⟩
/-- the tables' state, tastes: what stands whatever is asked -/
def g_cin (I : g_I) (b : Nat) : Prop :=
  g_lok I b ∧ (0 ≤ I 0 11 ∧ I 0 11 ≤ 6) ∧ (∀ τ : Int, 0 ≤ τ → τ < I 0 11 → g_tok I (517 + 3 * τ.toNat)) ∧ (0 ≤ I 550 0 ∧ I 550 0 ≤ 3) ∧ (-1 ≤ I 550 1 ∧ I 550 1 < I 0 11) ∧ (-1 ≤ I 550 2 ∧ I 550 2 < I 0 11) ∧ (0 ≤ I 550 3 ∧ I 550 3 ≤ 3) ∧
  (∀ f : Int, 0 ≤ f → f < I b 1 → 1 ≤ I 550 (4 + f) ∧ I 550 (4 + f) ≤ 15)
/-- letters of a SELF -/
def g_lt6 (row : Int → Int) : Int → Int := fun k => if k = 7 then 0 else if k = 6 then 0 else row k
/-- WORTH of a SELF by a TASTE -/
def g_wby (I : g_I) (b : Nat) (τ s : Int) : Int := g_tw I (517 + 3 * τ.toNat) (g_lt6 (I (b + 2 + s.toNat)))
/-- WORTH of a SELF by the LIKING -/
def g_lkd (I : g_I) (b : Nat) (s : Int) : Int := if I 550 2 = -1 then I (b + 2 + s.toNat) 1 + I (b + 2 + s.toNat) 0 - I (b + 2 + s.toNat) 2 else g_wby I b (I 550 2) s
