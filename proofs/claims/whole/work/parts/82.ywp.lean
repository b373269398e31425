/-! ===== bounds of what TASTES are worth; letters ===== -/
theorem e_rk_in {S Lf : Int → Int} (hL : ∀ k : Int, 0 ≤ k → k < 8 → -1000000 ≤ Lf k ∧ Lf k ≤ 1000000) : ∀ (n : Nat) (i : Int) (st : List Int) (sk : Bool), 0 ≤ i → (∀ j : Int, i ≤ j → j < i + n → S j < 10008) → (∀ x ∈ st, -(1000000 + i) ≤ x ∧ x ≤ 1000000 + i) → -(1000000 + i + n) ≤ g_rk S Lf n i st sk ∧ g_rk S Lf n i st sk ≤ 1000000 + i + n
  | 0, i, st, sk, h0, _, _ => by rw [g_rk]; omega
  | n + 1, i, st, sk, h0, hS, hst => by
    have hSi := hS i (Int.le_refl _) (by omega)
    have key : match g_rk1 S Lf i st sk with | .inl r => -(1000000 + (i + 1)) ≤ r ∧ r ≤ 1000000 + (i + 1) | .inr q => ∀ x ∈ q.1, -(1000000 + (i + 1)) ≤ x ∧ x ≤ 1000000 + (i + 1) := by
      unfold g_rk1
      by_cases hsk : sk = true
      · rw [if_pos hsk]
        intro x hx
        have := hst x hx
        omega
      · rw [if_neg hsk]
        by_cases hs : 0 ≤ S i
        · rw [if_pos hs]
          show ∀ x ∈ (if st.length < 64 then (if S i < 10000 then S i else Lf (S i - 10000)) :: st else st), _
          intro x hx
          by_cases hl : st.length < 64
          · rw [if_pos hl] at hx
            rcases List.mem_cons.mp hx with rfl | hx
            · by_cases h1 : S i < 10000
              · rw [if_pos h1]; omega
              · rw [if_neg h1]
                have := hL (S i - 10000) (by omega) (by omega)
                omega
            · have := hst x hx; omega
          · rw [if_neg hl] at hx
            have := hst x hx; omega
        · rw [if_neg hs]
          match st, hst with
          | [], _ => exact ⟨by omega, by omega⟩
          | a :: st1, hst =>
            have ha := hst a List.mem_cons_self
            dsimp only
            by_cases h1 : S i = -59
            · rw [if_pos h1]; exact ⟨by omega, by omega⟩
            · rw [if_neg h1]
              by_cases h2 : S i = -63
              · rw [if_pos h2]
                intro x hx
                have := hst x (List.mem_cons_of_mem _ hx); omega
              · rw [if_neg h2]
                by_cases h3 : S i = -33
                · rw [if_pos h3]
                  intro x hx
                  rcases List.mem_cons.mp hx with rfl | hx
                  · omega
                  · have := hst x (List.mem_cons_of_mem _ hx); omega
                · rw [if_neg h3]
                  match st1, hst with
                  | [], _ =>
                    intro x hx
                    rcases List.mem_cons.mp hx with rfl | hx
                    · omega
                    · exact absurd hx List.not_mem_nil
                  | c :: st2, hst =>
                    intro x hx
                    rcases List.mem_cons.mp hx with rfl | hx
                    · have := @g_jn_in (-(S i)) c a; omega
                    · have := hst x (List.mem_cons_of_mem _ (List.mem_cons_of_mem _ hx)); omega
    rw [g_rk]
    cases hk : g_rk1 S Lf i st sk with
    | inl r =>
      rw [hk] at key
      dsimp only at key ⊢
      omega
    | inr q =>
      rw [hk] at key
      dsimp only at key ⊢
      have := e_rk_in hL n (i + 1) q.1 q.2 (by omega) (fun j h1 h2 => hS j (by omega) (by omega)) key
      omega
theorem g_tw_in {I : g_I} {t : Nat} {Lf : Int → Int} (h : g_tok I t) (hL : ∀ k : Int, 0 ≤ k → k < 8 → -1000000 ≤ Lf k ∧ Lf k ≤ 1000000) : -1000300 ≤ g_tw I t Lf ∧ g_tw I t Lf ≤ 1000300 := by
  have h2 := e_rk_in (S := I (t + 1)) hL (I t 2).toNat 0 [] false (Int.le_refl _) (fun j h1 h2 => by have := h.2 j h1 (by have := h.1; omega); omega) (fun x hx => absurd hx List.not_mem_nil)
  have h1 := h.1
  unfold g_tw
  omega
section GTW
variable {I : g_I} {b : Nat}
theorem g_lt6_in (h : g_lok I b) {s : Int} (h1 : 0 ≤ s ∧ s < I b 0) : ∀ k : Int, 0 ≤ k → k < 8 → -1000000 ≤ g_lt6 (I (b + 2 + s.toNat)) k ∧ g_lt6 (I (b + 2 + s.toNat)) k ≤ 1000000 := by
  intro k h0 h8
  obtain ⟨-, -, a0, a1, a2, a3, a4, a5, -⟩ := h.2.2.1 s h1.1 h1.2
  unfold g_lt6
  split
  · omega
  · split
    · omega
    · rcases (show k = 0 ∨ k = 1 ∨ k = 2 ∨ k = 3 ∨ k = 4 ∨ k = 5 by omega) with rfl | rfl | rfl | rfl | rfl | rfl <;> omega
theorem g_wby_in (h : g_cin I b) {τ s : Int} (h1 : 0 ≤ s ∧ s < I b 0) (h2 : 0 ≤ τ ∧ τ < I 0 11) : -1000300 ≤ g_wby I b τ s ∧ g_wby I b τ s ≤ 1000300 := g_tw_in (h.2.2.1 τ h2.1 h2.2) (g_lt6_in h.1 h1)
theorem g_lkd_in (h : g_cin I b) {s : Int} (h1 : 0 ≤ s ∧ s < I b 0) : -1000300 ≤ g_lkd I b s ∧ g_lkd I b s ≤ 1000300 := by
  obtain ⟨-, -, a0, a1, a2, -⟩ := h.1.2.2.1 s h1.1 h1.2
  unfold g_lkd
  split
  · omega
  · exact g_wby_in h h1 (by have := h.2.2.2.2.2.1; omega)
end GTW
/-- letters lie ready -/
def x_let (Lf : Int → Int) (M : g_I) : Prop := ∀ c, 0 ≤ t_lt c → M 707 c = Lf (t_lt c)
theorem x_let0 : ∀ c : Fin 128, 0 ≤ t_lt c.val → (c.val = 103 ∧ t_lt c.val = 0) ∨ (c.val = 106 ∧ t_lt c.val = 1) ∨ (c.val = 111 ∧ t_lt c.val = 2) ∨ (c.val = 121 ∧ t_lt c.val = 3) ∨ (c.val = 100 ∧ t_lt c.val = 4) ∨ (c.val = 116 ∧ t_lt c.val = 5) ∨ (c.val = 98 ∧ t_lt c.val = 6) ∨ (c.val = 119 ∧ t_lt c.val = 7) := by decide +kernel
theorem x_let_of {Lf : Int → Int} {M : g_I} (h0 : M 707 103 = Lf 0) (h1 : M 707 106 = Lf 1) (h2 : M 707 111 = Lf 2) (h3 : M 707 121 = Lf 3) (h4 : M 707 100 = Lf 4) (h5 : M 707 116 = Lf 5) (h6 : M 707 98 = Lf 6) (h7 : M 707 119 = Lf 7) : x_let Lf M := by
  intro c hc
  obtain ⟨hb, -⟩ := y_lt_in hc
  have h := x_let0 ⟨c.toNat, by omega⟩
  dsimp only at h
  rw [show ((c.toNat : Nat) : Int) = c by omega] at h
  rcases h hc with ⟨e, z⟩ | ⟨e, z⟩ | ⟨e, z⟩ | ⟨e, z⟩ | ⟨e, z⟩ | ⟨e, z⟩ | ⟨e, z⟩ | ⟨e, z⟩ <;> rw [z, show c = _ from by first | (show c = 103; omega) | (show c = 106; omega) | (show c = 111; omega) | (show c = 121; omega) | (show c = 100; omega) | (show c = 116; omega) | (show c = 98; omega) | (show c = 119; omega)] <;> assumption
theorem q_tw {I M : g_I} {lb : Nat} (h : q_rel I lb M) {t : Int} (h1 : 0 ≤ t ∧ t < I 0 11) {Lf : Int → Int} : e_run Lf (t_read (q_by M 705 (240 * t)) (M 706 t)).2.2 [] false = g_tw I (517 + 3 * t.toNat) Lf := by
  obtain ⟨a1, a2, a3, a4, a5⟩ := h.ta h1
  have e := e_rk (S := I (518 + 3 * t.toNat)) (Lf := Lf) (t_read (q_by M 705 (240 * t)) (M 706 t)).2.2 0 [] false (fun j hj => by
    rw [Int.zero_add, a5 j (by omega) (by omega), Int.toNat_natCast])
  rw [← e]
  unfold g_tw
  rw [a4, Int.toNat_natCast, show 517 + 3 * t.toNat + 1 = 518 + 3 * t.toNat by omega]
