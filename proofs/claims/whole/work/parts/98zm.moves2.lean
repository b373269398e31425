/-! ===== a case of the law that moves: what stands behind both calls ===== -/
theorem k_tell {A : g_I} {p v : Int} (hp : 0 ≤ p ∧ p < 24) (hA : 0 ≤ A 549 5 ∧ A 549 5 ≤ 40) (h5 : ∀ i : Int, 0 ≤ A 552 i ∧ A 552 i < 24) : (∀ k : Nat, k ≠ 549 → k ≠ 550 → k ≠ 552 → k ≠ 553 → g_tell A p v k = A k) ∧ g_tell A p v 549 4 = A 549 4 ∧ ∀ i : Int, 0 ≤ g_tell A p v 552 i ∧ g_tell A p v 552 i < 24 := by
  obtain ⟨a, s, -, -, -, -, -, -, -, -, h8, h9⟩ := x_tell (I := A) (p := p) (v := v) hA
  refine ⟨h8, h9 4 (by decide), fun i => ?_⟩
  have e : g_tell A p v 552 i = p ∨ ∃ i', g_tell A p v 552 i = A 552 i' := by
    unfold g_tell
    rw [g_up_k (by decide), g_up_k (by decide), g_up_k (by decide)]
    by_cases h : i = g_tlf A 549 5
    · rw [h, g_up_s]; exact Or.inl rfl
    · rw [g_up_i h]
      right
      unfold g_tlf
      split
      · rw [g_up_k (by decide), g_cpy_k (by decide)]
        by_cases h2 : 0 ≤ i ∧ i < 0 + 39
        · exact ⟨_, g_cpy_in h2.1 h2.2⟩
        · exact ⟨_, g_cpy_out (by omega)⟩
      · exact ⟨_, rfl⟩
  rcases e with e | ⟨i', e⟩
  · rw [e]; exact hp
  · rw [e]; exact h5 i'
theorem k_cpy32 {I : g_I} {src dst : Nat} {sp dp n : Int} (h : ∀ k j, g32 (I k j)) : ∀ k j, g32 (g_cpy I src sp dst dp n k j) := fun k j => by
  unfold g_cpy
  split
  · exact h _ _
  · exact h _ _
theorem k_tlf32 {A : g_I} (hg : ∀ k j, g32 (A k j)) : ∀ k j, g32 (g_tlf A k j) := by
  unfold g_tlf
  split
  · exact g_up32 (k_cpy32 (k_cpy32 hg)) ⟨by decide, by decide⟩
  · exact hg
theorem k_tell32 {A : g_I} {p v : Int} (hg : ∀ k j, g32 (A k j)) (hp : g32 p) (hv : g32 v) (hA : 0 ≤ A 549 5 ∧ A 549 5 ≤ 40) : ∀ k j, g32 (g_tell A p v k j) := by
  have h1 := k_tlf32 hg
  have h2 : g32 (g_tlf A 549 5 + 1) := by
    unfold g_tlf
    split
    · rw [g_up_s]; exact ⟨by decide, by decide⟩
    · exact ⟨by omega, by omega⟩
  unfold g_tell
  exact g_up32 (g_up32 (g_up32 (g_up32 h1 hp) (h1 _ _)) h2) hv
section KM
variable {w : g_W} {A A2 : g_I} {J J2 : g_J} {R R2 : g_R} {lb tx n2 : Nat} {r : Option Value}
/-- what a case's end is -/
def k_end (w : g_W) (A2 : g_I) (R2 : g_R) : Prop := ∃ lb2 tx2, g_rf w R2 lb2 tx2 ∧ q_inv A2 lb2
/-- what the reference's call asks of the class's new memory -/
def k_hi (A A1 : g_I) : Prop := (∀ k : Nat, 703 ≤ k → A1 k = A k) ∧ ∀ k j, g32 (A1 k j)
theorem k_hi_rf (h : q_inv A lb) : k_hi A A := ⟨fun _ _ => rfl, h.1.gi⟩
theorem k_hi_set (h : q_inv A lb) {k v : Int} (g1 : g32 k) (g2 : g32 v) : k_hi A (if x_sg A k v then g_tell A k v else A) := by
  by_cases hc : x_sg A k v
  · rw [if_pos hc]
    obtain ⟨t1, -, -⟩ := k_tell (v := v) (p := k) (by have := hc.2.1; omega) h.2.1.2.1 h.2.2.2.2.2.2.2.2.2
    exact ⟨fun a ha => t1 a (by omega) (by omega) (by omega) (by omega), k_tell32 h.1.gi g1 g2 h.2.1.2.1⟩
  · rw [if_neg hc]; exact k_hi_rf h
theorem k_set (h : q_inv A lb) {k v : Int} (h2 : x_rel w (some (gvI ((if (x_sg A k v) then g_tlf A 549 5 + 1 else -1)))) x_b5 (if x_sg A k v then g_tell A k v else A) J lb r n2 A2 J2 R2 ∧ (q_rel (if (x_sg A k v) then g_tell A k v else A) lb A2 ∧ q_und (if (x_sg A k v) then g_tell A k v else A) lb A2) ∧ q_01 A2 713 ∧ q_01 A2 717) : k_end w A2 R2 := by
  obtain ⟨⟨-, -, e2, -, -, t2, hr2⟩, ⟨r1, u1⟩, z3, z7⟩ := h2
  refine ⟨lb, t2, hr2, ?_⟩
  by_cases hc : x_sg A k v
  · rw [if_pos hc] at e2 r1 u1
    obtain ⟨t1, t2, t3⟩ := k_tell (v := v) (p := k) (by have := hc.2.1; omega) h.2.1.2.1 h.2.2.2.2.2.2.2.2.2
    exact q_inv_act h r1 u1 t1 t2 t3 z3 z7 e2
  · rw [if_neg hc] at e2 r1 u1
    exact q_inv_act h r1 u1 (fun _ _ _ _ _ => rfl) rfl h.2.2.2.2.2.2.2.2.2 z3 z7 e2
theorem k_og {f ρ b : Int} (h : q_inv A lb) (hc : x_og A lb f ρ b) : 0 ≤ 4 + f ∧ 4 + f < 24 := by
  have h1 := h.1.cin.1
  have h2 := hc.1.1
  have := h1.2.1
  omega
theorem k_hi_open (h : q_inv A lb) {f ρ b : Int} (g1 : g32 f) : k_hi A (if (x_og A lb f ρ b) then (g_tell A (4 + f) (g_xor (A 550 (4 + f)) (g_shl 1 ρ))) else A) := by
  by_cases hc : x_og A lb f ρ b
  · rw [if_pos hc]
    have hf := k_og h hc
    obtain ⟨t1, -, -⟩ := k_tell (v := g_xor (A 550 (4 + f)) (g_shl 1 ρ)) (p := 4 + f) hf h.2.1.2.1 h.2.2.2.2.2.2.2.2.2
    exact ⟨fun a ha => t1 a (by omega) (by omega) (by omega) (by omega), k_tell32 h.1.gi ⟨by omega, by omega⟩ (g32_of _) h.2.1.2.1⟩
  · rw [if_neg hc]; exact k_hi_rf h
theorem k_open (h : q_inv A lb) {f ρ b : Int} (h2 : x_rel w (some (gvI ((if (x_og A lb f ρ b) then g_tlf A 549 5 + 1 else -1)))) x_b5 (if (x_og A lb f ρ b) then (g_tell A (4 + f) (g_xor (A 550 (4 + f)) (g_shl 1 ρ))) else A) J lb r n2 A2 J2 R2 ∧ (q_rel (if (x_og A lb f ρ b) then (g_tell A (4 + f) (g_xor (A 550 (4 + f)) (g_shl 1 ρ))) else A) lb A2 ∧ q_und (if (x_og A lb f ρ b) then (g_tell A (4 + f) (g_xor (A 550 (4 + f)) (g_shl 1 ρ))) else A) lb A2) ∧ q_01 A2 713 ∧ q_01 A2 717) : k_end w A2 R2 := by
  obtain ⟨⟨-, -, e2, -, -, t2, hr2⟩, ⟨r1, u1⟩, z3, z7⟩ := h2
  refine ⟨lb, t2, hr2, ?_⟩
  by_cases hc : x_og A lb f ρ b
  · rw [if_pos hc] at e2 r1 u1
    obtain ⟨t1, t2, t3⟩ := k_tell (v := g_xor (A 550 (4 + f)) (g_shl 1 ρ)) (p := 4 + f) (k_og h hc) h.2.1.2.1 h.2.2.2.2.2.2.2.2.2
    exact q_inv_act h r1 u1 t1 t2 t3 z3 z7 e2
  · rw [if_neg hc] at e2 r1 u1
    exact q_inv_act h r1 u1 (fun _ _ _ _ _ => rfl) rfl h.2.2.2.2.2.2.2.2.2 z3 z7 e2
theorem k_unt : (∀ k : Nat, k ≠ 549 → k ≠ 550 → k ≠ 552 → k ≠ 553 → g_unt A k = A k) ∧ g_unt A 549 4 = A 549 4 ∧ ∀ i : Int, g_unt A 552 i = A 552 i := by
  unfold g_unt
  refine ⟨fun k k1 k2 _ _ => funext fun j => ?_, ?_, fun i => ?_⟩
  · rw [g_up_k k2, g_up_k k1]
  · rw [g_up_k (by decide), g_up_i (by decide)]
  · rw [g_up_k (by decide), g_up_k (by decide)]
theorem k_tim : (∀ k : Nat, k ≠ 549 → k ≠ 550 → k ≠ 552 → k ≠ 553 → g_tim A k = A k) ∧ g_tim A 549 4 = A 549 4 ∧ ∀ i : Int, g_tim A 552 i = A 552 i := by
  unfold g_tim
  refine ⟨fun k k1 k2 _ _ => funext fun j => ?_, ?_, fun i => ?_⟩
  · rw [g_up_k k1, g_cpy_k k2]
  · rw [g_up_i (by decide), g_cpy_k (by decide)]
  · rw [g_up_k (by decide), g_cpy_k (by decide)]
theorem k_hi_undo (h : q_inv A lb) : k_hi A (if A 549 5 = 0 then A else g_unt A) := by
  by_cases hc : A 549 5 = 0
  · rw [if_pos hc]; exact k_hi_rf h
  · rw [if_neg hc]
    have hA := h.2.1.2.1
    refine ⟨fun a ha => k_unt.1 a (by omega) (by omega) (by omega) (by omega), ?_⟩
    unfold g_unt
    exact g_up32 (g_up32 h.1.gi ⟨by omega, by omega⟩) (h.1.gi _ _)
theorem k_undo (h : q_inv A lb) (h2 : x_rel w (some (gvI ((if A 549 5 = 0 then -1 else A 549 5 - 1)))) x_b6 (if A 549 5 = 0 then A else g_unt A) J lb r n2 A2 J2 R2 ∧ (q_rel (if A 549 5 = 0 then A else g_unt A) lb A2 ∧ q_und (if A 549 5 = 0 then A else g_unt A) lb A2) ∧ q_01 A2 713) : k_end w A2 R2 := by
  obtain ⟨⟨-, -, e2, -, -, t2, hr2⟩, ⟨r1, u1⟩, z3⟩ := h2
  refine ⟨lb, t2, hr2, ?_⟩
  have h17 : ∀ P : g_I, (∀ (k : Nat) (j : Int), ¬ x_b6 k j → A2 k j = P k j) → P 717 = A 717 → q_01 A2 717 := fun P e p j => by
    rw [e 717 j (by unfold x_b6 x_a; omega), p]; exact h.2.2.2.2.2.1.2.1 j
  by_cases hc : A 549 5 = 0
  · rw [if_pos hc] at e2 r1 u1
    exact q_inv_act h r1 u1 (fun _ _ _ _ _ => rfl) rfl h.2.2.2.2.2.2.2.2.2 z3 (h17 _ e2 rfl) (fun k j hk => e2 k j (by unfold x_b5 x_b4 at hk; unfold x_b6; omega))
  · rw [if_neg hc] at e2 r1 u1
    exact q_inv_act h r1 u1 k_unt.1 k_unt.2.1 (fun i => by rw [k_unt.2.2 i]; exact h.2.2.2.2.2.2.2.2.2 i) z3 (h17 _ e2 (k_unt.1 717 (by decide) (by decide) (by decide) (by decide))) (fun k j hk => e2 k j (by unfold x_b5 x_b4 at hk; unfold x_b6; omega))
theorem k_hi_back (h : q_inv A lb) : k_hi A (if A 549 4 = 0 then A else g_tim A) := by
  by_cases hc : A 549 4 = 0
  · rw [if_pos hc]; exact k_hi_rf h
  · rw [if_neg hc]
    refine ⟨fun a ha => k_tim.1 a (by omega) (by omega) (by omega) (by omega), ?_⟩
    unfold g_tim
    exact g_up32 (k_cpy32 h.1.gi) ⟨by decide, by decide⟩
theorem k_back (h : q_inv A lb) (h2 : x_rel w (some (gvI ((if A 549 4 = 0 then -1 else g_bc (g_thb (g_tim A) lb))))) x_b6 (if A 549 4 = 0 then A else g_tim A) J lb r n2 A2 J2 R2 ∧ (q_rel (if A 549 4 = 0 then A else g_tim A) lb A2 ∧ q_und (if A 549 4 = 0 then A else g_tim A) lb A2) ∧ q_01 A2 713) : k_end w A2 R2 := by
  obtain ⟨⟨-, -, e2, -, -, t2, hr2⟩, ⟨r1, u1⟩, z3⟩ := h2
  refine ⟨lb, t2, hr2, ?_⟩
  have h17 : ∀ P : g_I, (∀ (k : Nat) (j : Int), ¬ x_b6 k j → A2 k j = P k j) → P 717 = A 717 → q_01 A2 717 := fun P e p j => by
    rw [e 717 j (by unfold x_b6 x_a; omega), p]; exact h.2.2.2.2.2.1.2.1 j
  by_cases hc : A 549 4 = 0
  · rw [if_pos hc] at e2 r1 u1
    exact q_inv_act h r1 u1 (fun _ _ _ _ _ => rfl) rfl h.2.2.2.2.2.2.2.2.2 z3 (h17 _ e2 rfl) (fun k j hk => e2 k j (by unfold x_b5 x_b4 at hk; unfold x_b6; omega))
  · rw [if_neg hc] at e2 r1 u1
    exact q_inv_act h r1 u1 k_tim.1 k_tim.2.1 (fun i => by rw [k_tim.2.2 i]; exact h.2.2.2.2.2.2.2.2.2 i) z3 (h17 _ e2 (k_tim.1 717 (by decide) (by decide) (by decide) (by decide))) (fun k j hk => e2 k j (by unfold x_b5 x_b4 at hk; unfold x_b6; omega))
/-- the TAPE -/
theorem k_ap1 {z : Int} (hz : 0 ≤ z ∧ z ≤ 255) (h : x_lk A) : x_lk (g_ap1 A z) ∧ ∀ k : Nat, k ≠ 1 → k ≠ 2 → g_ap1 A z k = A k := by
  unfold g_ap1
  split
  next hc =>
    obtain ⟨h1, h2, h3, h4, h5⟩ := h
    refine ⟨⟨g_up32 (g_up32 h1 ⟨by omega, by omega⟩) ⟨by omega, by omega⟩, by rw [g_up_s]; omega, fun j => ?_, fun i => ?_, fun i => ?_⟩, fun k k1 k2 => funext fun j => ?_⟩
    · rw [g_up_k (by decide)]
      by_cases e : j = A 1 1
      · rw [e, g_up_s]; exact hz
      · rw [g_up_i e]; exact h3 j
    · rw [g_up_k (by decide), g_up_k (by decide)]; exact h4 i
    · rw [g_up_k (by decide), g_up_k (by decide)]; exact h5 i
    · rw [g_up_k k1, g_up_k k2]
  next hc => exact ⟨h, fun _ _ _ => rfl⟩
theorem k_apn {v : Int} (h : x_lk A) : ∀ n : Nat, x_lk (g_apn A v n) ∧ ∀ k : Nat, k ≠ 1 → k ≠ 2 → g_apn A v n k = A k
  | 0 => ⟨h, fun _ _ _ => rfl⟩
  | n + 1 => by
    obtain ⟨h1, h2⟩ := k_apn h n
    obtain ⟨h3, h4⟩ := k_ap1 (z := g_by v (24 - 8 * n)) g_by_in h1
    rw [g_apn]
    exact ⟨h3, fun k k1 k2 => (h4 k k1 k2).trans (h2 k k1 k2)⟩
theorem k_fed {a b c d e : Int} (h : x_lk A) : x_lk (x_fed A a b c d e) ∧ ∀ k : Nat, k ≠ 1 → k ≠ 2 → x_fed A a b c d e k = A k := by
  unfold x_fed g_apd
  obtain ⟨a1, a2⟩ := k_apn (v := a) h 4
  obtain ⟨b1, b2⟩ := k_apn (v := b) a1 4
  obtain ⟨c1, c2⟩ := k_apn (v := c) b1 4
  obtain ⟨d1, d2⟩ := k_apn (v := d) c1 4
  obtain ⟨e1, e2⟩ := k_apn (v := e) d1 4
  exact ⟨e1, fun k k1 k2 => (e2 k k1 k2).trans ((d2 k k1 k2).trans ((c2 k k1 k2).trans ((b2 k k1 k2).trans (a2 k k1 k2))))⟩
theorem k_fedif {a b c d e : Int} (h : q_inv A lb) : x_lk (if 240 < x_fdn A a b c d e then A else x_fed A a b c d e) ∧ ∀ k : Nat, k ≠ 1 → k ≠ 2 → (if 240 < x_fdn A a b c d e then A else x_fed A a b c d e) k = A k := by
  by_cases hc : 240 < x_fdn A a b c d e
  · rw [if_pos hc]; exact ⟨h.2.2.2.2.2.2.1, fun _ _ _ => rfl⟩
  · rw [if_neg hc]; exact k_fed h.2.2.2.2.2.2.1
theorem k_hi_feed (h : q_inv A lb) {a b c d e : Int} : k_hi A (if 240 < x_fdn A a b c d e then A else x_fed A a b c d e) := ⟨fun k hk => (k_fedif h).2 k (by omega) (by omega), (k_fedif h).1.1⟩
theorem k_feed (hr : g_rf w R lb tx) (h : q_inv A lb) {a b c d e : Int} (h2 : x_pl (some (gvI (if 240 < x_fdn A a b c d e then -1 else x_fdn A a b c d e))) x_tp (if 240 < x_fdn A a b c d e then A else x_fed A a b c d e) J R r n2 A2 J2 R2 ∧ q_tap (if 240 < x_fdn A a b c d e then A else x_fed A a b c d e) A2) : k_end w A2 R2 := by
  obtain ⟨⟨-, -, -, e0, e2, g2⟩, t⟩ := h2
  subst e0
  obtain ⟨x1, x2⟩ := k_fedif (a := a) (b := b) (c := c) (d := d) (e := e) h
  exact ⟨lb, tx, hr, q_inv_tape h t x2 x1 e2 g2⟩
theorem k_endif {n : Int} (h : q_inv A lb) : x_lk (if (0 ≤ n ∧ n ≤ A 1 1) then g_up A 1 1 n else A) ∧ ∀ k : Nat, k ≠ 1 → k ≠ 2 → (if (0 ≤ n ∧ n ≤ A 1 1) then g_up A 1 1 n else A) k = A k := by
  obtain ⟨h1, h2, h3, h4, h5⟩ := h.2.2.2.2.2.2.1
  by_cases hc : 0 ≤ n ∧ n ≤ A 1 1
  · rw [if_pos hc]
    exact ⟨⟨g_up32 h1 ⟨by omega, by omega⟩, by rw [g_up_s]; omega, fun j => by rw [g_up_k (by decide)]; exact h3 j, fun i => by rw [g_up_k (by decide)]; exact h4 i, fun i => by rw [g_up_k (by decide)]; exact h5 i⟩, fun k k1 k2 => funext fun j => g_up_k k1⟩
  · rw [if_neg hc]; exact ⟨⟨h1, h2, h3, h4, h5⟩, fun _ _ _ => rfl⟩
theorem k_hi_end (h : q_inv A lb) {n : Int} : k_hi A (if (0 ≤ n ∧ n ≤ A 1 1) then g_up A 1 1 n else A) := ⟨fun k hk => (k_endif h).2 k (by omega) (by omega), (k_endif h).1.1⟩
theorem k_ended (hr : g_rf w R lb tx) (h : q_inv A lb) {n : Int} (h2 : x_pl (some (gvI (g_b (0 ≤ n ∧ n ≤ A 1 1)))) x_tp (if (0 ≤ n ∧ n ≤ A 1 1) then g_up A 1 1 n else A) J R r n2 A2 J2 R2 ∧ q_tap (if (0 ≤ n ∧ n ≤ A 1 1) then g_up A 1 1 n else A) A2) : k_end w A2 R2 := by
  obtain ⟨⟨-, -, -, e0, e2, g2⟩, t⟩ := h2
  subst e0
  obtain ⟨x1, x2⟩ := k_endif (n := n) h
  exact ⟨lb, tx, hr, q_inv_tape h t x2 x1 e2 g2⟩
/-- CLUES -/
theorem k_clif {c u v : Int} (h : q_inv A lb) (g1 : g32 c) (g2 : g32 u) (g3 : g32 v) : (∀ k : Nat, ¬ (697 ≤ k ∧ k ≤ 700) → (if (x_cg A c u v) then g_adc A c u v else A) k = A k) ∧ ∀ k j, g32 ((if (x_cg A c u v) then g_adc A c u v else A) k j) := by
  have hk := h.1.clu.1.1
  split
  · unfold g_adc
    split
    · exact ⟨fun _ _ => rfl, h.1.gi⟩
    · refine ⟨fun k hk2 => funext fun j => ?_, g_up32 (g_up32 (g_up32 (g_up32 h.1.gi g1) g2) g3) ⟨by omega, by omega⟩⟩
      rw [g_up_k (by omega), g_up_k (by omega), g_up_k (by omega), g_up_k (by omega)]
  · exact ⟨fun _ _ => rfl, h.1.gi⟩
theorem k_hi_clue (h : q_inv A lb) {c u v : Int} (g1 : g32 c) (g2 : g32 u) (g3 : g32 v) : k_hi A (if (x_cg A c u v) then g_adc A c u v else A) := ⟨fun k hk => (k_clif h g1 g2 g3).1 k (by omega), (k_clif h g1 g2 g3).2⟩
theorem k_clue (h : q_inv A lb) {c u v : Int} (g1 : g32 c) (g2 : g32 u) (g3 : g32 v) (h2 : x_rel w (some (gvI ((if (x_cg A c u v) then (if 12 ≤ A 697 4 then -1 else A 697 4 + 1) else -1)))) x_b7 (if (x_cg A c u v) then g_adc A c u v else A) J lb r n2 A2 J2 R2 ∧ q_rel (if (x_cg A c u v) then g_adc A c u v else A) lb A2) : k_end w A2 R2 := by
  obtain ⟨⟨-, -, e2, -, -, t2, hr2⟩, r1⟩ := h2
  exact ⟨lb, t2, hr2, q_inv_clue h r1 (k_clif h g1 g2 g3).1 e2⟩
/-- births -/
theorem k_ptif {c : Prop} [Decidable c] {z : Int} : ∀ k : Nat, k ≠ 701 → k ≠ 702 → (if c then g_ptb A z else A) k = A k := fun k k1 k2 => by
  split
  · unfold g_ptb
    funext j
    rw [g_up_k k1, g_up_k k2]
  · rfl
theorem k_birth {A1 : g_I} {J1 J3 : g_J} (h : q_inv A lb) {sd : Int} (h1 : ∀ k : Nat, ¬ g_sc k → A1 k = (if (0 ≤ A 0 12 ∧ A 701 2 < 60) then g_ptb A (g_dsf A lb sd).1 else A) k) (g1 : ∀ k j, g32 (A1 k j)) (h2 : x_rel w (some (gvI (if (0 ≤ A 0 12 ∧ A 701 2 < 60) then (g_dsf A lb sd).1 else -1))) x_b2 A1 J2 lb r n2 A2 J2 R2 ∧ (∀ k : Nat, k ≠ 703 → J2 k = J3 k) ∧ q_brt (if (0 ≤ A 0 12 ∧ A 701 2 < 60) then g_ptb A (g_dsf A lb sd).1 else A) A2) : k_end w A2 R2 := by
  obtain ⟨⟨-, -, e2, g2, -, t2, hr2⟩, -, b⟩ := h2
  refine ⟨lb, t2, hr2, q_inv_born h b (fun k j => ?_) k_ptif h1 e2 g2⟩
  by_cases hs : g_sc k
  · rw [k_ptif k (by unfold g_sc at hs; omega) (by unfold g_sc at hs; omega)]; exact h.1.gi k j
  · rw [← h1 k hs]; exact g1 k j
theorem k_tkif (h : q_inv A lb) : (∀ k : Nat, k ≠ 701 → k ≠ 702 → (if A 701 2 = 0 then A else g_up A 701 2 (A 701 2 - 1)) k = A k) ∧ ∀ k j, g32 ((if A 701 2 = 0 then A else g_up A 701 2 (A 701 2 - 1)) k j) := by
  have hb := h.2.2.1.2.1
  split
  · exact ⟨fun _ _ _ => rfl, h.1.gi⟩
  · exact ⟨fun k k1 _ => funext fun j => g_up_k k1, g_up32 h.1.gi ⟨by omega, by omega⟩⟩
theorem k_hi_take (h : q_inv A lb) : k_hi A (if A 701 2 = 0 then A else g_up A 701 2 (A 701 2 - 1)) := ⟨fun k hk => (k_tkif h).1 k (by omega) (by omega), (k_tkif h).2⟩
theorem k_take (h : q_inv A lb) (h2 : x_rel w (some (gvI ((if A 701 2 = 0 then -1 else A 701 2 - 1)))) x_b1 (if A 701 2 = 0 then A else g_up A 701 2 (A 701 2 - 1)) J lb r n2 A2 J2 R2 ∧ q_brt (if A 701 2 = 0 then A else g_up A 701 2 (A 701 2 - 1)) A2) : k_end w A2 R2 := by
  obtain ⟨⟨-, -, e2, g2, -, t2, hr2⟩, b⟩ := h2
  exact ⟨lb, t2, hr2, q_inv_born h b (k_tkif h).2 (k_tkif h).1 (fun _ _ => rfl) (fun k j hk => e2 k j (by unfold x_b2 at hk; unfold x_b1; omega)) g2⟩
/-- the IMAGE -/
theorem k_kmif (h : q_inv A lb) : k_hi A (if A 0 12 = -1 then A else g_kim A) := by
  by_cases hc : A 0 12 = -1
  · rw [if_pos hc]; exact k_hi_rf h
  · rw [if_neg hc]
    unfold g_kim
    exact ⟨fun k hk => funext fun j => by rw [g_up_k (by omega), g_cpy_k (by omega)], g_up32 (k_cpy32 h.1.gi) ⟨by decide, by decide⟩⟩
theorem k_image (h : q_inv A lb) {A1 : g_I} (hA1 : A1 = if A 0 12 = -1 then A else g_kim A) (h2 : x_rel w (some (gvI ((if A 0 12 = -1 then -1 else g_bc (g_thb A lb))))) x_b3 A1 J lb r n2 A2 J2 R2 ∧ q_01 A2 726 ∧ (A 0 12 = -1 → A2 703 45 = A1 703 45 ∧ (∀ j, A2 726 j = A1 726 j) ∧ ∀ j, A2 727 j = A1 727 j) ∧ (¬ A 0 12 = -1 → A2 703 45 = 1 ∧ (∀ t : Int, 0 ≤ t → t < 72 → A2 726 t = A1 713 t) ∧ (∀ t : Int, 0 ≤ t → t < 4 → A2 727 t = A 550 t))) : k_end w A2 R2 := by
  obtain ⟨⟨-, -, e2, g2, -, t2, hr2⟩, z6, f1, f2⟩ := h2
  exact ⟨lb, t2, hr2, q_inv_image h hA1 e2 g2 z6 f1 f2⟩
/-- a FAULT looked for -/
theorem k_rd (h : q_inv A lb) {v : Int} : x_rd A (x_flI A v) := x_rd_fl h.2.2.2.2.2.2.1 h.1.lv h.1.cin.2.1 h.2.2.2.2.2.2.2.2.1
theorem k_rd_hi {P : g_I} (h : q_inv A lb) (hp : x_rd A P) : k_hi A P := ⟨fun k hk => hp.1 k (by have := h.1.lv; have := h.1.cin.2.1; unfold x_rc; omega), hp.2.2.1.1⟩
theorem k_fault (h : q_inv A lb) {v : Int} (h2 : x_fp w A (x_flI A v) J lb v r n2 A2 J2 R2) : k_end w A2 R2 := by
  obtain ⟨-, -, -, ⟨t2, hr2⟩, e2, g2, -⟩ := h2
  exact ⟨lb, t2, hr2, q_inv_fl h (k_rd h) e2 g2⟩
/-- a LIFE called -/
theorem k_hi_call {l : Int} {A1 : g_I} (h : q_inv A lb) (c0 : ¬ (0 ≤ l ∧ l < A 0 10) → A1 = A ∧ R2 = R) (c1 : (0 ≤ l ∧ l < A 0 10) → g_rf w R2 (4 + 128 * l.toNat) tx ∧ x_cal A l A1 ∧ ∀ k : Nat, k ≠ 0 → k ≠ 549 → k ≠ 550 → k ≠ 697 → k ≠ 701 → A1 k = A k) : k_hi A A1 := by
  by_cases hc : 0 ≤ l ∧ l < A 0 10
  · obtain ⟨-, x, e⟩ := c1 hc
    exact ⟨fun k hk => e k (by omega) (by omega) (by omega) (by omega) (by omega), x.1⟩
  · rw [(c0 hc).1]; exact k_hi_rf h
theorem k_call {l : Int} {A1 : g_I} {R1 : g_R} {J1 : g_J} (hr : g_rf w R lb tx) (h : q_inv A lb) (c0 : ¬ (0 ≤ l ∧ l < A 0 10) → A1 = A ∧ R1 = R) (c1 : (0 ≤ l ∧ l < A 0 10) → g_rf w R1 (4 + 128 * l.toNat) tx ∧ x_cal A l A1 ∧ ∀ k : Nat, k ≠ 0 → k ≠ 549 → k ≠ 550 → k ≠ 697 → k ≠ 701 → A1 k = A k)
    (h2 : x_pl (some (gvI (if (0 ≤ l ∧ l < A 0 10) then A (4 + 128 * l.toNat) 0 else -1))) x_b8 A1 J1 R1 r n2 A2 J2 R2 ∧ (¬ (0 ≤ l ∧ l < A 0 10) → ∀ (k : Nat) (j : Int), ¬ x_n k j → A2 k j = A1 k j) ∧ ((0 ≤ l ∧ l < A 0 10) → (∀ I2, x_cal A l I2 → q_rel I2 (4 + 128 * l.toNat) A2) ∧ A2 703 24 = l ∧ A2 703 32 = 0 ∧ A2 703 41 = 0 ∧ A2 703 45 = 0 ∧ q_01 A2 713)) : k_end w A2 R2 := by
  obtain ⟨⟨-, -, -, eR, e2, g2⟩, d0, d1⟩ := h2
  subst eR
  by_cases hc : 0 ≤ l ∧ l < A 0 10
  · obtain ⟨hr1, x, e⟩ := c1 hc
    obtain ⟨f1, -, f3, f4, f5, f6⟩ := d1 hc
    exact ⟨_, tx, hr1, q_inv_call h hc x e (f1 _ x) ⟨f3, f4, f5⟩ f6 e2⟩
  · obtain ⟨rfl, rfl⟩ := c0 hc
    exact ⟨lb, tx, hr, q_inv_ask h (fun _ _ => rfl) h.1.gi (fun k j hk => d0 hc k j (fun z => hk (x_na z))) g2⟩
/-- a text -/
theorem k_txrd {v : Int} (h : q_inv A lb) : x_rd A (if v = 0 ∧ A 0 10 < 3 then m_life (4 + 128 * (A 0 10).toNat) A else if v = 1 ∧ A 0 11 < 6 then t_M A (517 + 3 * (A 0 11).toNat) (t_read (A 2) (A 1 1)) else A) := by
  split
  · exact x_rd_life h.2.2.2.2.2.2.1 h.1.lv h.2.2.2.2.2.2.2.2.1
  · split
    · exact x_rd_taste h.2.2.2.2.2.2.1 h.1.cin.2.1 h.2.2.2.2.2.2.2.2.1
    · exact x_rd_rf h.2.2.2.2.2.2.1 h.2.2.2.2.2.2.2.2.1
/-- what the class's text leaves -/
def k_tx (w : g_W) (A A1 : g_I) (R R1 : g_R) (tx : Nat) (v : Int) : Prop := (¬ (v = 0 ∧ A 0 10 < 3 ∧ x_flt A v = -1) → ¬ (v = 1 ∧ A 0 11 < 6 ∧ x_flt A v = -1) → A1 = (if v = 0 ∧ A 0 10 < 3 then m_life (4 + 128 * (A 0 10).toNat) A else if v = 1 ∧ A 0 11 < 6 then t_M A (517 + 3 * (A 0 11).toNat) (t_read (A 2) (A 1 1)) else A) ∧ R1 = R) ∧ ((v = 0 ∧ A 0 10 < 3 ∧ x_flt A v = -1) → g_rf w R1 (4 + 128 * (A 0 10).toNat) tx ∧ x_cal (x_tld A) (A 0 10) A1 ∧ ∀ k : Nat, k ≠ 0 → k ≠ 549 → k ≠ 550 → k ≠ 697 → k ≠ 701 → A1 k = x_tld A k) ∧ ((v = 1 ∧ A 0 11 < 6 ∧ x_flt A v = -1) → A1 = x_tal A ∧ R1 = R)
theorem k_tld_hi (h : q_inv A lb) : ∀ k : Nat, 703 ≤ k → x_tld A k = A k := fun k hk => by
  have hl := h.1.lv
  have h1 := x_rd_life h.2.2.2.2.2.2.1 hl h.2.2.2.2.2.2.2.2.1
  unfold x_tld
  funext j
  rw [g_up_k (by omega), g_up_k (by omega)]
  exact congrFun (h1.1 k (by have := h.1.cin.2.1; unfold x_rc; omega)) j
theorem k_tal_hi (h : q_inv A lb) : k_hi A (x_tal A) := by
  have ht := h.1.cin.2.1
  have h1 := x_rd_taste h.2.2.2.2.2.2.1 ht h.2.2.2.2.2.2.2.2.1
  unfold x_tal
  refine ⟨fun k hk => funext fun j => ?_, g_up32 (g_up32 h1.2.2.1.1 ⟨by decide, by decide⟩) ⟨by omega, by omega⟩⟩
  rw [g_up_k (by omega), g_up_k (by omega)]
  exact congrFun (h1.1 k (by have := h.1.lv; unfold x_rc; omega)) j
theorem k_hi_text {v : Int} {A1 : g_I} {R1 : g_R} (h : q_inv A lb) (c : k_tx w A A1 R R1 tx v) : k_hi A A1 := by
  obtain ⟨c0, c1, c2⟩ := c
  by_cases h0 : v = 0 ∧ A 0 10 < 3 ∧ x_flt A v = -1
  · obtain ⟨-, x, e⟩ := c1 h0
    exact ⟨fun k hk => (e k (by omega) (by omega) (by omega) (by omega) (by omega)).trans (k_tld_hi h k hk), x.1⟩
  · by_cases h1 : v = 1 ∧ A 0 11 < 6 ∧ x_flt A v = -1
    · rw [(c2 h1).1]; exact k_tal_hi h
    · rw [(c0 h0 h1).1]; exact k_rd_hi h (k_txrd h)
theorem k_tx_rf {v : Int} {A1 : g_I} {R1 : g_R} (hr : g_rf w R lb tx) (c : k_tx w A A1 R R1 tx v) : ∃ lb1, g_rf w R1 lb1 tx := by
  obtain ⟨c0, c1, c2⟩ := c
  by_cases h0 : v = 0 ∧ A 0 10 < 3 ∧ x_flt A v = -1
  · exact ⟨_, (c1 h0).1⟩
  · by_cases h1 : v = 1 ∧ A 0 11 < 6 ∧ x_flt A v = -1
    · rw [(c2 h1).2]; exact ⟨lb, hr⟩
    · rw [(c0 h0 h1).2]; exact ⟨lb, hr⟩
theorem k_rf_inj {b1 b2 t1 t2 : Nat} (h1 : g_rf w R b1 t1) (h2 : g_rf w R b2 t2) : b1 = b2 := by
  have e1 := h1.2.2.2.2.2.2.2.1
  have e2 := h2.2.2.2.2.2.2.2.1
  have := Option.some.inj (e1.symm.trans e2)
  omega
theorem k_text {v : Int} {A1 : g_I} {R1 : g_R} {J1 : g_J} {lb1 : Nat} (hr : g_rf w R lb tx) (h : q_inv A lb) (c : k_tx w A A1 R R1 tx v) (hr1 : g_rf w R1 lb1 tx)
    (h2 : r = some (gvI (if (v = 0 ∧ A 0 10 < 3 ∧ x_flt A v = -1) then A 0 10 else if (v = 1 ∧ A 0 11 < 6 ∧ x_flt A v = -1) then A 0 11 else -1)) ∧ n2 = g_n ∧ J2 = J1 ∧ (∃ t2, g_rf w R2 lb1 t2) ∧ (∀ k j, g32 (A2 k j)) ∧ (¬ (v = 0 ∧ A 0 10 < 3 ∧ x_flt A v = -1) → ¬ (v = 1 ∧ A 0 11 < 6 ∧ x_flt A v = -1) → ∀ (k : Nat) (j : Int), ¬ x_fl k j → A2 k j = A1 k j) ∧ ((v = 0 ∧ A 0 10 < 3 ∧ x_flt A v = -1) → (∀ I2, x_cal (x_tld A) (A 0 10) I2 → q_rel I2 (4 + 128 * (A 0 10).toNat) A2) ∧ (A2 703 24 = A 0 10 ∧ A2 703 32 = 0 ∧ A2 703 41 = 0 ∧ A2 703 45 = 0) ∧ q_01 A2 713 ∧ A2 703 6 = 0 ∧ ∀ (k : Nat) (j : Int), ¬ ((x_tl (A 0 10)) k j ∨ x_b8 k j) → A2 k j = A1 k j) ∧ ((v = 1 ∧ A 0 11 < 6 ∧ x_flt A v = -1) → (A2 703 6 = 0 ∧ A2 703 7 = A 0 11 + 1 ∧ A2 706 (A 0 11) = A 1 1) ∧ (∀ c : Int, 0 ≤ c → c < A 1 1 → A2 705 (240 * A 0 11 + c) = A1 704 c) ∧ (∀ (k : Nat) (j : Int), ¬ (x_tq (A 0 11)) k j → A2 k j = A1 k j) ∧ ∀ c : Int, -128 ≤ A2 705 c ∧ A2 705 c ≤ 127)) : k_end w A2 R2 := by
  obtain ⟨c0, c1, c2⟩ := c
  obtain ⟨-, -, -, ⟨t2, hr2⟩, g2, d0, d1, d2⟩ := h2
  by_cases h0 : v = 0 ∧ A 0 10 < 3 ∧ x_flt A v = -1
  · obtain ⟨hq1, x, e⟩ := c1 h0
    obtain ⟨f1, ⟨-, f2, f3, f4⟩, f5, f6, f7⟩ := d1 h0
    have hb := k_rf_inj hr1 hq1
    subst hb
    exact ⟨_, t2, hr2, q_inv_life h h0.2.1 x e (f1 _ x) ⟨f2, f3, f4⟩ f5 f6 f7⟩
  · by_cases h1 : v = 1 ∧ A 0 11 < 6 ∧ x_flt A v = -1
    · obtain ⟨rfl, rfl⟩ := c2 h1
      have hb := k_rf_inj hr1 hr
      subst hb
      obtain ⟨⟨f1, f2, f3⟩, f4, f5, f6⟩ := d2 h1
      have hq : (t_read (A 2) (A 1 1)).2.1 = -1 := by
        have := h1.2.2
        unfold x_flt at this
        rw [if_neg (by omega), if_pos h1.1] at this
        exact this
      exact ⟨_, t2, hr2, q_inv_taste h h1.2.1 hq f1 f2 f3 f4 f5 g2 f6⟩
    · obtain ⟨rfl, rfl⟩ := c0 h0 h1
      have hb := k_rf_inj hr1 hr
      subst hb
      exact ⟨_, t2, hr2, q_inv_fl h (k_txrd h) (d0 h0 h1) g2⟩
end KM
