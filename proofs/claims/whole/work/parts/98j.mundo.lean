theorem x_tlf {I : g_I} (hA : 0 ≤ I 549 5 ∧ I 549 5 ≤ 40) : ∃ a s : Int, (0 ≤ a ∧ a ≤ 39) ∧ (s = 0 ∨ s = 1) ∧ (s = 1 ↔ I 549 5 = 40) ∧ a = I 549 5 - s ∧ g_tlf I 549 5 = a ∧ (∀ j : Int, 0 ≤ j → j < a → g_tlf I 552 j = I 552 (j + s) ∧ g_tlf I 553 j = I 553 (j + s)) ∧ (∀ k : Nat, k ≠ 549 → k ≠ 552 → k ≠ 553 → g_tlf I k = I k) ∧ ∀ j : Int, j ≠ 5 → g_tlf I 549 j = I 549 j := by
  by_cases h : I 549 5 = 40
  · refine ⟨39, 1, by omega, Or.inr rfl, by omega, by omega, ?_, fun j j0 j1 => ⟨?_, ?_⟩, fun k k1 k2 k3 => ?_, fun j j1 => ?_⟩
    · rw [g_tlf, if_pos h, g_up_s]
    · rw [g_tlf, if_pos h, g_up_k (by decide), g_cpy_k (by decide), g_cpy_in j0 (by omega), show 1 + (j - 0) = j + 1 by omega]
    · rw [g_tlf, if_pos h, g_up_k (by decide), g_cpy_in j0 (by omega), g_cpy_k (by decide), show 1 + (j - 0) = j + 1 by omega]
    · funext j
      rw [g_tlf, if_pos h, g_up_k k1, g_cpy_k k3, g_cpy_k k2]
    · rw [g_tlf, if_pos h, g_up_i j1, g_cpy_k (by decide), g_cpy_k (by decide)]
  · refine ⟨I 549 5, 0, by omega, Or.inl rfl, by omega, by omega, ?_, fun j j0 j1 => ?_, fun k k1 k2 k3 => ?_, fun j j1 => ?_⟩
    all_goals rw [g_tlf, if_neg h]
    rw [Int.add_zero]
    exact ⟨rfl, rfl⟩
theorem x_tell {I : g_I} {p v : Int} (hA : 0 ≤ I 549 5 ∧ I 549 5 ≤ 40) : ∃ a s : Int, (0 ≤ a ∧ a ≤ 39) ∧ (s = 0 ∨ s = 1) ∧ (s = 1 ↔ I 549 5 = 40) ∧ a = I 549 5 - s ∧ g_tell I p v 549 5 = a + 1 ∧ (g_tell I p v 552 a = p ∧ g_tell I p v 553 a = I 550 p) ∧ (∀ j : Int, 0 ≤ j → j < a → g_tell I p v 552 j = I 552 (j + s) ∧ g_tell I p v 553 j = I 553 (j + s)) ∧ (g_tell I p v 550 p = v ∧ ∀ j : Int, ¬ j = p → g_tell I p v 550 j = I 550 j) ∧ (∀ k : Nat, k ≠ 549 → k ≠ 550 → k ≠ 552 → k ≠ 553 → g_tell I p v k = I k) ∧ ∀ j : Int, j ≠ 5 → g_tell I p v 549 j = I 549 j := by
  obtain ⟨a, s, h1, h2, h3, h4, h5, h6, h7, h8⟩ := x_tlf hA
  refine ⟨a, s, h1, h2, h3, h4, ?_, ⟨?_, ?_⟩, fun j j0 j1 => ⟨?_, ?_⟩, ⟨?_, fun j j1 => ?_⟩, fun k k1 k2 k3 k4 => ?_, fun j j1 => ?_⟩
  · rw [g_tell, g_up_k (by decide), g_up_s, h5]
  · rw [g_tell, g_up_k (by decide), g_up_k (by decide), g_up_k (by decide), h5, g_up_s]
  · rw [g_tell, g_up_k (by decide), g_up_k (by decide), h5, g_up_s, h7 550 (by decide) (by decide) (by decide)]
  · rw [g_tell, g_up_k (by decide), g_up_k (by decide), g_up_k (by decide), h5, g_up_i (by omega)]; exact (h6 j j0 j1).1
  · rw [g_tell, g_up_k (by decide), g_up_k (by decide), h5, g_up_i (by omega), g_up_k (by decide)]; exact (h6 j j0 j1).2
  · rw [g_tell, g_up_s]
  · rw [g_tell, g_up_i j1, g_up_k (by decide), g_up_k (by decide), g_up_k (by decide), h7 550 (by decide) (by decide) (by decide)]
  · funext j
    rw [g_tell, g_up_k k2, g_up_k k1, g_up_k k4, g_up_k k3, h7 k k1 k3 k4]
  · rw [g_tell, g_up_k (by decide), g_up_i j1, g_up_k (by decide), g_up_k (by decide)]; exact h8 j j1
/-- what was told, d acts ago -/
def x_past (I : g_I) : Nat → Int → Int
  | 0 => I 550
  | d + 1 => fun j => if j = I 552 (I 549 5 - 1 - d) then I 553 (I 549 5 - 1 - d) else x_past I d j
theorem x_past_tell {I : g_I} {p v : Int} (hA : 0 ≤ I 549 5 ∧ I 549 5 ≤ 40) : ∀ d : Nat, (d : Int) < g_tell I p v 549 5 → x_past (g_tell I p v) (d + 1) = x_past I d := by
  obtain ⟨a, s, h1, h2, h3, h4, h5, ⟨h6, h6b⟩, h7, ⟨h8, h8b⟩, -, -⟩ := x_tell (I := I) (p := p) (v := v) hA
  intro d
  induction d with
  | zero =>
    intro _
    funext j
    show (if j = g_tell I p v 552 (g_tell I p v 549 5 - 1 - (0 : Nat)) then g_tell I p v 553 (g_tell I p v 549 5 - 1 - (0 : Nat)) else g_tell I p v 550 j) = I 550 j
    rw [h5, show a + 1 - 1 - ((0 : Nat) : Int) = a by omega, h6, h6b]
    by_cases z : j = p
    · rw [if_pos z, z]
    · rw [if_neg z, h8b j z]
  | succ d ih =>
    intro hd
    have := ih (by omega)
    funext j
    rw [x_past, this, h5, show a + 1 - 1 - ((d + 1 : Nat) : Int) = a - 1 - d by omega, (h7 _ (by omega) (by omega)).1, (h7 _ (by omega) (by omega)).2, show a - 1 - (d : Int) + s = I 549 5 - 1 - d by omega, x_past]
/-- one snapshot of the reference's -/
def q_snap (I : g_I) (lb : Nat) (S : Int → Int) (M : g_I) (a : Int) : Prop := (∀ k : Int, 0 ≤ k → k < 4 → M 718 (4 * a + k) = S k) ∧ ∀ f : Int, 0 ≤ f → f < I lb 1 → ∀ r : Int, 0 ≤ r → r < I (lb + 43) f → M 717 (72 * a + (4 * f + r)) = g_b (g_bit (S (4 + f)) r)
/-- what can be undone -/
def q_und (I : g_I) (lb : Nat) (M : g_I) : Prop := M 703 32 = I 549 5 ∧ (0 ≤ I 549 5 ∧ I 549 5 ≤ 40) ∧ ∀ d : Nat, (d : Int) < I 549 5 → q_row I lb (x_past I (d + 1)) ∧ q_snap I lb (x_past I (d + 1)) M (I 549 5 - 1 - d)
theorem q_row_cg {I I' : g_I} {lb : Nat} {S : Int → Int} (h0 : I' 0 = I 0) (h1 : I' lb = I lb) (h2 : I' (lb + 43) = I (lb + 43)) : q_row I' lb S ↔ q_row I lb S := by
  unfold q_row
  rw [h0, h1, h2]
theorem q_und_tell {I M M' : g_I} {lb : Nat} (h : q_rel I lb M) (hu : q_und I lb M) {p v : Int}
    (hP : ∃ a s : Int, (0 ≤ a ∧ a ≤ 39) ∧ (s = 0 ∨ s = 1) ∧ (s = 1 ↔ I 549 5 = 40) ∧ a = I 549 5 - s ∧ M' 703 32 = a + 1 ∧ (∀ t : Int, 0 ≤ t → t < 72 * a → M' 717 t = M 717 (t + 72 * s)) ∧ (∀ t : Int, 0 ≤ t → t < 72 → M' 717 (72 * a + t) = M 713 t) ∧ (∀ t : Int, 0 ≤ t → t < 4 * a → M' 718 t = M 718 (t + 4 * s)) ∧ ∀ t : Int, 0 ≤ t → t < 4 → M' 718 (4 * a + t) = I 550 t) : q_und (g_tell I p v) lb M' := by
  obtain ⟨u1, u2, u3⟩ := hu
  obtain ⟨a', s', b1, b2, b3, b4, b5, b6, b7, b8, b9⟩ := hP
  obtain ⟨a, s, h1, h2, h3, h4, h5, -, -, -, h9, -⟩ := x_tell (I := I) (p := p) (v := v) u2
  have hlb : (4 ≤ lb ∧ lb + 128 ≤ 388) ∨ lb = 555 := by
    have a4 := h.tbl
    have a5 := h.lv
    unfold q_tb at a4
    rcases a4 with ⟨-, -, z, -⟩ | ⟨z1, z2, z3⟩
    · exact Or.inr z
    · left; omega
  have hn := (q_lok h).2.1
  have hk := fun f f0 f1 => ((q_lok h).2.2.2 f f0 f1).1
  have ea : a' = a := by omega
  have es : s' = s := by omega
  subst ea es
  have e0 := h9 0 (by decide) (by decide) (by decide) (by decide)
  have e1 := h9 lb (by omega) (by omega) (by omega) (by omega)
  have e2 := h9 (lb + 43) (by omega) (by omega) (by omega) (by omega)
  refine ⟨by omega, by omega, fun d hd => ?_⟩
  rw [x_past_tell u2 d hd, q_row_cg e0 e1 e2, h5]
  rw [h5] at hd
  unfold q_snap
  rw [e1, e2]
  cases d with
  | zero =>
    refine ⟨h.row, fun k k0 k1 => ?_, fun f f0 f1 r r0 r1 => ?_⟩
    · rw [show a' + 1 - 1 - ((0 : Nat) : Int) = a' by omega]; exact b9 k k0 k1
    · have := hk f f0 f1
      rw [show a' + 1 - 1 - ((0 : Nat) : Int) = a' by omega, b7 _ (by omega) (by omega)]
      exact h.opn ⟨f0, f1⟩ ⟨r0, r1⟩
  | succ d =>
    obtain ⟨w1, w2, w3⟩ := u3 d (by omega)
    refine ⟨w1, fun k k0 k1 => ?_, fun f f0 f1 r r0 r1 => ?_⟩
    · rw [b8 _ (by omega) (by omega), show 4 * (a' + 1 - 1 - ((d + 1 : Nat) : Int)) + k + 4 * s' = 4 * (I 549 5 - 1 - d) + k by omega]
      exact w2 k k0 k1
    · have := hk f f0 f1
      rw [b6 _ (by omega) (by omega), show 72 * (a' + 1 - 1 - ((d + 1 : Nat) : Int)) + (4 * f + r) + 72 * s' = 72 * (I 549 5 - 1 - d) + (4 * f + r) by omega]
      exact w3 f f0 f1 r r0 r1
