/-! ===== the picture moves: rows that stay ===== -/
section ROWS
variable {I I' : g_I} {b : Nat}
theorem q_lok_row (e : ∀ o : Nat, o < 128 → I' (b + o) = I (b + o)) (h : g_lok I b) : g_lok I' b := by
  have e0 : I' b = I b := e 0 (by omega)
  obtain ⟨h1, h2, h3, h4⟩ := h
  unfold g_lok
  rw [e0, e 14 (by omega), e 41 (by omega), e 42 (by omega), e 43 (by omega), e 127 (by omega)]
  refine ⟨h1, h2, fun s hs0 hs1 => ?_, fun f hf0 hf1 => ?_⟩
  · have e2 : I' (b + 2 + s.toNat) = I (b + 2 + s.toNat) := by rw [Nat.add_assoc]; exact e _ (by omega)
    have e16 : I' (b + 16 + s.toNat) = I (b + 16 + s.toNat) := by rw [Nat.add_assoc]; exact e _ (by omega)
    have e29 : I' (b + 29 + s.toNat) = I (b + 29 + s.toNat) := by rw [Nat.add_assoc]; exact e _ (by omega)
    rw [e2, e16, e29]
    exact h3 s hs0 hs1
  · obtain ⟨g1, g2, g3, g4⟩ := h4 f hf0 hf1
    refine ⟨g1, g2, g3, fun r hr0 hr1 => ?_⟩
    have e47 : I' (b + 47 + (f * 4 + r).toNat) = I (b + 47 + (f * 4 + r).toNat) := by rw [Nat.add_assoc]; exact e _ (by omega)
    rw [e47]
    exact g4 r hr0 hr1
theorem q_on_row (e : ∀ o : Nat, o < 128 → I' (b + o) = I (b + o)) {s f : Int} (h : 0 ≤ s ∧ s < 12) : q_on I' b s f = q_on I b s f := by
  have e16 : I' (b + 16 + s.toNat) = I (b + 16 + s.toNat) := by rw [Nat.add_assoc]; exact e _ (by omega)
  unfold q_on
  rw [e16, e 14 (by omega)]
theorem q_pf_row (e : ∀ o : Nat, o < 128 → I' (b + o) = I (b + o)) {s i : Int} (h : 0 ≤ s ∧ s < 12) : q_pf I' b s i = q_pf I b s i ∧ q_pr I' b s i = q_pr I b s i := by
  have e16 : I' (b + 16 + s.toNat) = I (b + 16 + s.toNat) := by rw [Nat.add_assoc]; exact e _ (by omega)
  have e29 : I' (b + 29 + s.toNat) = I (b + 29 + s.toNat) := by rw [Nat.add_assoc]; exact e _ (by omega)
  unfold q_pf q_pr
  rw [e16, e29]
  exact ⟨rfl, rfl⟩
theorem q_it_row (e : ∀ o : Nat, o < 128 → I' (b + o) = I (b + o)) (hL : g_lok I b) {s i c : Int} (hs : 0 ≤ s ∧ s < I b 0) (hi : 0 ≤ i ∧ i < I (b + 14) s) : q_it I' b s i c = q_it I b s i c := by
  have hn := hL.1
  have hn1 := hL.2.1
  have e16 : I' (b + 16 + s.toNat) = I (b + 16 + s.toNat) := by rw [Nat.add_assoc]; exact e _ (by omega)
  have e29 : I' (b + 29 + s.toNat) = I (b + 29 + s.toNat) := by rw [Nat.add_assoc]; exact e _ (by omega)
  obtain ⟨⟨w1, w2⟩, w3, w4⟩ := (hL.2.2.1 s hs.1 hs.2).2.1 i hi.1 hi.2
  have hb := (hL.2.2.2 _ w1 w2).1
  show I' (b + 47 + (I' (b + 16 + s.toNat) i * 4 + I' (b + 29 + s.toNat) i).toNat) c = _
  rw [e16, e29]
  have e47 : I' (b + 47 + (I (b + 16 + s.toNat) i * 4 + I (b + 29 + s.toNat) i).toNat) = I (b + 47 + (I (b + 16 + s.toNat) i * 4 + I (b + 29 + s.toNat) i).toNat) := by rw [Nat.add_assoc]; exact e _ (by omega)
  rw [e47]
theorem q_str_row (e : ∀ o : Nat, o < 128 → I' (b + o) = I (b + o)) (hL : g_lok I b) (h : q_str I b) : q_str I' b := by
  have e0 : I' b = I b := e 0 (by omega)
  have hn := hL.1
  obtain ⟨h1, h2, ⟨dep, d1, d2, d3, d4⟩, h4⟩ := h
  have e16 : ∀ s : Int, 0 ≤ s → s < I b 0 → I' (b + 16 + s.toNat) = I (b + 16 + s.toNat) := fun s _ _ => by rw [Nat.add_assoc]; exact e _ (by omega)
  have e29 : ∀ s : Int, 0 ≤ s → s < I b 0 → I' (b + 29 + s.toNat) = I (b + 29 + s.toNat) := fun s _ _ => by rw [Nat.add_assoc]; exact e _ (by omega)
  unfold q_str
  rw [e0, e 14 (by omega), e 43 (by omega), e 45 (by omega), e 127 (by omega)]
  refine ⟨h1, fun s s0 s1 => ?_, ⟨dep, d1, d2, fun s s0 s1 => ?_, d4⟩, fun f f0 f1 => ?_⟩
  · rw [e16 s s0 s1, e29 s s0 s1]; exact h2 s s0 s1
  · rw [e16 s s0 s1]; exact d3 s s0 s1
  · rw [h4 f f0 f1]
    refine (g_ors_cg _ (fun i i0 i1 => ?_)).symm
    rw [q_on_row e ⟨i0, by omega⟩]
theorem q_sl_row (e : ∀ o : Nat, o < 128 → I' (b + o) = I (b + o)) (hL : g_lok I b) {M : g_I} {jj s : Int} (hs : 0 ≤ s ∧ s < I b 0) (h : q_sl I b M jj s) : q_sl I' b M jj s := by
  have hn := hL.1
  have e2 : I' (b + 2 + s.toNat) = I (b + 2 + s.toNat) := by rw [Nat.add_assoc]; exact e _ (by omega)
  have e16 : I' (b + 16 + s.toNat) = I (b + 16 + s.toNat) := by rw [Nat.add_assoc]; exact e _ (by omega)
  have hp := fun i => @q_pf_row I I' b e s i ⟨hs.1, by omega⟩
  have hi := fun i c i0 i1 => @q_it_row I I' b e hL s i c hs ⟨i0, i1⟩
  have hst := (hL.2.2.1 s hs.1 hs.2).1
  obtain ⟨⟨a1, a2, a3, a4, a5⟩, ⟨b1, b2, b3⟩, ⟨c1, c2, c3⟩, d, f, g⟩ := h
  unfold q_sl
  rw [e2, e 14 (by omega)]
  refine ⟨⟨a1, a2, a3, ?_, ?_⟩, ⟨b1, b2, ?_⟩, ⟨c1, c2, ?_⟩, ?_, ?_, fun i i0 i1 => ?_⟩
  · rw [(hp _).1]; exact a4
  · rw [(hp _).2]; exact a5
  · rw [b3, x_sum_eq _ (fun i i0 i1 => hi i 1 i0 (by omega))]
  · rw [c3, x_sum_eq _ (fun i i0 i1 => hi i 2 i0 (by omega))]
  · rw [d, x_sum_eq _ (fun i i0 i1 => hi i 3 i0 (by omega))]
  · rw [f]
    refine (g_ors_cg _ (fun i i0 i1 => ?_)).symm
    rw [hi i 4 i0 (by omega)]
  · rw [e16, (hp _).1, (hp _).2]; exact g i i0 i1
theorem q_lf_row (e : ∀ o : Nat, o < 128 → I' (b + o) = I (b + o)) {M : g_I} {jj : Int} (h : q_lf I b M jj) : q_lf I' b M jj := by
  have e0 : I' b = I b := e 0 (by omega)
  obtain ⟨hL, h2, h3, h4, h5, h6⟩ := h
  refine ⟨q_lok_row e hL, q_str_row e hL h2, by rw [e0]; exact h3, by rw [e0]; exact h4, fun s s0 s1 => ?_, fun f f0 f1 => ?_⟩
  · rw [e0] at s1; exact q_sl_row e hL ⟨s0, s1⟩ (h5 s s0 s1)
  · rw [e0] at f1
    have hn1 := hL.2.1
    have hk := (hL.2.2.2 f f0 f1).1
    obtain ⟨k1, k2⟩ := h6 f f0 f1
    unfold q_fk
    rw [e 41 (by omega), e 42 (by omega), e 43 (by omega), e 44 (by omega), e 127 (by omega)]
    refine ⟨k1, fun r r0 r1 => ?_⟩
    have e47 : I' (b + 47 + (f * 4 + r).toNat) = I (b + 47 + (f * 4 + r).toNat) := by rw [Nat.add_assoc]; exact e _ (by omega)
    rw [e47]
    exact k2 r r0 r1
end ROWS
/-- what is told, as it must be -/
def q_row (I : g_I) (b : Nat) (S : Int → Int) : Prop := (0 ≤ S 0 ∧ S 0 ≤ 3) ∧ (-1 ≤ S 1 ∧ S 1 < I 0 11) ∧ (-1 ≤ S 2 ∧ S 2 < I 0 11) ∧ (0 ≤ S 3 ∧ S 3 ≤ 3) ∧ ∀ f : Int, 0 ≤ f → f < I b 1 → (1 ≤ S (4 + f) ∧ S (4 + f) ≤ 15) ∧ S (4 + f) < g_shl 1 (I (b + 43) f)
theorem q_rel.row {I M : g_I} {lb : Nat} (h : q_rel I lb M) : q_row I lb (I 550) := by
  obtain ⟨-, -, -, h4, h5, h6, h7, h8⟩ := id h.cin
  exact ⟨h4, h5, h6, h7, fun f f0 f1 => ⟨h8 f f0 f1, h.msk ⟨f0, f1⟩⟩⟩
/-- the same LIVES and TASTES; what is told, and CLUES, may be others -/
theorem q_rel_st {I I' M M' : g_I} {lb : Nat} (h : q_rel I lb M) (h0 : I' 0 = I 0) (h5 : ∀ k : Nat, 4 ≤ k → k < 536 → I' k = I k) (h55 : ∀ k : Nat, 555 ≤ k → k < 683 → I' k = I k) (hg : ∀ k j, g32 (I' k j)) (hgm : ∀ k j, g32 (M' k j))
    (hr : q_row I lb (I' 550)) (hto : ∀ k : Int, 0 ≤ k → k < 4 → M' 714 k = I' 550 k) (hop : ∀ f : Int, 0 ≤ f → f < I lb 1 → ∀ r : Int, 0 ≤ r → r < I (lb + 43) f → M' 713 (4 * f + r) = g_b (g_bit (I' 550 (4 + f)) r))
    (hck : g_cok I' ∧ M' 703 38 = I' 697 4 ∧ ∀ c : Int, 0 ≤ c → c < I' 697 4 → M' 721 c = I' 698 c ∧ M' 722 c = I' 699 c ∧ M' 723 c = I' 700 c)
    (hM : ∀ k : Nat, 705 ≤ k → k ≤ 712 → k ≠ 707 → M' k = M k) (hM3 : M' 703 24 = M 703 24 ∧ M' 703 23 = M 703 23 ∧ M' 703 7 = M 703 7) : q_rel I' lb M' := by
  obtain ⟨a1, a2, a3, a4, a5, a6, a7, a8, a9, a10, a11⟩ := h
  have hlb : (4 ≤ lb ∧ lb + 128 ≤ 388) ∨ lb = 555 := by
    unfold q_tb at a4
    rcases a4 with ⟨-, -, z, -⟩ | ⟨z1, z2, z3⟩
    · exact Or.inr z
    · left; omega
  have el : ∀ o : Nat, o < 128 → I' (lb + o) = I (lb + o) := by
    intro o ho
    rcases hlb with z | z
    · exact h5 _ (by omega) (by omega)
    · exact h55 _ (by omega) (by omega)
  have el0 : I' lb = I lb := el 0 (by omega)
  obtain ⟨c1, c2, c3, c4, c5, c6, c7, c8⟩ := a3
  obtain ⟨r1, r2, r3, r4, r5⟩ := hr
  refine ⟨hgm, hg, ⟨q_lok_row el c1, ?_, ?_, r1, ?_, ?_, r4, ?_⟩, ?_, ?_, ?_, ?_, hto, ?_, ?_, hck⟩
  · rw [h0]; exact c2
  · intro t t0 t1
    rw [h0] at t1
    have := c3 t t0 t1
    unfold g_tok at this ⊢
    rw [h5 (517 + 3 * t.toNat) (by omega) (by omega), h5 (517 + 3 * t.toNat + 1) (by omega) (by omega)]
    exact this
  · rw [h0]; exact r2
  · rw [h0]; exact r3
  · intro f f0 f1; rw [el0] at f1; exact (r5 f f0 f1).1
  · unfold q_tb at a4 ⊢
    rw [h0, h55 555 (by omega) (by omega)]; exact a4
  · rw [h0]; exact a5
  · rw [h0, hM3.1, hM3.2.1, hM3.2.2]; exact a6
  · intro jj j0 j1
    rw [h0] at j1
    exact q_lf_cg (fun k k0 k1 => hM k (by omega) (by omega) (by omega)) (q_lf_row (fun o ho => h5 _ (by omega) (by omega)) (a7 jj j0 j1))
  · intro f f0 f1
    rw [el0] at f1
    rw [el 43 (by omega)]
    exact ⟨(r5 f f0 f1).2, hop f f0 f1⟩
  · intro t t0 t1
    rw [h0] at t1
    have := a10 t t0 t1
    have e5 : q_by M' 705 (240 * t) = q_by M 705 (240 * t) := funext fun j => by
      show g_and (M' 705 _) 255 = _
      rw [hM 705 (by omega) (by omega) (by omega)]
    unfold q_ta at this ⊢
    rw [e5, h5 (517 + 3 * t.toNat) (by omega) (by omega), h5 (518 + 3 * t.toNat) (by omega) (by omega), hM 705 (by omega) (by omega) (by omega), hM 706 (by omega) (by omega) (by omega)]
    exact this
