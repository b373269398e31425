/-! ===== LIVES are read: the two readers side by side ===== -/
/-- how many BRANCHES a FORK has so far: o is the one in hand, with ro behind it -/
def z_eb (X : g_I) (b : Nat) (o ro f : Int) : Int := if f = o then ro else X (b + 43) f
/-- the FORKS that are open, with the BRANCH in hand -/
def z_path (X : g_I) (b : Nat) (N : g_I) (dep : Int) (lv : Int → Int) : Prop := ∀ i : Int, 0 ≤ i → i < dep → (0 ≤ X 545 i ∧ X 545 i < X b 1) ∧ (0 ≤ X 546 i ∧ X 546 i < 4 ∧ X (b + 43) (X 545 i) = X 546 i + 1) ∧ lv (X 545 i) = i ∧
  N 709 ((3 * 18 + X 545 i) * 5 + 3) = (if i = 0 then -1 else X 545 (i - 1)) ∧ N 709 ((3 * 18 + X 545 i) * 5 + 4) = (if i = 0 then -1 else X 546 (i - 1)) ∧ (i = 0 → X 545 i = 0) ∧ (i + 1 < dep → X 545 i < X 545 (i + 1))
/-- a step of a leaf's WAY -/
def z_lw (X : g_I) (b : Nat) (dep o ro : Int) (lv : Int → Int) (s i : Int) : Prop :=
  (0 ≤ X (b + 16 + s.toNat) i ∧ X (b + 16 + s.toNat) i < X b 1) ∧ (0 ≤ X (b + 29 + s.toNat) i ∧ X (b + 29 + s.toNat) i < z_eb X b o ro (X (b + 16 + s.toNat) i)) ∧ lv (X (b + 16 + s.toNat) i) = i ∧
  (X (b + 127) (X (b + 16 + s.toNat) i * 4 + X (b + 29 + s.toNat) i) = (if i + 1 = X (b + 14) s then s else 100 + X (b + 16 + s.toNat) (i + 1)) ∨ (i < dep ∧ X (b + 16 + s.toNat) i = X 545 i ∧ X (b + 29 + s.toNat) i = X 546 i ∧ (i + 1 < dep → i + 1 < X (b + 14) s ∧ X (b + 16 + s.toNat) (i + 1) = X 545 (i + 1))))
def z_leaf (X : g_I) (b : Nat) (N : g_I) (dep o ro : Int) (lv : Int → Int) (s : Int) : Prop :=
  (0 ≤ X (b + 14) s ∧ X (b + 14) s ≤ 6) ∧ (0 < X b 1 → 1 ≤ X (b + 14) s ∧ X (b + 16 + s.toNat) 0 = 0) ∧ (∀ i : Int, 0 ≤ i → i + 1 < X (b + 14) s → X (b + 16 + s.toNat) i < X (b + 16 + s.toNat) (i + 1)) ∧
  (∀ i : Int, 0 ≤ i → i < X (b + 14) s → z_lw X b dep o ro lv s i) ∧ ((1 ≤ X (b + 2 + s.toNat) 3 ∧ X (b + 2 + s.toNat) 3 ≤ 99) ∧ (0 ≤ X (b + 2 + s.toNat) 4 ∧ X (b + 2 + s.toNat) 4 ≤ 1) ∧ 0 ≤ X (b + 2 + s.toNat) 5 ∧ X (b + 2 + s.toNat) 5 ≤ 9) ∧ q_sl X b N 3 s
/-- a BRANCH -/
def z_br (X : g_I) (b : Nat) (N : g_I) (dep : Int) (lv : Int → Int) (f r : Int) : Prop :=
  ((1 ≤ X (b + 47 + (f * 4 + r).toNat) 0 ∧ X (b + 47 + (f * 4 + r).toNat) 0 ≤ 9) ∧ (0 ≤ X (b + 47 + (f * 4 + r).toNat) 1 ∧ X (b + 47 + (f * 4 + r).toNat) 1 ≤ 99) ∧ (0 ≤ X (b + 47 + (f * 4 + r).toNat) 2 ∧ X (b + 47 + (f * 4 + r).toNat) 2 ≤ 99) ∧ (0 ≤ X (b + 47 + (f * 4 + r).toNat) 3 ∧ X (b + 47 + (f * 4 + r).toNat) 3 ≤ 99) ∧ -1 ≤ X (b + 47 + (f * 4 + r).toNat) 4 ∧ X (b + 47 + (f * 4 + r).toNat) 4 ≤ 9) ∧
  (∀ c : Int, 0 ≤ c → c < 5 → N 710 (((3 * 18 + f) * 4 + r) * 6 + c) = X (b + 47 + (f * 4 + r).toNat) c) ∧
  ((∃ i : Int, 0 ≤ i ∧ i < dep ∧ f = X 545 i ∧ r = X 546 i) ∨ (N 710 (((3 * 18 + f) * 4 + r) * 6 + 5) = X (b + 127) (f * 4 + r) ∧ ((0 ≤ X (b + 127) (f * 4 + r) ∧ X (b + 127) (f * 4 + r) < X b 0) ∨ (100 + f < X (b + 127) (f * 4 + r) ∧ X (b + 127) (f * 4 + r) < 100 + X b 1 ∧ lv (X (b + 127) (f * 4 + r) - 100) = lv f + 1))))
def z_fork (X : g_I) (b : Nat) (N : g_I) (dep o ro : Int) (lv : Int → Int) (f : Int) : Prop :=
  ((1 ≤ X (b + 41) f ∧ X (b + 41) f ≤ 99) ∧ (0 ≤ X (b + 42) f ∧ X (b + 42) f ≤ 1)) ∧ (N 709 ((3 * 18 + f) * 5) = X (b + 41) f ∧ N 709 ((3 * 18 + f) * 5 + 1) = X (b + 42) f ∧ N 709 ((3 * 18 + f) * 5 + 3) = X (b + 44) f) ∧ (0 ≤ lv f ∧ lv f < 6) ∧ (0 ≤ z_eb X b o ro f ∧ z_eb X b o ro f ≤ 4) ∧
  (¬ f = o → (∀ i : Int, 0 ≤ i → i < dep → ¬ f = X 545 i) → 2 ≤ X (b + 43) f ∧ N 709 ((3 * 18 + f) * 5 + 2) = X (b + 43) f) ∧ (∀ r : Int, 0 ≤ r → r < z_eb X b o ro f → z_br X b N dep lv f r) ∧
  X (b + 45) f = g_ors (fun s => if q_on X b s f = true then g_shl 1 s else 0) (X b 0).toNat
/-- both readers' rows -/
def z_Z (X : g_I) (b : Nat) (N : g_I) (dep o ro : Int) (lv : Int → Int) : Prop :=
  ((0 ≤ X b 0 ∧ X b 0 ≤ 12) ∧ (0 ≤ X b 1 ∧ X b 1 ≤ 18) ∧ (0 ≤ dep ∧ dep ≤ 6) ∧ N 711 3 = X b 0 ∧ N 712 3 = X b 1 ∧ (0 < X b 1 → lv 0 = 0)) ∧ z_path X b N dep lv ∧ (∀ s : Int, 0 ≤ s → s < X b 0 → z_leaf X b N dep o ro lv s) ∧ ∀ f : Int, 0 ≤ f → f < X b 1 → z_fork X b N dep o ro lv f
/-- as a node begins -/
def z_E (X : g_I) (b : Nat) (dep : Int) : Prop := (dep = 0 → X b 0 = 0 ∧ X b 1 = 0) ∧ X b 1 ≤ X b 0 + dep ∧ ∀ s : Int, 0 ≤ s → s < X b 0 → 0 < dep → ¬ (dep - 1 < X (b + 14) s ∧ X (b + 16 + s.toNat) (dep - 1) = X 545 (dep - 1) ∧ X (b + 29 + s.toNat) (dep - 1) = X 546 (dep - 1))
/-- leaves that were there keep their WAYS -/
def z_old (X X' : g_I) (b : Nat) : Prop := ∀ s : Int, 0 ≤ s → s < X b 0 → X' (b + 14) s = X (b + 14) s ∧ X' (b + 16 + s.toNat) = X (b + 16 + s.toNat) ∧ X' (b + 29 + s.toNat) = X (b + 29 + s.toNat)
/-- leaves behind the BRANCH in hand -/
def z_new (X X' : g_I) (b : Nat) (dep : Int) (lv : Int → Int) (v : Int) : Prop := (∀ s : Int, X b 0 ≤ s → s < X' b 0 → dep ≤ X' (b + 14) s ∧ (∀ i : Int, 0 ≤ i → i < dep → X' (b + 16 + s.toNat) i = X 545 i ∧ X' (b + 29 + s.toNat) i = X 546 i) ∧ ((v < 100 ∧ s = v ∧ X' (b + 14) s = dep) ∨ (100 ≤ v ∧ dep < X' (b + 14) s ∧ X' (b + 16 + s.toNat) dep = v - 100))) ∧
  X b 0 < X' b 0 ∧ X' b 1 - X b 1 ≤ X' b 0 - X b 0 - 1 ∧ ((v = X b 0 ∧ X' b 1 = X b 1) ∨ (v = 100 + X b 1 ∧ X b 1 < X' b 1 ∧ lv (X b 1) = dep))
theorem z_sl_cg {X X' N N' : g_I} {b : Nat} {s : Int} (hw : ∀ i : Int, 0 ≤ i → i < X (b + 14) s → X' (b + 47 + (X (b + 16 + s.toNat) i * 4 + X (b + 29 + s.toNat) i).toNat) = X (b + 47 + (X (b + 16 + s.toNat) i * 4 + X (b + 29 + s.toNat) i).toNat) ∧ N' 709 ((3 * 18 + X (b + 16 + s.toNat) i) * 5 + 3) = N 709 ((3 * 18 + X (b + 16 + s.toNat) i) * 5 + 3) ∧ N' 709 ((3 * 18 + X (b + 16 + s.toNat) i) * 5 + 4) = N 709 ((3 * 18 + X (b + 16 + s.toNat) i) * 5 + 4))
    (e2 : X' (b + 2 + s.toNat) = X (b + 2 + s.toNat)) (e14 : X' (b + 14) s = X (b + 14) s) (e16 : X' (b + 16 + s.toNat) = X (b + 16 + s.toNat)) (e29 : X' (b + 29 + s.toNat) = X (b + 29 + s.toNat)) (n8 : ∀ j : Int, 0 ≤ j → j < 7 → N' 708 ((3 * 12 + s) * 7 + j) = N 708 ((3 * 12 + s) * 7 + j)) (h0 : 0 ≤ X (b + 14) s) (h : q_sl X b N 3 s) : q_sl X' b N' 3 s := by
  have n80 : N' 708 ((3 * 12 + s) * 7) = N 708 ((3 * 12 + s) * 7) := by have := n8 0 (by omega) (by omega); rwa [Int.add_zero] at this
  have hpf : ∀ i : Int, q_pf X' b s i = q_pf X b s i ∧ q_pr X' b s i = q_pr X b s i := fun i => by
    unfold q_pf q_pr
    rw [e16, e29]
    exact ⟨rfl, rfl⟩
  have hit : ∀ i c : Int, 0 ≤ i → i < X (b + 14) s → q_it X' b s i c = q_it X b s i c := fun i c i0 i1 => by
    show X' (b + 47 + (X' (b + 16 + s.toNat) i * 4 + X' (b + 29 + s.toNat) i).toNat) c = _
    rw [e16, e29, (hw i i0 i1).1]
  obtain ⟨⟨a1, a2, a3, a4, a5⟩, ⟨b1, b2, b3⟩, ⟨c1, c2, c3⟩, d, f, g⟩ := h
  unfold q_sl
  rw [e2, e14, n80, n8 1 (by omega) (by omega), n8 2 (by omega) (by omega), n8 3 (by omega) (by omega), n8 4 (by omega) (by omega), n8 5 (by omega) (by omega), n8 6 (by omega) (by omega), (hpf _).1, (hpf _).2]
  refine ⟨⟨a1, a2, a3, a4, a5⟩, ⟨b1, b2, ?_⟩, ⟨c1, c2, ?_⟩, ?_, ?_, fun i i0 i1 => ?_⟩
  · rw [b3, x_sum_eq _ (fun i i0 i1 => hit i 1 i0 (by omega))]
  · rw [c3, x_sum_eq _ (fun i i0 i1 => hit i 2 i0 (by omega))]
  · rw [d, x_sum_eq _ (fun i i0 i1 => hit i 3 i0 (by omega))]
  · rw [f]
    refine (g_ors_cg _ (fun i i0 i1 => ?_)).symm
    rw [hit i 4 i0 (by omega)]
  · rw [e16, (hw i i0 i1).2.1, (hw i i0 i1).2.2, (hpf i).1, (hpf i).2]; exact g i i0 i1
theorem z_on_cg {X X' : g_I} {b : Nat} {s f : Int} (e14 : X' (b + 14) s = X (b + 14) s) (e16 : X' (b + 16 + s.toNat) = X (b + 16 + s.toNat)) : q_on X' b s f = q_on X b s f := by
  unfold q_on
  rw [e14, e16]
/-- another TAPE, other told ones: nothing else -/
theorem z_Z_cg {X X' N N' : g_I} {b : Nat} {dep o ro : Int} {lv : Int → Int} (h : z_Z X b N dep o ro lv) (e : ∀ k : Nat, b ≤ k → k < b + 128 → X' k = X k) (e5 : ∀ i : Int, i < dep → X' 545 i = X 545 i ∧ X' 546 i = X 546 i) (eN : ∀ k : Nat, 708 ≤ k → k ≤ 712 → N' k = N k) : z_Z X' b N' dep o ro lv := by
  obtain ⟨⟨h1, h2, h3, h4, h5, h6⟩, hp, hl, hf⟩ := h
  have e0 : X' b = X b := e b (by omega) (by omega)
  have e14 : X' (b + 14) = X (b + 14) := e _ (by omega) (by omega)
  have e41 : X' (b + 41) = X (b + 41) := e _ (by omega) (by omega)
  have e42 : X' (b + 42) = X (b + 42) := e _ (by omega) (by omega)
  have e43 : X' (b + 43) = X (b + 43) := e _ (by omega) (by omega)
  have e44 : X' (b + 44) = X (b + 44) := e _ (by omega) (by omega)
  have e45 : X' (b + 45) = X (b + 45) := e _ (by omega) (by omega)
  have e127 : X' (b + 127) = X (b + 127) := e _ (by omega) (by omega)
  have n8 := eN 708 (by omega) (by omega)
  have n9 := eN 709 (by omega) (by omega)
  have n10 := eN 710 (by omega) (by omega)
  have eb : ∀ f, z_eb X' b o ro f = z_eb X b o ro f := fun f => by unfold z_eb; rw [e43]
  refine ⟨⟨by rw [e0]; exact h1, by rw [e0]; exact h2, h3, by rw [e0, eN 711 (by omega) (by omega)]; exact h4, by rw [e0, eN 712 (by omega) (by omega)]; exact h5, by rw [e0]; exact h6⟩, fun i i0 i1 => ?_, fun s s0 s1 => ?_, fun f f0 f1 => ?_⟩
  · obtain ⟨p1, p2, p3, p4, p5, p6, p7⟩ := hp i i0 i1
    rw [(e5 i i1).1, (e5 i i1).2, (e5 (i - 1) (by omega)).1, (e5 (i - 1) (by omega)).2, e0, e43, n9]
    exact ⟨p1, p2, p3, p4, p5, p6, fun z => by rw [(e5 (i + 1) z).1]; exact p7 z⟩
  · rw [e0] at s1
    have e2 : X' (b + 2 + s.toNat) = X (b + 2 + s.toNat) := e _ (by omega) (by omega)
    have e16 : X' (b + 16 + s.toNat) = X (b + 16 + s.toNat) := e _ (by omega) (by omega)
    have e29 : X' (b + 29 + s.toNat) = X (b + 29 + s.toNat) := e _ (by omega) (by omega)
    obtain ⟨l1, l2, l3, l4, l5, l6⟩ := hl s s0 s1
    refine ⟨by rw [e14]; exact l1, by rw [e0, e14, e16]; exact l2, by rw [e14, e16]; exact l3, fun i i0 i1 => ?_, by rw [e2]; exact l5, z_sl_cg (fun i i0 i1 => ⟨?_, by rw [n9], by rw [n9]⟩) e2 (by rw [e14]) e16 e29 (fun j _ _ => by rw [n8]) l1.1 l6⟩
    · rw [e14] at i1
      obtain ⟨w1, w2, w3, w4⟩ := l4 i i0 i1
      unfold z_lw
      rw [e16, e29, e0, e14, e127, eb]
      refine ⟨w1, w2, w3, ?_⟩
      rcases w4 with w4 | ⟨w5, w6, w7, w8⟩
      · exact Or.inl w4
      · refine Or.inr ⟨w5, by rw [(e5 i w5).1]; exact w6, by rw [(e5 i w5).2]; exact w7, fun z => ?_⟩
        rw [(e5 (i + 1) z).1]; exact w8 z
    · obtain ⟨w1, w2, -, -⟩ := l4 i i0 i1
      have hfk := (hf _ w1.1 w1.2).2.2.2.1
      exact e _ (by omega) (by omega)
  · rw [e0] at f1
    obtain ⟨k1, k2, k3, k4, k5, k6, k7⟩ := hf f f0 f1
    unfold z_fork
    rw [e41, e42, e43, e44, e45, e0, n9, eb]
    refine ⟨k1, k2, k3, k4, fun z1 z2 => k5 z1 (fun i i0 i1 => ?_), fun r r0 r1 => ?_, ?_⟩
    · have := z2 i i0 i1; rwa [(e5 i i1).1] at this
    · obtain ⟨b1, b2, b3⟩ := k6 r r0 r1
      have e47 : X' (b + 47 + (f * 4 + r).toNat) = X (b + 47 + (f * 4 + r).toNat) := e _ (by omega) (by omega)
      unfold z_br
      rw [e47, n10, e127, e0]
      refine ⟨b1, b2, ?_⟩
      rcases b3 with ⟨i, i0, i1, i2, i3⟩ | b3
      · exact Or.inl ⟨i, i0, i1, by rw [(e5 i i1).1]; exact i2, by rw [(e5 i i1).2]; exact i3⟩
      · exact Or.inr b3
    · rw [k7]
      exact g_ors_cg _ (fun s s0 s1 => by rw [z_on_cg (by rw [e14]) (e _ (by omega) (by omega))])
