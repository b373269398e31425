/-! ===== a BRANCH is done, a FORK is done, a LIFE is done ===== -/
theorem z_S4 {X X' N N' : g_I} {b : Nat} {dep f r v : Int} {lv : Int → Int} (hb : g_life b) (hZ : z_Z X b N (dep + 1) (-1) 0 lv) (hf1 : 0 ≤ f ∧ f < X b 1) (hr1 : 0 ≤ r ∧ r < 4) (h5 : X 545 dep = f) (h6 : X 546 dep = r) (hd : 0 ≤ dep) (hlv : lv f = dep)
    (hv : (0 ≤ v ∧ v < X b 0) ∨ (100 + f < v ∧ v < 100 + X b 1 ∧ lv (v - 100) = dep + 1))
    (hB : ∀ s : Int, 0 ≤ s → s < X b 0 → dep < X (b + 14) s → X (b + 16 + s.toNat) dep = f → X (b + 29 + s.toNat) dep = r → (v < 100 ∧ s = v ∧ X (b + 14) s = dep + 1) ∨ (100 ≤ v ∧ dep + 1 < X (b + 14) s ∧ X (b + 16 + s.toNat) (dep + 1) = v - 100))
    (hX : X' = g_up X (b + 127) (f * 4 + r) v) (n8 : N' 708 = N 708) (n9 : N' 709 = N 709) (n10 : ∀ j : Int, ¬ j = ((3 * 18 + f) * 4 + r) * 6 + 5 → N' 710 j = N 710 j) (n10v : N' 710 (((3 * 18 + f) * 4 + r) * 6 + 5) = v) (n11 : N' 711 = N 711) (n12 : N' 712 = N 712) :
    z_Z X' b N' dep f (r + 1) lv := by
  have hb5 := hb
  unfold g_life at hb5
  obtain ⟨⟨g1, g2, g3, g4, g5, g6⟩, hp, hl, hf⟩ := id hZ
  have xo : ∀ c : Nat, c ≠ b + 127 → X' c = X c := fun c hc => by rw [hX]; funext j; exact g_up_k hc
  have x0 : X' b = X b := xo _ (by omega)
  have x5 : X' 545 = X 545 := xo _ (by omega)
  have x6 : X' 546 = X 546 := xo _ (by omega)
  have x14 : X' (b + 14) = X (b + 14) := xo _ (by omega)
  have x41 : X' (b + 41) = X (b + 41) := xo _ (by omega)
  have x42 : X' (b + 42) = X (b + 42) := xo _ (by omega)
  have x43 : X' (b + 43) = X (b + 43) := xo _ (by omega)
  have x44 : X' (b + 44) = X (b + 44) := xo _ (by omega)
  have x45 : X' (b + 45) = X (b + 45) := xo _ (by omega)
  have x127 : ∀ j : Int, ¬ j = f * 4 + r → X' (b + 127) j = X (b + 127) j := fun j hj => by rw [hX, g_up_i hj]
  have x127v : X' (b + 127) (f * 4 + r) = v := by rw [hX, g_up_s]
  obtain ⟨-, ⟨-, -, q43⟩, -⟩ := hp dep hd (by omega)
  rw [h5, h6] at q43
  have heb : ∀ g : Int, 0 ≤ g → z_eb X' b f (r + 1) g = z_eb X b (-1) 0 g := fun g g0 => by
    unfold z_eb
    rw [x43, if_neg (show ¬ g = -1 by omega)]
    by_cases e : g = f
    · rw [if_pos e, e, q43]
    · rw [if_neg e]
  refine ⟨⟨by rw [x0]; exact g1, by rw [x0]; exact g2, by omega, by rw [n11, x0]; exact g4, by rw [n12, x0]; exact g5, by rw [x0]; exact g6⟩, fun i i0 i1 => ?_, fun s s0 s1 => ?_, fun g k0 k1 => ?_⟩
  · obtain ⟨p1, p2, p3, p4, p5, p6, p7⟩ := hp i i0 (by omega)
    rw [x5, x6, x0, x43, n9]
    exact ⟨p1, p2, p3, p4, p5, p6, fun z => p7 (by omega)⟩
  · rw [x0] at s1
    have o2 : X' (b + 16 + s.toNat) = X (b + 16 + s.toNat) := xo _ (by omega)
    have o3 : X' (b + 29 + s.toNat) = X (b + 29 + s.toNat) := xo _ (by omega)
    have oA : X' (b + 2 + s.toNat) = X (b + 2 + s.toNat) := xo _ (by omega)
    obtain ⟨l1, l2, l3, l4, l5, l6⟩ := hl s s0 s1
    refine ⟨by rw [x14]; exact l1, by rw [x0, x14, o2]; exact l2, by rw [x14, o2]; exact l3, fun i i0 i1 => ?_, by rw [oA]; exact l5, z_sl_cg (fun i i0 i1 => ?_) oA (by rw [x14]) o2 o3 (fun j j0 j1 => by rw [n8]) l1.1 l6⟩
    · rw [x14] at i1
      obtain ⟨w1, w2, w3, w4⟩ := l4 i i0 i1
      have hfk := (hf _ w1.1 w1.2).2.2.2.1.2
      unfold z_lw
      rw [o2, o3, x0, x14, x5, x6, heb _ w1.1]
      refine ⟨w1, w2, w3, ?_⟩
      by_cases e : X (b + 16 + s.toNat) i * 4 + X (b + 29 + s.toNat) i = f * 4 + r
      · have e1 : X (b + 16 + s.toNat) i = f := by omega
        have e2 : X (b + 29 + s.toNat) i = r := by omega
        have e3 : i = dep := by rw [e1, hlv] at w3; omega
        subst e3
        rw [e, x127v]
        left
        rcases hB s s0 s1 i1 e1 e2 with ⟨a1, a2, a3⟩ | ⟨a1, a2, a3⟩
        · rw [if_pos (by omega)]; omega
        · rw [if_neg (by omega), a3]; omega
      · rw [x127 _ e]
        rcases w4 with w4 | ⟨w5, w6, w7, w8⟩
        · exact Or.inl w4
        · by_cases y : i = dep
          · rw [y, h5] at w6
            rw [y, h6] at w7
            rw [y, w6, w7] at e
            exact absurd rfl e
          · exact Or.inr ⟨by omega, w6, w7, fun z => w8 (by omega)⟩
    · obtain ⟨w1, w2, -, -⟩ := l4 i i0 i1
      have hfk := (hf _ w1.1 w1.2).2.2.2.1.2
      exact ⟨xo _ (by omega), by rw [n9], by rw [n9]⟩
  · rw [x0] at k1
    obtain ⟨k1', k2, k3, k4, k5, k6, k7⟩ := hf g k0 k1
    have hor : g_ors (fun s => if q_on X' b s g = true then g_shl 1 s else 0) (X' b 0).toNat = g_ors (fun s => if q_on X b s g = true then g_shl 1 s else 0) (X b 0).toNat := by
      rw [x0]
      exact g_ors_cg _ (fun t t0 t1 => by rw [z_on_cg (by rw [x14]) (xo _ (by omega))])
    unfold z_fork
    rw [x41, x42, x44, x45, hor, n9, heb g k0, x43, x5]
    refine ⟨k1', k2, k3, k4, fun z1 z2 => k5 (by omega) (fun i i0 i1 => ?_), fun r' a c => ?_, k7⟩
    · by_cases y : i = dep
      · rw [y, h5]; exact z1
      · exact z2 i i0 (by omega)
    · obtain ⟨b1, b2, b3⟩ := k6 r' a c
      unfold z_br
      rw [xo (b + 47 + (g * 4 + r').toNat) (by omega), x0, x5, x6]
      refine ⟨b1, fun c9 c0 c1 => by rw [n10 _ (by omega)]; exact b2 c9 c0 c1, ?_⟩
      by_cases e : g * 4 + r' = f * 4 + r
      · have e1 : g = f := by omega
        have e2 : r' = r := by omega
        right
        rw [e1, e2, n10v, x127v, hlv]
        refine ⟨rfl, ?_⟩
        rcases hv with z | z
        · exact Or.inl z
        · exact Or.inr z
      · rw [x127 _ e, n10 _ (by omega)]
        rcases b3 with ⟨i, i0, i1, i2, i3⟩ | b3
        · by_cases y : i = dep
          · rw [y, h5] at i2
            rw [y, h6] at i3
            rw [i2, i3] at e
            exact absurd rfl e
          · exact Or.inl ⟨i, i0, by omega, i2, i3⟩
        · exact Or.inr b3
theorem z_S5 {X N N' : g_I} {b : Nat} {dep f m : Int} {lv : Int → Int} (hZ : z_Z X b N dep f m lv) (hf1 : 0 ≤ f ∧ f < X b 1) (hm : 2 ≤ m) (h43 : X (b + 43) f = m) (n8 : N' 708 = N 708) (n9 : ∀ j : Int, ¬ j = (3 * 18 + f) * 5 + 2 → N' 709 j = N 709 j) (n9v : N' 709 ((3 * 18 + f) * 5 + 2) = m) (n10 : N' 710 = N 710) (n11 : N' 711 = N 711) (n12 : N' 712 = N 712) : z_Z X b N' dep (-1) 0 lv := by
  obtain ⟨⟨g1, g2, g3, g4, g5, g6⟩, hp, hl, hf⟩ := id hZ
  have heb : ∀ g : Int, 0 ≤ g → z_eb X b (-1) 0 g = z_eb X b f m g := fun g g0 => by
    unfold z_eb
    rw [if_neg (show ¬ g = -1 by omega)]
    by_cases e : g = f
    · rw [if_pos e, e, h43]
    · rw [if_neg e]
  refine ⟨⟨g1, g2, g3, by rw [n11]; exact g4, by rw [n12]; exact g5, g6⟩, fun i i0 i1 => ?_, fun s s0 s1 => ?_, fun g k0 k1 => ?_⟩
  · obtain ⟨p1, p2, p3, p4, p5, p6, p7⟩ := hp i i0 i1
    rw [n9 _ (by omega), n9 _ (by omega)]
    exact ⟨p1, p2, p3, p4, p5, p6, p7⟩
  · obtain ⟨l1, l2, l3, l4, l5, l6⟩ := hl s s0 s1
    refine ⟨l1, l2, l3, fun i i0 i1 => ?_, l5, z_sl_cg (fun i i0 i1 => ⟨rfl, n9 _ (by omega), n9 _ (by omega)⟩) rfl rfl rfl rfl (fun j j0 j1 => by rw [n8]) l1.1 l6⟩
    have w := l4 i i0 i1
    unfold z_lw at w ⊢
    rw [heb _ w.1.1]
    exact w
  · obtain ⟨k1', k2, k3, k4, k5, k6, k7⟩ := hf g k0 k1
    unfold z_fork
    rw [heb g k0, n9 _ (by omega), n9 _ (by omega), n9 _ (by omega)]
    refine ⟨k1', k2, k3, k4, fun _ z2 => ?_, fun r' a c => ?_, k7⟩
    · by_cases e : g = f
      · rw [e, h43, n9v]; exact ⟨hm, rfl⟩
      · rw [n9 _ (by omega)]; exact k5 e z2
    · have := k6 r' a c
      unfold z_br at this ⊢
      rw [n10]
      exact this
theorem z_or10 {a c : Int} (ha : 0 ≤ a ∧ a ≤ 1023) (hc : 0 ≤ c ∧ c ≤ 1023) : 0 ≤ g_or a c ∧ g_or a c ≤ 1023 := by
  obtain ⟨m, rfl⟩ := Int.eq_ofNat_of_zero_le ha.1
  obtain ⟨n, rfl⟩ := Int.eq_ofNat_of_zero_le hc.1
  rw [g_or_n (by omega) (by omega)]
  have := Nat.or_lt_two_pow (x := m) (y := n) (n := 10) (by omega) (by omega)
  omega
theorem z_ors10 {f : Int → Int} : ∀ n : Nat, (∀ i : Int, 0 ≤ i → i < n → 0 ≤ f i ∧ f i ≤ 1023) → 0 ≤ g_ors f n ∧ g_ors f n ≤ 1023
  | 0, _ => by rw [g_ors]; decide
  | n + 1, h => by
    rw [g_ors]
    exact z_or10 (z_ors10 n (fun i a c => h i a (by omega))) (h n (by omega) (by omega))
theorem z_shl10 {x : Int} (h : 0 ≤ x ∧ x ≤ 9) : 0 ≤ g_shl 1 x ∧ g_shl 1 x ≤ 1023 := by
  have : ∀ x : Fin 10, 0 ≤ g_shl 1 x.val ∧ g_shl 1 x.val ≤ 1023 := by decide +kernel
  have h2 := this ⟨x.toNat, by omega⟩
  dsimp only at h2
  rwa [show ((x.toNat : Nat) : Int) = x by omega] at h2
/-- the whole LIFE stands in row 3 -/
theorem z_S6 {X N : g_I} {b : Nat} {lv : Int → Int} (hZ : z_Z X b N 0 (-1) 0 lv) (h1 : 1 ≤ X b 0) (h2 : X b 1 = 0 → X b 0 = 1) : q_lf X b N 3 := by
  obtain ⟨⟨g1, g2, g3, g4, g5, g6⟩, hp, hl, hf⟩ := id hZ
  have heb : ∀ g : Int, 0 ≤ g → z_eb X b (-1) 0 g = X (b + 43) g := fun g g0 => by unfold z_eb; rw [if_neg (by omega)]
  have hbr : ∀ g : Int, 0 ≤ g → g < X b 1 → 2 ≤ X (b + 43) g ∧ X (b + 43) g ≤ 4 ∧ N 709 ((3 * 18 + g) * 5 + 2) = X (b + 43) g := fun g a c => by
    obtain ⟨-, -, -, k4, k5, -, -⟩ := hf g a c
    have := k5 (by omega) (fun i i0 i1 => by omega)
    rw [heb g a] at k4
    exact ⟨this.1, k4.2, this.2⟩
  have hB : ∀ g r : Int, 0 ≤ g → g < X b 1 → 0 ≤ r → r < X (b + 43) g → z_br X b N 0 lv g r := fun g r a c d e => (hf g a c).2.2.2.2.2.1 r d (by rw [heb g a]; exact e)
  have hW : ∀ s i : Int, 0 ≤ s → s < X b 0 → 0 ≤ i → i < X (b + 14) s → (0 ≤ X (b + 16 + s.toNat) i ∧ X (b + 16 + s.toNat) i < X b 1) ∧ (0 ≤ X (b + 29 + s.toNat) i ∧ X (b + 29 + s.toNat) i < X (b + 43) (X (b + 16 + s.toNat) i)) ∧ lv (X (b + 16 + s.toNat) i) = i ∧ X (b + 127) (X (b + 16 + s.toNat) i * 4 + X (b + 29 + s.toNat) i) = (if i + 1 = X (b + 14) s then s else 100 + X (b + 16 + s.toNat) (i + 1)) := fun s i s0 s1 i0 i1 => by
    obtain ⟨w1, w2, w3, w4⟩ := (hl s s0 s1).2.2.2.1 i i0 i1
    rw [heb _ w1.1] at w2
    refine ⟨w1, w2, w3, ?_⟩
    rcases w4 with w4 | w4
    · exact w4
    · omega
  have hq : ∀ s i : Int, 0 ≤ s → s < X b 0 → 0 ≤ i → i < X (b + 14) s → (0 ≤ q_it X b s i 1 ∧ q_it X b s i 1 ≤ 99) ∧ (0 ≤ q_it X b s i 2 ∧ q_it X b s i 2 ≤ 99) ∧ (0 ≤ q_it X b s i 3 ∧ q_it X b s i 3 ≤ 99) ∧ -1 ≤ q_it X b s i 4 ∧ q_it X b s i 4 ≤ 9 := fun s i s0 s1 i0 i1 => by
    obtain ⟨w1, w2, -, -⟩ := hW s i s0 s1 i0 i1
    obtain ⟨⟨-, t1, t2, t3, t4⟩, -, -⟩ := hB _ _ w1.1 w1.2 w2.1 w2.2
    exact ⟨t1, t2, t3, t4⟩
  refine ⟨⟨g1, g2, fun s s0 s1 => ?_, fun f f0 f1 => ?_⟩, ⟨⟨h1, h2⟩, fun s s0 s1 => ?_, ⟨fun g => if g = 0 then 0 else lv g, ?_⟩, fun f f0 f1 => (hf f f0 f1).2.2.2.2.2.2⟩, g4, g5, fun s s0 s1 => (hl s s0 s1).2.2.2.2.2, fun f f0 f1 => ?_⟩
  · obtain ⟨l1, l2, l3, l4, ⟨l5, l6, l7⟩, q1, ⟨q2, q3, q4⟩, ⟨q5, q6, q7⟩, q8, q9, -⟩ := hl s s0 s1
    have s1' := g_sum_in (f := fun i => q_it X b s i 1) (m := 99) (X (b + 14) s).toNat (fun i a c => (hq s i s0 s1 a (by omega)).1)
    have s2' := g_sum_in (f := fun i => q_it X b s i 2) (m := 99) (X (b + 14) s).toNat (fun i a c => (hq s i s0 s1 a (by omega)).2.1)
    have s3' := g_sum_in (f := fun i => q_it X b s i 3) (m := 99) (X (b + 14) s).toNat (fun i a c => (hq s i s0 s1 a (by omega)).2.2.1)
    refine ⟨l1, fun i i0 i1 => ⟨(hW s i s0 s1 i0 i1).1, (hW s i s0 s1 i0 i1).2.1⟩, by omega, by omega, by omega, l5, l6, l7, ?_⟩
    rw [q9]
    refine z_ors10 _ (fun i i0 i1 => ?_)
    have := (hq s i s0 s1 i0 (by omega)).2.2.2
    split
    · decide
    · exact z_shl10 ⟨by omega, this.2⟩
  · obtain ⟨⟨k1, k2⟩, -⟩ := hf f f0 f1
    have k3 := hbr f f0 f1
    refine ⟨⟨k3.1, k3.2.1⟩, k2, k1, fun r r0 r1 => ?_⟩
    obtain ⟨⟨t0, t1, t2, t3, t4⟩, -, t5⟩ := hB f r f0 f1 r0 r1
    refine ⟨t0, t1, t2, t3, t4, ?_⟩
    rcases t5 with ⟨i, i0, i1, -⟩ | ⟨-, t5 | t5⟩
    · omega
    · exact Or.inl t5
    · exact Or.inr ⟨t5.1, t5.2.1⟩
  · obtain ⟨l1, l2, l3, l4, -, -⟩ := hl s s0 s1
    exact ⟨l2, l3, fun i i0 i1 => (hW s i s0 s1 i0 i1).2.2.2⟩
  · have hl0 : ∀ g : Int, 0 ≤ g → g < X b 1 → (fun g => if g = 0 then 0 else lv g) g = lv g := fun g a c => by
      dsimp only
      by_cases z : g = 0
      · rw [if_pos z, z]; exact (g6 (by omega)).symm
      · rw [if_neg z]
    refine ⟨if_pos rfl, fun f f0 f1 => by rw [hl0 f f0 f1]; exact (hf f f0 f1).2.2.1, fun s s0 s1 i i0 i1 => ?_, fun f r f0 f1 r0 r1 h100 => ?_⟩
    · obtain ⟨w1, -, w3, -⟩ := hW s i s0 s1 i0 i1
      rw [hl0 _ w1.1 w1.2]; exact w3
    · obtain ⟨-, -, t5⟩ := hB f r f0 f1 r0 r1
      rcases t5 with ⟨i, i0, i1, -⟩ | ⟨-, t5 | t5⟩
      · omega
      · omega
      · rw [hl0 _ (by omega) (by omega), hl0 f f0 f1]; exact t5.2.2
  · obtain ⟨-, ⟨k1, k2, k3⟩, -⟩ := hf f f0 f1
    refine ⟨⟨k1, k2, (hbr f f0 f1).2.2, k3⟩, fun r r0 r1 => ?_⟩
    obtain ⟨-, t1, t5⟩ := hB f r f0 f1 r0 r1
    refine ⟨t1, ?_⟩
    rcases t5 with ⟨i, i0, i1, -⟩ | ⟨t5, -⟩
    · omega
    · exact t5
