/-! ===== a FORK begins, a BRANCH is gone into, is done, the FORK ends ===== -/
theorem z_ors0 {f : Int → Int} : ∀ n : Nat, (∀ i : Int, 0 ≤ i → i < n → f i = 0) → g_ors f n = 0
  | 0, _ => rfl
  | n + 1, h => by
    rw [g_ors, z_ors0 n (fun i a c => h i a (by omega)), h n (by omega) (by omega)]
    exact g_or_0 ⟨by decide, by decide⟩
theorem z_S2 {X X' N N' : g_I} {b : Nat} {dep f y k : Int} {lv : Int → Int} (hb : g_life b) (hZ : z_Z X b N dep (-1) 0 lv) (hE : z_E X b dep) (hf0 : f = X b 1) (hd : dep ≤ 5) (hy : 1 ≤ y ∧ y ≤ 99) (hk : 0 ≤ k ∧ k ≤ 1)
    (xo : ∀ c : Nat, b ≤ c → c < b + 128 → c ≠ b → c ≠ b + 41 → c ≠ b + 42 → c ≠ b + 44 → c ≠ b + 45 → X' c = X c) (x0 : X' b 0 = X b 0 ∧ X' b 1 = f + 1) (x5 : X' 545 = X 545) (x6 : X' 546 = X 546)
    (x41 : ∀ j, X' (b + 41) j = if j = f then y else X (b + 41) j) (x42 : ∀ j, X' (b + 42) j = if j = f then k else X (b + 42) j) (x44 : ∀ j, X' (b + 44) j = if j = f then (if dep = 0 then -1 else X 545 (dep - 1)) else X (b + 44) j) (x45 : ∀ j, X' (b + 45) j = if j = f then 0 else X (b + 45) j)
    (n8 : N' 708 = N 708) (n9 : ∀ j : Int, ¬ ((3 * 18 + f) * 5 ≤ j ∧ j < (3 * 18 + f) * 5 + 5) → N' 709 j = N 709 j) (n90 : N' 709 ((3 * 18 + f) * 5) = y) (n91 : N' 709 ((3 * 18 + f) * 5 + 1) = k) (n93 : N' 709 ((3 * 18 + f) * 5 + 3) = if dep = 0 then -1 else X 545 (dep - 1)) (n10 : N' 710 = N 710) (n11 : N' 711 3 = X b 0) (n12 : N' 712 3 = f + 1) :
    z_Z X' b N' dep f 0 (fun g => if g = f then dep else lv g) ∧ (∀ i : Int, 0 ≤ i → i < dep → X 545 i < f) ∧ (dep = 0 → f = 0) ∧ z_old X X' b := by
  obtain ⟨⟨g1, g2, g3, g4, g5, g6⟩, hp, hl, hf⟩ := id hZ
  obtain ⟨E1, E2, E3⟩ := hE
  have x14 : X' (b + 14) = X (b + 14) := xo _ (by omega) (by omega) (by omega) (by omega) (by omega) (by omega) (by omega)
  have x43 : X' (b + 43) = X (b + 43) := xo _ (by omega) (by omega) (by omega) (by omega) (by omega) (by omega) (by omega)
  have x127 : X' (b + 127) = X (b + 127) := xo _ (by omega) (by omega) (by omega) (by omega) (by omega) (by omega) (by omega)
  have x47 : ∀ p : Int, 0 ≤ p → p < 80 → X' (b + 47 + p.toNat) = X (b + 47 + p.toNat) := fun p p0 p1 => xo _ (by omega) (by omega) (by omega) (by omega) (by omega) (by omega) (by omega)
  have hold : z_old X X' b := fun t t0 t1 => ⟨by rw [x14], xo _ (by omega) (by omega) (by omega) (by omega) (by omega) (by omega) (by omega), xo _ (by omega) (by omega) (by omega) (by omega) (by omega) (by omega) (by omega)⟩
  have hlt : ∀ g : Int, g < f → (fun g => if g = f then dep else lv g) g = lv g := fun g hg => by dsimp only; rw [if_neg (by omega)]
  have heb : ∀ g : Int, 0 ≤ g → g < f → z_eb X' b f 0 g = z_eb X b (-1) 0 g := fun g g0 g1 => by unfold z_eb; rw [if_neg (by omega), if_neg (by omega), x43]
  have hPf : ∀ i : Int, 0 ≤ i → i < dep → X 545 i < f := fun i i0 i1 => by have := (hp i i0 i1).1.2; omega
  have hd0 : X b 1 = 0 → dep = 0 := fun z => by
    by_cases y : dep = 0
    · exact y
    · have := (hp 0 (by omega) (by omega)).1; omega
  refine ⟨⟨⟨by rw [x0.1]; exact g1, by rw [x0.2]; omega, g3, by rw [n11, x0.1], by rw [n12, x0.2], fun _ => ?_⟩, fun i i0 i1 => ?_, fun s s0 s1 => ?_, fun g k0 k1 => ?_⟩, hPf, fun z => by have := (E1 z).2; omega, hold⟩
  · dsimp only
    by_cases z : (0 : Int) = f
    · rw [if_pos z]; exact hd0 (by omega)
    · rw [if_neg z]; exact g6 (by omega)
  · obtain ⟨p1, p2, p3, p4, p5, p6, p7⟩ := hp i i0 i1
    have := hPf i i0 i1
    rw [x5, x6, x43, x0.2, hlt _ this, n9 _ (by omega), n9 _ (by omega)]
    exact ⟨⟨p1.1, by omega⟩, p2, p3, p4, p5, p6, p7⟩
  · rw [x0.1] at s1
    obtain ⟨o1, o2, o3⟩ := hold s s0 s1
    have oA : X' (b + 2 + s.toNat) = X (b + 2 + s.toNat) := xo _ (by omega) (by omega) (by omega) (by omega) (by omega) (by omega) (by omega)
    obtain ⟨l1, l2, l3, l4, l5, l6⟩ := hl s s0 s1
    have hnf : 0 < X b 1 := by
      by_cases z : X b 1 = 0
      · have := (E1 (hd0 z)).1; omega
      · omega
    refine ⟨by rw [o1]; exact l1, fun _ => by rw [o1, o2]; exact l2 hnf, by rw [o1, o2]; exact l3, fun i i0 i1 => ?_, by rw [oA]; exact l5, z_sl_cg (fun i i0 i1 => ?_) oA o1 o2 o3 (fun j j0 j1 => by rw [n8]) l1.1 l6⟩
    · rw [o1] at i1
      obtain ⟨w1, w2, w3, w4⟩ := l4 i i0 i1
      unfold z_lw
      rw [o1, o2, o3, x0.2, x127, x5, x6, heb _ w1.1 (by omega), hlt _ (by omega)]
      exact ⟨⟨w1.1, by omega⟩, w2, w3, w4⟩
    · obtain ⟨w1, w2, -, -⟩ := l4 i i0 i1
      have hfk := (hf _ w1.1 w1.2).2.2.2.1
      exact ⟨x47 _ (by omega) (by omega), n9 _ (by omega), n9 _ (by omega)⟩
  · rw [x0.2] at k1
    have hor : ∀ h : Int, g_ors (fun s => if q_on X' b s h = true then g_shl 1 s else 0) (X' b 0).toNat = g_ors (fun s => if q_on X b s h = true then g_shl 1 s else 0) (X b 0).toNat := fun h => by
      rw [x0.1]
      exact g_ors_cg _ (fun t t0 t1 => by
        obtain ⟨o1, o2, -⟩ := hold t t0 (by omega)
        rw [z_on_cg o1 o2])
    by_cases e : g = f
    · subst e
      unfold z_fork
      rw [x41, x42, x44, x45, if_pos rfl, if_pos rfl, if_pos rfl, if_pos rfl, hor]
      dsimp only
      rw [if_pos rfl]
      have hz : z_eb X' b g 0 g = 0 := if_pos rfl
      rw [hz]
      refine ⟨⟨hy, hk⟩, ⟨n90, n91, n93⟩, ⟨g3.1, by omega⟩, by omega, fun z => absurd rfl z, fun r r0 r1 => by omega, ?_⟩
      refine (z_ors0 _ (fun t t0 t1 => ?_)).symm
      rw [if_neg]
      intro z
      obtain ⟨i, i0, i1, i2⟩ := q_on_iff.mp z
      have := ((hl t t0 (by omega)).2.2.2.1 i i0 i1).1.2
      omega
    · have kf : g < f := by omega
      obtain ⟨k1', k2, k3, k4, k5, k6, k7⟩ := hf g k0 (by omega)
      unfold z_fork
      rw [x41, x42, x44, x45, if_neg e, if_neg e, if_neg e, if_neg e, hor, heb g k0 kf, hlt g kf, n9 _ (by omega), n9 _ (by omega), n9 _ (by omega), n9 _ (by omega), x43, x5]
      refine ⟨k1', k2, k3, k4, fun _ z2 => k5 (by omega) z2, fun r r0 r1 => ?_, k7⟩
      obtain ⟨b1, b2, b3⟩ := k6 r r0 r1
      unfold z_br
      rw [x47 _ (by omega) (by omega), n10, x127, x5, x6, x0.1, x0.2]
      refine ⟨b1, b2, ?_⟩
      rcases b3 with b3 | ⟨b4, b5 | ⟨b5, b6, b7⟩⟩
      · exact Or.inl b3
      · exact Or.inr ⟨b4, Or.inl b5⟩
      · exact Or.inr ⟨b4, Or.inr ⟨b5, by omega, by rw [hlt _ (by omega), hlt _ kf]; exact b7⟩⟩
/-- leaves behind the BRANCH in hand ahead are behind this FORK -/
def z_F (X : g_I) (b : Nat) (dep f : Int) : Prop := ∀ s : Int, 0 ≤ s → s < X b 0 → 0 < dep → dep - 1 < X (b + 14) s → X (b + 16 + s.toNat) (dep - 1) = X 545 (dep - 1) → X (b + 29 + s.toNat) (dep - 1) = X 546 (dep - 1) → dep < X (b + 14) s ∧ X (b + 16 + s.toNat) dep = f
theorem z_S3 {X X' N N' : g_I} {b : Nat} {dep f r : Int} {lv : Int → Int} (hb : g_life b) (hZ : z_Z X b N dep f r lv) (hf1 : 0 ≤ f ∧ f < X b 1) (hr1 : 0 ≤ r ∧ r < 4) (hd : dep ≤ 5) (hlv : lv f = dep) (hPf : ∀ i : Int, 0 ≤ i → i < dep → X 545 i < f) (hd0 : dep = 0 → f = 0) (hF : z_F X b dep f) (hc : X b 1 ≤ X b 0 + dep + 1)
    (hA : N 709 ((3 * 18 + f) * 5 + 3) = if dep = 0 then -1 else X 545 (dep - 1)) (hB : N 709 ((3 * 18 + f) * 5 + 4) = if dep = 0 then -1 else X 546 (dep - 1))
    (xo : ∀ c : Nat, b ≤ c → c < b + 128 → c ≠ b + 43 → c ≠ b + 47 + (f * 4 + r).toNat → X' c = X c) (x43 : ∀ j, X' (b + 43) j = if j = f then r + 1 else X (b + 43) j) (x5 : ∀ j : Int, j ≤ dep → X' 545 j = if j = dep then f else X 545 j) (x6 : ∀ j : Int, j ≤ dep → X' 546 j = if j = dep then r else X 546 j)
    (ht : (1 ≤ X' (b + 47 + (f * 4 + r).toNat) 0 ∧ X' (b + 47 + (f * 4 + r).toNat) 0 ≤ 9) ∧ (0 ≤ X' (b + 47 + (f * 4 + r).toNat) 1 ∧ X' (b + 47 + (f * 4 + r).toNat) 1 ≤ 99) ∧ (0 ≤ X' (b + 47 + (f * 4 + r).toNat) 2 ∧ X' (b + 47 + (f * 4 + r).toNat) 2 ≤ 99) ∧ (0 ≤ X' (b + 47 + (f * 4 + r).toNat) 3 ∧ X' (b + 47 + (f * 4 + r).toNat) 3 ≤ 99) ∧ -1 ≤ X' (b + 47 + (f * 4 + r).toNat) 4 ∧ X' (b + 47 + (f * 4 + r).toNat) 4 ≤ 9)
    (n8 : N' 708 = N 708) (n9 : N' 709 = N 709) (n10 : ∀ j : Int, ¬ (((3 * 18 + f) * 4 + r) * 6 ≤ j ∧ j < ((3 * 18 + f) * 4 + r) * 6 + 5) → N' 710 j = N 710 j) (n10v : ∀ c : Int, 0 ≤ c → c < 5 → N' 710 (((3 * 18 + f) * 4 + r) * 6 + c) = X' (b + 47 + (f * 4 + r).toNat) c) (n11 : N' 711 = N 711) (n12 : N' 712 = N 712) :
    z_Z X' b N' (dep + 1) (-1) 0 lv ∧ z_E X' b (dep + 1) ∧ z_old X X' b := by
  obtain ⟨⟨g1, g2, g3, g4, g5, g6⟩, hp, hl, hf⟩ := id hZ
  have hfk : ∀ g : Int, 0 ≤ g → g < X b 1 → z_eb X b f r g ≤ 4 := fun g a c => (hf g a c).2.2.2.1.2
  have x0 : X' b = X b := xo _ (by omega) (by omega) (by omega) (by omega)
  have x14 : X' (b + 14) = X (b + 14) := xo _ (by omega) (by omega) (by omega) (by omega)
  have x41 : X' (b + 41) = X (b + 41) := xo _ (by omega) (by omega) (by omega) (by omega)
  have x42 : X' (b + 42) = X (b + 42) := xo _ (by omega) (by omega) (by omega) (by omega)
  have x44 : X' (b + 44) = X (b + 44) := xo _ (by omega) (by omega) (by omega) (by omega)
  have x45 : X' (b + 45) = X (b + 45) := xo _ (by omega) (by omega) (by omega) (by omega)
  have x127 : X' (b + 127) = X (b + 127) := xo _ (by omega) (by omega) (by omega) (by omega)
  have x47 : ∀ p : Int, 0 ≤ p → p < 80 → ¬ p = f * 4 + r → X' (b + 47 + p.toNat) = X (b + 47 + p.toNat) := fun p p0 p1 p2 => xo _ (by omega) (by omega) (by omega) (by omega)
  have hold : z_old X X' b := fun t t0 t1 => ⟨by rw [x14], xo _ (by omega) (by omega) (by omega) (by omega), xo _ (by omega) (by omega) (by omega) (by omega)⟩
  have xp5 : ∀ i : Int, i < dep → X' 545 i = X 545 i := fun i hi => by rw [x5 i (by omega), if_neg (by omega)]
  have xp6 : ∀ i : Int, i < dep → X' 546 i = X 546 i := fun i hi => by rw [x6 i (by omega), if_neg (by omega)]
  have xd5 : X' 545 dep = f := by rw [x5 dep (by omega), if_pos rfl]
  have xd6 : X' 546 dep = r := by rw [x6 dep (by omega), if_pos rfl]
  have hebf : z_eb X b f r f = r := if_pos rfl
  have hebf' : z_eb X' b (-1) 0 f = r + 1 := by unfold z_eb; rw [if_neg (by omega), x43, if_pos rfl]
  have hebo : ∀ g : Int, 0 ≤ g → ¬ g = f → z_eb X' b (-1) 0 g = z_eb X b f r g := fun g g0 g1 => by unfold z_eb; rw [if_neg (by omega), if_neg g1, x43, if_neg g1]
  refine ⟨⟨⟨by rw [x0]; exact g1, by rw [x0]; exact g2, by omega, by rw [n11, x0]; exact g4, by rw [n12, x0]; exact g5, by rw [x0]; exact g6⟩, fun i i0 i1 => ?_, fun s s0 s1 => ?_, fun g k0 k1 => ?_⟩, ⟨fun z => by omega, by rw [x0]; omega, fun s s0 s1 _ z => ?_⟩, hold⟩
  · by_cases e : i = dep
    · subst e
      rw [xd5, xd6, x0, x43, if_pos rfl, n9, hA, hB]
      refine ⟨hf1, ⟨hr1.1, hr1.2, rfl⟩, hlv, ?_, ?_, hd0, fun z => by omega⟩
      · by_cases z : i = 0
        · rw [if_pos z, if_pos z]
        · rw [if_neg z, if_neg z, xp5 _ (by omega)]
      · by_cases z : i = 0
        · rw [if_pos z, if_pos z]
        · rw [if_neg z, if_neg z, xp6 _ (by omega)]
    · obtain ⟨p1, p2, p3, p4, p5, p6, p7⟩ := hp i i0 (by omega)
      have hlt := hPf i i0 (by omega)
      rw [xp5 i (by omega), xp6 i (by omega), xp5 (i - 1) (by omega), xp6 (i - 1) (by omega), x0, x43, if_neg (by omega), n9]
      refine ⟨p1, p2, p3, p4, p5, p6, fun z => ?_⟩
      by_cases y : i + 1 = dep
      · rw [y, xd5]; exact hlt
      · rw [xp5 (i + 1) (by omega)]; exact p7 (by omega)
  · rw [x0] at s1
    obtain ⟨o1, o2, o3⟩ := hold s s0 s1
    have oA : X' (b + 2 + s.toNat) = X (b + 2 + s.toNat) := xo _ (by omega) (by omega) (by omega) (by omega)
    obtain ⟨l1, l2, l3, l4, l5, l6⟩ := hl s s0 s1
    have hwv : ∀ i : Int, 0 ≤ i → i < X (b + 14) s → (¬ X (b + 16 + s.toNat) i * 4 + X (b + 29 + s.toNat) i = f * 4 + r) ∧ X (b + 29 + s.toNat) i < 4 ∧ X (b + 29 + s.toNat) i < z_eb X' b (-1) 0 (X (b + 16 + s.toNat) i) := fun i i0 i1 => by
      obtain ⟨w1, w2, -, -⟩ := l4 i i0 i1
      have := hfk _ w1.1 w1.2
      refine ⟨fun z => ?_, by omega, ?_⟩
      · have e : X (b + 16 + s.toNat) i = f := by omega
        rw [e, hebf] at w2
        omega
      · by_cases e : X (b + 16 + s.toNat) i = f
        · rw [e, hebf]  at w2
          rw [e, hebf']
          omega
        · rw [hebo _ w1.1 e]; exact w2.2
    refine ⟨by rw [o1]; exact l1, by rw [x0, o1, o2]; exact l2, by rw [o1, o2]; exact l3, fun i i0 i1 => ?_, by rw [oA]; exact l5, z_sl_cg (fun i i0 i1 => ?_) oA o1 o2 o3 (fun j j0 j1 => by rw [n8]) l1.1 l6⟩
    · rw [o1] at i1
      obtain ⟨w1, w2, w3, w4⟩ := l4 i i0 i1
      obtain ⟨-, -, v3⟩ := hwv i i0 i1
      unfold z_lw
      rw [o1, o2, o3, x0, x127]
      refine ⟨w1, ⟨w2.1, v3⟩, w3, ?_⟩
      rcases w4 with w4 | ⟨w5, w6, w7, w8⟩
      · exact Or.inl w4
      · refine Or.inr ⟨by omega, by rw [xp5 i w5]; exact w6, by rw [xp6 i w5]; exact w7, fun z => ?_⟩
        by_cases y : i + 1 = dep
        · have hi : i = dep - 1 := by omega
          rw [y, xd5]
          rw [hi] at w6 w7
          exact hF s s0 s1 (by omega) (by omega) w6 w7
        · rw [xp5 (i + 1) (by omega)]; exact w8 (by omega)
    · obtain ⟨w1, w2, -, -⟩ := l4 i i0 i1
      obtain ⟨v1, v2, -⟩ := hwv i i0 i1
      exact ⟨x47 _ (by omega) (by omega) v1, by rw [n9], by rw [n9]⟩
  · rw [x0] at k1
    obtain ⟨k1', k2, k3, k4, k5, k6, k7⟩ := hf g k0 k1
    have hor : g_ors (fun s => if q_on X' b s g = true then g_shl 1 s else 0) (X' b 0).toNat = g_ors (fun s => if q_on X b s g = true then g_shl 1 s else 0) (X b 0).toNat := by
      rw [x0]
      exact g_ors_cg _ (fun t t0 t1 => by
        obtain ⟨o1, o2, -⟩ := hold t t0 (by omega)
        rw [z_on_cg o1 o2])
    have hbr : ∀ r' : Int, 0 ≤ r' → r' < 4 → ¬ (g = f ∧ r' = r) → z_br X b N dep lv g r' → z_br X' b N' (dep + 1) lv g r' := fun r' a c hne ⟨b1, b2, b3⟩ => by
      have hp9 : ¬ g * 4 + r' = f * 4 + r := fun z => hne (by omega)
      unfold z_br
      rw [x47 _ (by omega) (by omega) hp9, x127, x0, n10 _ (by omega)]
      refine ⟨b1, fun c9 c0 c1 => by rw [n10 _ (by omega)]; exact b2 c9 c0 c1, ?_⟩
      rcases b3 with ⟨i, i0, i1, i2, i3⟩ | b3
      · exact Or.inl ⟨i, i0, by omega, by rw [xp5 i i1]; exact i2, by rw [xp6 i i1]; exact i3⟩
      · exact Or.inr b3
    unfold z_fork
    rw [x41, x42, x44, x45, hor, n9]
    by_cases e : g = f
    · subst e
      rw [hebf'] 
      refine ⟨k1', k2, k3, by omega, fun _ z2 => absurd xd5.symm (z2 dep (by omega) (by omega)), fun r' a c => ?_, k7⟩
      by_cases y : r' = r
      · subst y
        unfold z_br
        exact ⟨ht, n10v, Or.inl ⟨dep, by omega, by omega, xd5.symm, xd6.symm⟩⟩
      · exact hbr r' a (by omega) (fun z => y z.2) (k6 r' a (by rw [hebf]; omega))
    · rw [hebo g k0 e]
      refine ⟨k1', k2, k3, k4, fun _ z2 => ?_, fun r' a c => hbr r' a (by omega) (fun z => e z.1) (k6 r' a c), k7⟩
      have := k5 e (fun i i0 i1 => by have := z2 i i0 (by omega); rwa [xp5 i i1] at this)
      rw [x43, if_neg e]
      exact this
  · rw [x0] at s1
    obtain ⟨o1, o2, o3⟩ := hold s s0 s1
    rw [show dep + 1 - 1 = dep by omega, o1, o2, o3, xd5, xd6] at z
    obtain ⟨z1, z2, z3⟩ := z
    have w2 := ((hl s s0 s1).2.2.2.1 dep (by omega) z1).2.1
    rw [z2, hebf] at w2
    omega
