/-! ===== a leaf is read ===== -/
theorem z_row {b : Nat} {M : g_I} {s : Int} (hb : g_life b) (hs : 0 ≤ s ∧ s < 12) : (∀ k : Nat, k ≠ b + 2 + s.toNat → m_row b s M k = M k) ∧ m_row b s M (b + 2 + s.toNat) 0 = M 540 0 ∧ m_row b s M (b + 2 + s.toNat) 1 = M 540 1 ∧ m_row b s M (b + 2 + s.toNat) 2 = 0 ∧ m_row b s M (b + 2 + s.toNat) 3 = M 540 2 ∧ m_row b s M (b + 2 + s.toNat) 4 = M 540 3 ∧ m_row b s M (b + 2 + s.toNat) 5 = M 540 4 ∧ m_row b s M (b + 2 + s.toNat) 6 = 0 := by
  unfold g_life at hb
  obtain ⟨A, hA⟩ : ∃ A, A = b + 2 + s.toNat := ⟨_, rfl⟩
  unfold m_row m_r0 m_r1
  rw [← hA]
  have d : (540 : Nat) ≠ A := by omega
  refine ⟨fun k hk => ?_, ?_, ?_, ?_, ?_, ?_, ?_, ?_⟩
  · funext j; rw [g_up_k hk, g_up_k hk, g_up_k hk, g_up_k hk, g_up_k hk, g_up_k hk, g_up_k hk]
  · rw [g_up_i (by decide), g_up_i (by decide), g_up_i (by decide), g_up_i (by decide), g_up_i (by decide), g_up_i (by decide), g_up_s]
  · rw [g_up_i (by decide), g_up_i (by decide), g_up_i (by decide), g_up_i (by decide), g_up_i (by decide), g_up_s, g_up_k d]
  · rw [g_up_i (by decide), g_up_i (by decide), g_up_i (by decide), g_up_i (by decide), g_up_s]
  · rw [g_up_i (by decide), g_up_i (by decide), g_up_i (by decide), g_up_s, g_up_k d, g_up_k d, g_up_k d]
  · rw [g_up_i (by decide), g_up_i (by decide), g_up_s, g_up_k d, g_up_k d, g_up_k d, g_up_k d]
  · rw [g_up_i (by decide), g_up_s, g_up_k d, g_up_k d, g_up_k d, g_up_k d, g_up_k d]
  · rw [g_up_s]
theorem z_S1 {X X1 X' N N' : g_I} {b : Nat} {dep s : Int} {lv : Int → Int} (hb : g_life b) (hZ : z_Z X b N dep (-1) 0 lv) (hE : z_E X b dep) (hs : s = X b 0) (hnl : X b 0 < 12) (hk1 : ∀ k : Nat, b ≤ k → k < b + 128 → X1 k = X k) (h5 : X1 545 = X 545) (h6 : X1 546 = X 546) (hP : ∀ i : Int, 0 ≤ X 545 i ∧ X 545 i < 20) (hQ : ∀ i : Int, 0 ≤ X 546 i ∧ X 546 i < 4)
    (ht : (0 ≤ X1 540 0 ∧ X1 540 0 ≤ 99) ∧ (0 ≤ X1 540 1 ∧ X1 540 1 ≤ 99) ∧ (1 ≤ X1 540 2 ∧ X1 540 2 ≤ 99) ∧ (0 ≤ X1 540 3 ∧ X1 540 3 ≤ 1) ∧ 0 ≤ X1 540 4 ∧ X1 540 4 ≤ 9) (hX' : X' = m_lf2 b dep s X1)
    (n8 : ∀ j : Int, ¬ ((3 * 12 + s) * 7 ≤ j ∧ j < (3 * 12 + s) * 7 + 7) → N' 708 j = N 708 j) (n8v : ∀ j : Int, 0 ≤ j → j < 5 → N' 708 ((3 * 12 + s) * 7 + j) = X1 540 j) (n85 : N' 708 ((3 * 12 + s) * 7 + 5) = if dep = 0 then -1 else X 545 (dep - 1)) (n86 : N' 708 ((3 * 12 + s) * 7 + 6) = if dep = 0 then -1 else X 546 (dep - 1)) (n9 : N' 709 = N 709) (n10 : N' 710 = N 710) (n11 : N' 711 3 = s + 1) (n12 : N' 712 3 = X b 1) :
    z_Z X' b N' dep (-1) 0 lv ∧ z_old X X' b ∧ z_new X X' b dep lv s := by
  have hb5 := hb
  unfold g_life at hb5
  obtain ⟨⟨g1, g2, g3, g4, g5, g6⟩, hp, hl, hf⟩ := id hZ
  obtain ⟨E1, E2, E3⟩ := hE
  have hs12 : 0 ≤ s ∧ s < 12 := by omega
  obtain ⟨r1, r2, r3, r4, r5, r6, r7, r8⟩ := z_row (M := g_up X1 b 0 (s + 1)) hb hs12
  have q5 : g_up X1 b 0 (s + 1) 540 = X1 540 := by funext j; exact g_up_k (by omega)
  rw [q5] at r2 r3 r5 r6 r7
  obtain ⟨M0, hM0⟩ : ∃ Z, Z = g_up (m_row b s (g_up X1 b 0 (s + 1))) (b + 14) s dep := ⟨_, rfl⟩
  have hX2 : X' = m_sts b s dep.toNat M0 := by rw [hX', hM0]; rfl
  have mA : M0 (b + 2 + s.toNat) = m_row b s (g_up X1 b 0 (s + 1)) (b + 2 + s.toNat) := by funext j; rw [hM0, g_up_k (by omega)]
  have mo : ∀ k : Nat, b ≤ k → k < b + 128 → k ≠ b → k ≠ b + 14 → k ≠ b + 2 + s.toNat → M0 k = X k := fun k k0 k1 k2 k3 k4 => by funext j; rw [hM0, g_up_k k3, r1 k k4, g_up_k k2, hk1 k k0 k1]
  have m5 : M0 545 = X 545 := by funext j; rw [hM0, g_up_k (by omega), r1 545 (by omega), g_up_k (by omega), h5]
  have m6 : M0 546 = X 546 := by funext j; rw [hM0, g_up_k (by omega), r1 546 (by omega), g_up_k (by omega), h6]
  have m14 : ∀ j, M0 (b + 14) j = if j = s then dep else X (b + 14) j := fun j => by
    rw [hM0]
    by_cases z : j = s
    · rw [if_pos z, z, g_up_s]
    · rw [if_neg z, g_up_i z, r1 _ (by omega), g_up_k (by omega), hk1 _ (by omega) (by omega)]
  have mb : M0 b 0 = s + 1 ∧ M0 b 1 = X b 1 := by
    have : ∀ j, M0 b j = g_up X1 b 0 (s + 1) b j := fun j => by rw [hM0, g_up_k (by omega), r1 b (by omega)]
    exact ⟨by rw [this, g_up_s], by rw [this, g_up_i (by decide), hk1 b (by omega) (by omega)]⟩
  rw [← mA] at r2 r3 r4 r5 r6 r7 r8
  clear hM0 mA q5 r1 hX'
  have hnf : X b 1 ≤ 18 := g2.2
  -- ITEMS on the path
  have hit : ∀ i : Int, 0 ≤ i → i < dep → X (b + 47 + (X 545 i * 4 + X 546 i).toNat) = M0 (b + 47 + (X 545 i * 4 + X 546 i).toNat) ∧ (0 ≤ X (b + 47 + (X 545 i * 4 + X 546 i).toNat) 1 ∧ X (b + 47 + (X 545 i * 4 + X 546 i).toNat) 1 ≤ 99) ∧ (0 ≤ X (b + 47 + (X 545 i * 4 + X 546 i).toNat) 2 ∧ X (b + 47 + (X 545 i * 4 + X 546 i).toNat) 2 ≤ 99) ∧ 0 ≤ X (b + 47 + (X 545 i * 4 + X 546 i).toNat) 3 ∧ X (b + 47 + (X 545 i * 4 + X 546 i).toNat) 3 ≤ 99 := fun i i0 i1 => by
    obtain ⟨p1, p2, -⟩ := hp i i0 i1
    obtain ⟨-, -, -, k4, -, k6, -⟩ := hf (X 545 i) p1.1 p1.2
    have heb : z_eb X b (-1) 0 (X 545 i) = X 546 i + 1 := by unfold z_eb; rw [if_neg (by omega)]; exact p2.2.2
    obtain ⟨⟨-, t1, t2, t3, -⟩, -, -⟩ := k6 (X 546 i) p2.1 (by omega)
    exact ⟨(mo _ (by omega) (by omega) (by omega) (by omega) (by omega)).symm, t1, t2, t3⟩
  have hz := z_sts (M := M0) (s := s) hb hs12 (by rw [m5]; exact hP) (by rw [m6]; exact hQ) dep.toNat (by omega) (fun i i0 i1 => by
      rw [m5, m6]
      obtain ⟨e, t1, t2, t3⟩ := hit i i0 (by omega)
      rw [← e]; exact ⟨t1, t2, t3⟩) (by rw [r2]; exact ht.1) (by rw [r3]; exact ht.2.1) r4 r8 (fun i i0 i1 => by rw [m5]; exact (hp i i0 (by omega)).2.2.2.2.2.2 (by omega))
  rw [← hX2, m5, m6] at hz
  obtain ⟨c1, c2, c3, c4, c5, c6, c7, c8⟩ := hz
  rw [show ((dep.toNat : Nat) : Int) = dep by omega] at c2 c3
  have xo : ∀ k : Nat, b ≤ k → k < b + 128 → k ≠ b → k ≠ b + 14 → k ≠ b + 2 + s.toNat → k ≠ b + 16 + s.toNat → k ≠ b + 29 + s.toNat → k ≠ b + 45 → X' k = X k := fun k k0 k1 k2 k3 k4 k5 k6 k7 => (c1 k k4 k5 k6 k7).trans (mo k k0 k1 k2 k3 k4)
  have x5 : X' 545 = X 545 := (c1 545 (by omega) (by omega) (by omega) (by omega)).trans m5
  have x6 : X' 546 = X 546 := (c1 546 (by omega) (by omega) (by omega) (by omega)).trans m6
  have xb : X' b 0 = s + 1 ∧ X' b 1 = X b 1 := by rw [c1 b (by omega) (by omega) (by omega) (by omega)]; exact mb
  have x14 : ∀ j, X' (b + 14) j = if j = s then dep else X (b + 14) j := fun j => by rw [c1 (b + 14) (by omega) (by omega) (by omega) (by omega)]; exact m14 j
  have x127 : X' (b + 127) = X (b + 127) := xo _ (by omega) (by omega) (by omega) (by omega) (by omega) (by omega) (by omega) (by omega)
  have x43 : X' (b + 43) = X (b + 43) := xo _ (by omega) (by omega) (by omega) (by omega) (by omega) (by omega) (by omega) (by omega)
  have x41 : X' (b + 41) = X (b + 41) := xo _ (by omega) (by omega) (by omega) (by omega) (by omega) (by omega) (by omega) (by omega)
  have x42 : X' (b + 42) = X (b + 42) := xo _ (by omega) (by omega) (by omega) (by omega) (by omega) (by omega) (by omega) (by omega)
  have x44 : X' (b + 44) = X (b + 44) := xo _ (by omega) (by omega) (by omega) (by omega) (by omega) (by omega) (by omega) (by omega)
  have xeb : ∀ f, z_eb X' b (-1) 0 f = z_eb X b (-1) 0 f := fun f => by unfold z_eb; rw [x43]
  have x47 : ∀ p : Int, 0 ≤ p → p < 80 → X' (b + 47 + p.toNat) = X (b + 47 + p.toNat) := fun p p0 p1 => xo _ (by omega) (by omega) (by omega) (by omega) (by omega) (by omega) (by omega) (by omega)
  have hold : z_old X X' b := fun t t0 t1 => ⟨by rw [x14, if_neg (by omega)], xo _ (by omega) (by omega) (by omega) (by omega) (by omega) (by omega) (by omega) (by omega), xo _ (by omega) (by omega) (by omega) (by omega) (by omega) (by omega) (by omega) (by omega)⟩
  have hst : X' (b + 14) s = dep := by rw [x14, if_pos rfl]
  refine ⟨⟨⟨by omega, by omega, g3, by rw [n11, xb.1], by rw [n12, xb.2], by rw [xb.2]; exact g6⟩, fun i i0 i1 => ?_, fun t t0 t1 => ?_, fun f f0 f1 => ?_⟩, hold, fun t t0 t1 => ?_, by omega, by omega, Or.inl ⟨hs, xb.2⟩⟩
  · rw [x5, x6, xb.2, x43, n9]; exact hp i i0 i1
  · rw [xb.1] at t1
    by_cases e : t = s
    · subst e
      refine ⟨by rw [hst]; exact g3, fun z => ?_, fun i i0 i1 => ?_, fun i i0 i1 => ?_, ⟨?_, ?_, ?_⟩, ?_⟩
      · rw [xb.2] at z
        rw [hst]
        have hd : ¬ dep = 0 := fun y => by have := (E1 y).2; omega
        refine ⟨by omega, ?_⟩
        rw [(c2 0 (by omega) (by omega)).1]
        exact (hp 0 (by omega) (by omega)).2.2.2.2.2.1 rfl
      · rw [hst] at i1
        rw [(c2 i i0 (by omega)).1, (c2 (i + 1) (by omega) i1).1]
        exact (hp i i0 (by omega)).2.2.2.2.2.2 i1
      · rw [hst] at i1
        obtain ⟨p1, p2, p3, p4, p5, p6, p7⟩ := hp i i0 i1
        obtain ⟨w1, w2⟩ := c2 i i0 i1
        unfold z_lw
        rw [w1, w2, xb.2, hst, x5, x6, xeb]
        refine ⟨p1, ⟨p2.1, ?_⟩, p3, Or.inr ⟨i1, rfl, rfl, fun z => ⟨z, (c2 (i + 1) (by omega) z).1⟩⟩⟩
        unfold z_eb
        rw [if_neg (by omega)]
        omega
      · rw [c8 3 (by decide) (by decide), r5]; exact ht.2.2.1
      · rw [c8 4 (by decide) (by decide), r6]; exact ht.2.2.2.1
      · rw [c8 5 (by decide) (by decide), r7]; exact ht.2.2.2.2
      · have n80 : N' 708 ((3 * 12 + t) * 7) = X1 540 0 := by have := n8v 0 (by omega) (by omega); rwa [Int.add_zero] at this
        have hqi : ∀ i c : Int, 0 ≤ i → i < dep → q_it X' b t i c = M0 (b + 47 + (X 545 i * 4 + X 546 i).toNat) c := fun i c i0 i1 => by
          obtain ⟨p1, p2, -⟩ := hp i i0 i1
          show X' (b + 47 + (X' (b + 16 + t.toNat) i * 4 + X' (b + 29 + t.toNat) i).toNat) c = _
          rw [(c2 i i0 i1).1, (c2 i i0 i1).2, x47 _ (by omega) (by omega), (hit i i0 i1).1]
        unfold q_sl
        rw [hst, n8v 1 (by omega) (by omega), n8v 2 (by omega) (by omega), n8v 3 (by omega) (by omega), n8v 4 (by omega) (by omega), n80, n85, n86, c8 3 (by decide) (by decide), c8 4 (by decide) (by decide), c8 5 (by decide) (by decide), r5, r6, r7, c4, c5, c6, c7, r2, r3]
        refine ⟨⟨rfl, rfl, rfl, ?_, ?_⟩, ⟨ht.1.1, ht.1.2, ?_⟩, ⟨ht.2.1.1, ht.2.1.2, ?_⟩, ?_, ?_, fun i i0 i1 => ?_⟩
        · unfold q_pf
          by_cases z : dep = 0
          · rw [if_pos z, if_pos z]
          · rw [if_neg z, if_neg z, (c2 (dep - 1) (by omega) (by omega)).1]
        · unfold q_pr
          by_cases z : dep = 0
          · rw [if_pos z, if_pos z]
          · rw [if_neg z, if_neg z, (c2 (dep - 1) (by omega) (by omega)).2]
        · rw [x_sum_eq dep.toNat (fun i i0 i1 => hqi i 1 i0 (by omega))]
        · rw [x_sum_eq dep.toNat (fun i i0 i1 => hqi i 2 i0 (by omega))]
        · exact (x_sum_eq dep.toNat (fun i i0 i1 => hqi i 3 i0 (by omega))).symm
        · exact g_ors_cg dep.toNat (fun i i0 i1 => by rw [hqi i 4 i0 (by omega)])
        · obtain ⟨-, -, -, p4, p5, -⟩ := hp i i0 i1
          rw [(c2 i i0 i1).1, n9, p4, p5]
          unfold q_pf q_pr
          by_cases z : i = 0
          · rw [if_pos z, if_pos z, if_pos z, if_pos z]; exact ⟨rfl, rfl⟩
          · rw [if_neg z, if_neg z, if_neg z, if_neg z, (c2 (i - 1) (by omega) (by omega)).1, (c2 (i - 1) (by omega) (by omega)).2]; exact ⟨rfl, rfl⟩
    · have t2 : t < X b 0 := by omega
      obtain ⟨o1, o2, o3⟩ := hold t t0 t2
      have oA : X' (b + 2 + t.toNat) = X (b + 2 + t.toNat) := xo _ (by omega) (by omega) (by omega) (by omega) (by omega) (by omega) (by omega) (by omega)
      obtain ⟨l1, l2, l3, l4, l5, l6⟩ := hl t t0 t2
      refine ⟨by rw [o1]; exact l1, by rw [xb.2, o1, o2]; exact l2, by rw [o1, o2]; exact l3, fun i i0 i1 => ?_, by rw [oA]; exact l5, z_sl_cg (fun i i0 i1 => ⟨?_, by rw [n9], by rw [n9]⟩) oA o1 o2 o3 (fun j j0 j1 => n8 _ (by omega)) l1.1 l6⟩
      · rw [o1] at i1
        have := l4 i i0 i1
        unfold z_lw at this ⊢
        rw [o1, o2, o3, xb.2, x127, x5, x6, xeb]
        exact this
      · obtain ⟨w1, w2, -, -⟩ := l4 i i0 i1
        have hfk := (hf _ w1.1 w1.2).2.2.2.1
        exact x47 _ (by omega) (by omega)
  · rw [xb.2] at f1
    obtain ⟨k1, k2, k3, k4, k5, k6, k7⟩ := hf f f0 f1
    unfold z_fork
    rw [x41, x42, x43, x44, n9, xeb]
    refine ⟨k1, k2, k3, k4, fun z1 z2 => k5 z1 (by rw [x5] at z2; exact z2), fun r r0 r1 => ?_, ?_⟩
    · obtain ⟨b1, b2, b3⟩ := k6 r r0 r1
      unfold z_br
      rw [x47 _ (by omega) (by omega), n10, x127, x5, x6, xb.1, xb.2]
      refine ⟨b1, b2, ?_⟩
      rcases b3 with b3 | ⟨b4, b5 | b5⟩
      · exact Or.inl b3
      · exact Or.inr ⟨b4, Or.inl ⟨b5.1, by omega⟩⟩
      · exact Or.inr ⟨b4, Or.inr b5⟩
    · rw [xb.1, show (s + 1).toNat = s.toNat + 1 by omega, g_ors, show ((s.toNat : Nat) : Int) = s by omega]
      have ho : g_ors (fun t => if q_on X' b t f = true then g_shl 1 t else 0) s.toNat = X (b + 45) f := by
        rw [k7, hs]
        exact (g_ors_cg _ (fun t t0 t1 => by
          obtain ⟨o1, o2, -⟩ := hold t t0 (by omega)
          rw [z_on_cg o1 o2])).symm
      have x45 : M0 (b + 45) f = X (b + 45) f := by rw [mo _ (by omega) (by omega) (by omega) (by omega) (by omega)]
      have g45 : g32 (X (b + 45) f) := by rw [k7]; exact g_ors32
      rw [ho]
      by_cases z : q_on X' b s f = true
      · rw [if_pos z, (c3 f).1 ?_, x45]
        obtain ⟨i, i0, i1, i2⟩ := q_on_iff.mp z
        rw [hst] at i1
        rw [(c2 i i0 i1).1] at i2
        exact ⟨i, i0, i1, i2⟩
      · rw [if_neg z, (c3 f).2 (fun ⟨i, i0, i1, i2⟩ => z (q_on_iff.mpr ⟨i, i0, by rw [hst]; exact i1, by rw [(c2 i i0 i1).1]; exact i2⟩)), x45]
        exact (g_or_0 g45).symm
  · rw [xb.1] at t1
    have e : t = s := by omega
    subst e
    exact ⟨by omega, fun i i0 i1 => c2 i i0 i1, Or.inl ⟨by omega, rfl, hst⟩⟩
