/-! ===== BRANCHES one behind the other ===== -/
/-- as the next BRANCH of FORK f begins, m behind it -/
def z_lp (X Xm : g_I) (b : Nat) (Nm : g_I) (n dep f m : Int) (lv lm : Int → Int) : Prop :=
  l_ok b Xm ∧ (Xm 1 1 = n ∧ Xm 2 = X 2 ∧ Xm 1 3 = -1) ∧ z_Z Xm b Nm dep f m lm ∧ (∀ g : Int, g < X b 1 → lm g = lv g) ∧ z_old X Xm b ∧ (∀ i : Int, i < dep → Xm 545 i = X 545 i ∧ Xm 546 i = X 546 i) ∧ z_F Xm b dep f ∧
  (∀ s : Int, X b 0 ≤ s → s < Xm b 0 → (∀ i : Int, 0 ≤ i → i < dep → Xm (b + 16 + s.toNat) i = X 545 i ∧ Xm (b + 29 + s.toNat) i = X 546 i) ∧ dep < Xm (b + 14) s ∧ Xm (b + 16 + s.toNat) dep = f) ∧
  (X b 0 ≤ Xm b 0 ∧ X b 1 ≤ Xm b 1 ∧ Xm b 1 - X b 1 ≤ Xm b 0 - X b 0 - m) ∧
  Nm 709 ((3 * 18 + f) * 5 + 3) = (if dep = 0 then -1 else X 545 (dep - 1)) ∧ Nm 709 ((3 * 18 + f) * 5 + 4) = (if dep = 0 then -1 else X 546 (dep - 1))
/-- what stands as FORK f is begun -/
def z_bg (X : g_I) (b : Nat) (dep f : Int) (lv : Int → Int) : Prop := (0 ≤ f ∧ f < X b 1) ∧ lv f = dep ∧ (∀ i : Int, 0 ≤ i → i < dep → X 545 i < f) ∧ (dep = 0 → f = 0) ∧ X b 1 ≤ X b 0 + dep + 1 ∧ 0 ≤ X b 0
theorem z_I1 {X Xm Y X2 Nm Ni : g_I} {b : Nat} {n dep f m p : Int} {lv lm : Int → Int} (hb : g_life b) (hd : 0 ≤ dep ∧ dep ≤ 5) (hm : 0 ≤ m ∧ m < 4) (hg : z_bg X b dep f lv) (h : z_lp X Xm b Nm n dep f m lv lm) (hp : p = f * 4 + m) (hY : Y = m_items 544 5 2 6 7 8 (m_path b dep f m Xm)) (hq : Y 1 3 = -1) (hX2 : X2 = m_br2 b p Y)
    (n10 : ∀ (k : Nat) (j : Int), ¬ (k = 710 ∧ ((3 * 18 + f) * 4 + m) * 6 ≤ j ∧ j < ((3 * 18 + f) * 4 + m) * 6 + 5) → Ni k j = Nm k j) (n10v : ∀ c : Int, 0 ≤ c → c < 5 → Ni 710 (((3 * 18 + f) * 4 + m) * 6 + c) = Y 544 c) :
    z_Z X2 b Ni (dep + 1) (-1) 0 lm ∧ z_E X2 b (dep + 1) ∧ z_old Xm X2 b ∧ (X2 b 0 = Xm b 0 ∧ X2 b 1 = Xm b 1) ∧ X2 545 dep = f ∧ X2 546 dep = m ∧ ∀ i : Int, i < dep → X2 545 i = Xm 545 i ∧ X2 546 i = Xm 546 i := by
  have hb5 := hb
  unfold g_life at hb5
  obtain ⟨a1, ⟨a2, a3, a4⟩, a5, a6, a7, a8, a9, a10, a11, a12, a13⟩ := h
  obtain ⟨g1, g2, g3, g4, g5, g6⟩ := hg
  have hz0 := a5.1
  obtain ⟨P, hP⟩ : ∃ P, P = m_path b dep f m Xm := ⟨_, rfl⟩
  rw [← hP] at hY
  have hPok : l_ok b P := by rw [hP]; exact m_path_ok hb a1 ⟨g1.1, by omega⟩ hm
  have hr := z_rngB hb hPok (by rw [← hY]; exact hq)
  rw [← hY] at hr
  have Po : ∀ k : Nat, k ≠ b + 43 → k ≠ 545 → k ≠ 546 → P k = Xm k := fun k c1 c2 c3 => by rw [hP]; unfold m_path; funext j; rw [g_up_k c3, g_up_k c2, g_up_k c1]
  have P43 : ∀ j, P (b + 43) j = if j = f then m + 1 else Xm (b + 43) j := fun j => by
    rw [hP]; unfold m_path
    rw [g_up_k (by omega), g_up_k (by omega)]
    by_cases z : j = f
    · rw [if_pos z, z, g_up_s]
    · rw [if_neg z, g_up_i z]
  have P5 : ∀ j, P 545 j = if j = dep then f else Xm 545 j := fun j => by
    rw [hP]; unfold m_path
    rw [g_up_k (by decide)]
    by_cases z : j = dep
    · rw [if_pos z, z, g_up_s]
    · rw [if_neg z, g_up_i z, g_up_k (by omega)]
  have P6 : ∀ j, P 546 j = if j = dep then m else Xm 546 j := fun j => by
    rw [hP]; unfold m_path
    by_cases z : j = dep
    · rw [if_pos z, z, g_up_s]
    · rw [if_neg z, g_up_i z, g_up_k (by decide), g_up_k (by omega)]
  have Yo : ∀ k : Nat, k ≠ 1 → k ≠ 544 → Y k = P k := fun k c1 c2 => by rw [hY]; exact m_items_k c1 c2
  have Xo : ∀ k : Nat, k ≠ 1 → k ≠ b + 47 + p.toNat → X2 k = Y k := fun k c1 c2 => by
    rw [hX2]; unfold m_br2 m_wn
    rw [z_ts5 c1]; funext j; exact g_cpy_k c2
  have Xv : ∀ c : Int, 0 ≤ c → c < 5 → X2 (b + 47 + (f * 4 + m).toNat) c = Y 544 c := fun c c0 c1 => by
    rw [hX2, hp]; unfold m_br2 m_wn
    rw [z_ts5 (by omega), g_cpy_in (by omega) (by omega), show 0 + (c - 0) = c by omega]
  have X5 : ∀ j, X2 545 j = if j = dep then f else Xm 545 j := fun j => by rw [Xo 545 (by decide) (by omega), Yo 545 (by decide) (by decide)]; exact P5 j
  have X6 : ∀ j, X2 546 j = if j = dep then m else Xm 546 j := fun j => by rw [Xo 546 (by decide) (by omega), Yo 546 (by decide) (by decide)]; exact P6 j
  have Xb : X2 b = Xm b := by rw [Xo b (by omega) (by omega), Yo b (by omega) (by omega)]; exact Po b (by omega) (by omega) (by omega)
  have hN : ∀ k : Nat, k ≠ 710 → Ni k = Nm k := fun k hk => funext fun j => n10 k j (by omega)
  have hS := z_S3 (X := Xm) (X' := X2) (N := Nm) (N' := Ni) (r := m) hb a5 ⟨g1.1, by omega⟩ hm hd.2 (by rw [a6 f g1.2]; exact g2) (fun i i0 i1 => by rw [(a8 i i1).1]; exact g3 i i0 i1) g4 a9 (by omega)
    (by rw [a12]; by_cases z : dep = 0; rw [if_pos z, if_pos z]; rw [if_neg z, if_neg z, (a8 (dep - 1) (by omega)).1]) (by rw [a13]; by_cases z : dep = 0; rw [if_pos z, if_pos z]; rw [if_neg z, if_neg z, (a8 (dep - 1) (by omega)).2])
    (fun c c0 c1 c2 c3 => by rw [Xo c (by omega) (by omega), Yo c (by omega) (by omega)]; exact Po c (by omega) (by omega) (by omega))
    (fun j => by rw [Xo (b + 43) (by omega) (by omega), Yo (b + 43) (by omega) (by omega)]; exact P43 j) (fun j _ => X5 j) (fun j _ => X6 j)
    (by rw [Xv 0 (by decide) (by decide), Xv 1 (by decide) (by decide), Xv 2 (by decide) (by decide), Xv 3 (by decide) (by decide), Xv 4 (by decide) (by decide)]; exact hr)
    (hN 708 (by decide)) (hN 709 (by decide)) (fun j hj => n10 710 j (by omega)) (fun c c0 c1 => by rw [Xv c c0 c1]; exact n10v c c0 c1) (hN 711 (by decide)) (hN 712 (by decide))
  exact ⟨hS.1, hS.2.1, hS.2.2, ⟨by rw [Xb], by rw [Xb]⟩, by rw [X5, if_pos rfl], by rw [X6, if_pos rfl], fun i hi => ⟨by rw [X5, if_neg (by omega)], by rw [X6, if_neg (by omega)]⟩⟩
theorem z_I2 {X Xm X2 X3 X4 N3 N4 Ni Nm : g_I} {b : Nat} {n dep f m v : Int} {lv lm : Int → Int} (hb : g_life b) (hd : 0 ≤ dep ∧ dep ≤ 5) (hm : 0 ≤ m ∧ m < 4) (hg : z_bg X b dep f lv) (h : z_lp X Xm b Nm n dep f m lv lm)
    (hZ : z_Z X2 b Ni (dep + 1) (-1) 0 lm) (hE : z_E X2 b (dep + 1)) (ho : z_old Xm X2 b) (hx : X2 b 0 = Xm b 0 ∧ X2 b 1 = Xm b 1) (h5 : X2 545 dep = f) (h6 : X2 546 dep = m) (hp : ∀ i : Int, i < dep → X2 545 i = Xm 545 i ∧ X2 546 i = Xm 546 i)
    (hR : z_R X2 X3 b N3 (dep + 1) lm v) (hpp : z_PP (dep + 1) X2 X3) (h4 : X4 = g_up X3 (b + 127) (f * 4 + m) v) (hok : l_ok b X4) (ht : X4 1 1 = n ∧ X4 2 = X 2 ∧ X4 1 3 = -1)
    (hN4 : N4 = g_up N3 710 (((3 * 18 + f) * 4 + m) * 6 + 5) v) : ∃ lm' : Int → Int, z_lp X X4 b N4 n dep f (m + 1) lv lm' ∧ X4 (b + 43) f = m + 1 := by
  have hb5 := hb
  unfold g_life at hb5
  obtain ⟨a1, -, a5, a6, a7, a8, a9, a10, a11, a12, a13⟩ := h
  obtain ⟨g1, g2, g3, g4, g5, g6⟩ := hg
  obtain ⟨lm', e1, e2, e3, ⟨e4, e5, e6, e7⟩⟩ := hR
  obtain ⟨E1, E2, E3⟩ := hE
  have p5 : X3 545 dep = f := (hpp dep (by omega)).1.trans h5
  have p6 : X3 546 dep = m := (hpp dep (by omega)).2.trans h6
  have xo : ∀ c : Nat, c ≠ b + 127 → X4 c = X3 c := fun c hc => by rw [h4]; funext j; exact g_up_k hc
  have x0 : X4 b = X3 b := xo _ (by omega)
  have hfl : lm' f = dep := by rw [e1 f (by omega), a6 f g1.2]; exact g2
  have hle : X2 b 1 ≤ X3 b 1 := by omega
  have hpath := e2.2.1 dep hd.1 (by omega)
  rw [p5, p6] at hpath
  have hoX3 : ∀ s : Int, 0 ≤ s → s < Xm b 0 → X3 (b + 14) s = Xm (b + 14) s ∧ X3 (b + 16 + s.toNat) = Xm (b + 16 + s.toNat) ∧ X3 (b + 29 + s.toNat) = Xm (b + 29 + s.toNat) := fun s s0 s1 => by
    obtain ⟨q1, q2, q3⟩ := e3 s s0 (by omega)
    obtain ⟨r1, r2, r3⟩ := ho s s0 s1
    exact ⟨q1.trans r1, q2.trans r2, q3.trans r3⟩
  have hnw : ∀ s : Int, Xm b 0 ≤ s → s < X3 b 0 → (∀ i : Int, 0 ≤ i → i < dep → X3 (b + 16 + s.toNat) i = X 545 i ∧ X3 (b + 29 + s.toNat) i = X 546 i) ∧ dep < X3 (b + 14) s ∧ X3 (b + 16 + s.toNat) dep = f := fun s s0 s1 => by
    obtain ⟨q1, q2, -⟩ := e4 s (by omega) s1
    refine ⟨fun i i0 i1 => ?_, by omega, ?_⟩
    · obtain ⟨r1, r2⟩ := q2 i i0 (by omega)
      obtain ⟨t1, t2⟩ := hp i i1
      obtain ⟨u1, u2⟩ := a8 i i1
      exact ⟨r1.trans (t1.trans u1), r2.trans (t2.trans u2)⟩
    · exact (q2 dep hd.1 (by omega)).1.trans h5
  have hz3 := e2.1
  have hS := z_S4 (X := X3) (X' := X4) (N := N3) (N' := N4) (r := m) (v := v) hb e2 ⟨g1.1, by omega⟩ hm p5 p6 hd.1 hfl (by
      rcases e7 with ⟨z1, z2⟩ | ⟨z1, z2, z3⟩
      · exact Or.inl ⟨by omega, by omega⟩
      · refine Or.inr ⟨by omega, by omega, ?_⟩
        rw [z1, show 100 + X2 b 1 - 100 = X2 b 1 by omega]; exact z3) (fun s s0 s1 t1 t2 t3 => by
      by_cases y : s < X2 b 0
      · obtain ⟨q1, q2, q3⟩ := e3 s s0 y
        rw [q1] at t1
        rw [q2] at t2
        rw [q3] at t3
        exact absurd ⟨by rw [show dep + 1 - 1 = dep by omega]; exact t1, by rw [show dep + 1 - 1 = dep by omega, h5]; exact t2, by rw [show dep + 1 - 1 = dep by omega, h6]; exact t3⟩ (E3 s s0 y (by omega))
      · exact (e4 s (by omega) s1).2.2) h4 (by rw [hN4]; funext j; exact g_up_k (by decide)) (by rw [hN4]; funext j; exact g_up_k (by decide)) (fun j hj => by rw [hN4, g_up_i hj]) (by rw [hN4, g_up_s]) (by rw [hN4]; funext j; exact g_up_k (by decide)) (by rw [hN4]; funext j; exact g_up_k (by decide))
  have n9 : N4 709 = N3 709 := by rw [hN4]; funext j; exact g_up_k (by decide)
  refine ⟨lm', ⟨hok, ht, hS, fun g hg => (e1 g (by omega)).trans (a6 g hg), fun s s0 s1 => ?_, fun i hi => ?_, fun s s0 s1 d0 t1 t2 t3 => ?_, fun s s0 s1 => ?_, by rw [x0]; omega, ?_, ?_⟩, by rw [xo (b + 43) (by omega)]; exact hpath.2.1.2.2⟩
  · obtain ⟨q1, q2, q3⟩ := hoX3 s s0 (by omega)
    obtain ⟨r1, r2, r3⟩ := a7 s s0 s1
    rw [xo _ (by omega), xo (b + 16 + s.toNat) (by omega), xo (b + 29 + s.toNat) (by omega)]
    exact ⟨q1.trans r1, q2.trans r2, q3.trans r3⟩
  · rw [xo 545 (by omega), xo 546 (by omega), (hpp i (by omega)).1, (hpp i (by omega)).2, (hp i hi).1, (hp i hi).2]; exact a8 i hi
  · rw [x0] at s1
    have h12 : s < 12 := by omega
    rw [xo _ (by omega)] at t1
    rw [xo _ (by omega), xo _ (by omega)] at t2
    rw [xo _ (by omega), xo _ (by omega)] at t3
    rw [xo _ (by omega), xo _ (by omega)]
    by_cases y : s < Xm b 0
    · obtain ⟨q1, q2, q3⟩ := hoX3 s s0 y
      rw [q1, q2]
      rw [q1] at t1
      rw [q2, (hpp (dep - 1) (by omega)).1, (hp (dep - 1) (by omega)).1] at t2
      rw [q3, (hpp (dep - 1) (by omega)).2, (hp (dep - 1) (by omega)).2] at t3
      exact a9 s s0 y d0 t1 t2 t3
    · exact (hnw s (by omega) s1).2
  · rw [x0] at s1
    have h12 : s < 12 := by omega
    have h00 : 0 ≤ s := by omega
    rw [xo _ (by omega), xo _ (by omega), xo _ (by omega)]
    by_cases y : s < Xm b 0
    · obtain ⟨q1, q2, q3⟩ := hoX3 s h00 y
      rw [q1, q2, q3]; exact a10 s s0 y
    · exact hnw s (by omega) s1
  · rw [n9, hpath.2.2.2.1]
    by_cases z : dep = 0
    · rw [if_pos z, if_pos z]
    · rw [if_neg z, if_neg z, (hpp (dep - 1) (by omega)).1, (hp (dep - 1) (by omega)).1, (a8 (dep - 1) (by omega)).1]
  · rw [n9, hpath.2.2.2.2.1]
    by_cases z : dep = 0
    · rw [if_pos z, if_pos z]
    · rw [if_neg z, if_neg z, (hpp (dep - 1) (by omega)).2, (hp (dep - 1) (by omega)).2, (a8 (dep - 1) (by omega)).2]
