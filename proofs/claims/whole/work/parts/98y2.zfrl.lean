/-! ===== a FORK's BRANCHES: where the class's reader stands ===== -/
theorem z_it1 {b T Xs lo hi us : Nat} {L : Int} {M : g_I} (hb : g_life b) (hT : T = 540 ∨ T = 542 ∨ T = 544) : m_items T L Xs lo hi us M 1 1 = M 1 1 := (z_K.items (b := b) hT).1
theorem z_tka {c : Int} {M : g_I} (h : ¬ m_sg M = c) : m_tk c M 1 2 = g_pos (M 2) (M 1 1) (M 1 2) := g_ts_a.trans (if_neg h)
theorem z_ft_f {r : Int} {M : g_I} (h : M 1 2 ≤ M 1 1) : m_ft r M 1 1 = M 1 1 ∧ m_ft r M 2 = M 2 ∧ m_ft r M 1 3 = M 1 3 ∧ (¬ (0 < r ∧ m_sg M = 41) → g_pos (M 2) (M 1 1) (m_ft r M 1 2) = g_pos (M 2) (M 1 1) (M 1 2)) := by
  unfold m_ft
  split
  · refine ⟨g_ts_n, g_ts_f (by decide), g_ts_q, fun z => ?_⟩
    rw [z_tka (fun y => z ⟨by assumption, y⟩), g_pos_pos h]
  · exact ⟨rfl, rfl, rfl, fun _ => rfl⟩
theorem z_flq {M : g_I} (h : M 1 3 = -1) : m_fl M 1 3 = g_pos (M 2) (M 1 1) (M 1 2) := by
  unfold m_fl
  rw [g_ts_q, g_q1, if_pos h]
/-- a BRANCH is read; the ends -/
theorem z_frl_q {node : g_I → Int × g_I} {b k2 : Nat} {dep f m : Int} {Xm X4 : g_I} (hX : m_branch node b dep (m_path b dep f m Xm) = X4) (hle : X4 1 2 ≤ X4 1 1) (hq : X4 1 3 = -1) : (0 < m → m_sg X4 = 41 → m_frl node b dep f (k2 + 1) m Xm = m_tk 41 X4) ∧ (¬ (0 < m ∧ m_sg X4 = 41) → (m = 3 ∨ ¬ m_sg X4 = 59) → m_frl node b dep f (k2 + 1) m Xm 1 3 = g_pos (X4 2) (X4 1 1) (X4 1 2)) ∧ (m_sg X4 = 59 → ¬ m = 3 → m_frl node b dep f (k2 + 1) m Xm = m_frl node b dep f k2 (m + 1) (m_tk 59 (m_ft m X4))) := by
  obtain ⟨f1, f2, f3, f4⟩ := z_ft_f (r := m) hle
  have hsg : ¬ (0 < m ∧ m_sg X4 = 41) → m_sg (m_ft m X4) = m_sg X4 := fun z => by
    show g_sgn (m_ft m X4 2) (m_ft m X4 1 1) (m_ft m X4 1 2) = g_sgn (X4 2) (X4 1 1) (X4 1 2)
    unfold g_sgn
    rw [f1, f2, f4 z]
  refine ⟨fun a c => ?_, fun a c => ?_, fun a c => ?_⟩
  · rw [m_frl, hX, if_pos ⟨a, c⟩]
  · rw [m_frl, hX, if_neg a]
    by_cases e : m = 3
    · rw [if_pos e, z_flq (f3.trans hq), f1, f2, f4 a]
    · have c2 : ¬ m_sg (m_ft m X4) = 59 := by rw [hsg a]; omega
      have hle2 : m_ft m X4 1 2 ≤ X4 1 1 := by
        unfold m_ft
        split
        · rw [z_tka (fun y => a ⟨by assumption, y⟩)]
          exact (g_pos_in hle).2
        · exact hle
      rw [if_neg e, if_neg c2, z_flq (show m_tk 59 (m_ft m X4) 1 3 = -1 from g_ts_q.trans (f3.trans hq)), z_tka c2]
      unfold m_tk
      rw [g_ts_n, show ∀ (p q : Int), g_ts (m_ft m X4) p q 2 = m_ft m X4 2 from fun p q => g_ts_f (by decide), f1, f2, g_pos_pos hle2, f4 a]
  · have a2 : ¬ (0 < m ∧ m_sg X4 = 41) := fun z => by omega
    rw [m_frl, hX, if_neg a2, if_neg c, if_pos (by rw [hsg a2]; exact a)]
theorem z_go {b k k2 : Nat} {n dep f m : Int} {X Xm P Y1 Y Nm : g_I} {lv lm : Int → Int} (hb : g_life b) (hk : k < 6) (hdk : dep = 5 - (k : Int)) (hm : 0 ≤ m ∧ m < 4) (hg : z_bg X b dep f lv) (h : z_lp X Xm b Nm n dep f m lv lm) (hk2 : (k2 : Int) = 3 - m) (hP : P = m_path b dep f m Xm) (hY1 : Y1 = m_items 544 5 2 6 7 8 P) (hY : Y = m_frl (m_node b k) b dep f (k2 + 1) m Xm) :
    (P 1 1 = n ∧ P 2 = X 2 ∧ P 1 2 = Xm 1 2 ∧ P 1 3 = -1 ∧ l_ok b P) ∧ (-1 ≤ Y1 1 3 ∧ Y1 1 3 ≤ 240) ∧ (¬ Y1 1 3 = -1 → Y 1 3 = Y1 1 3) ∧
    (Y1 1 3 = -1 → ∃ X2 X3 X4 : g_I, X2 = m_br2 b (f * 4 + m) Y1 ∧ X3 = (m_node b k X2).2 ∧ X4 = g_up X3 (b + 127) (f * 4 + m) (m_node b k X2).1 ∧ l_ok b X2 ∧ X2 1 1 = n ∧ X2 2 = X 2 ∧
      (¬ g_sgn (X 2) n (Y1 1 2) = 58 → Y 1 3 = g_pos (X 2) n (Y1 1 2)) ∧ (g_sgn (X 2) n (Y1 1 2) = 58 → X2 1 2 = g_pos (X 2) n (Y1 1 2) + 1 ∧ X2 1 3 = -1) ∧
      l_ok b X4 ∧ (X4 1 1 = n ∧ X4 2 = X 2 ∧ X4 1 3 = X3 1 3) ∧ (-1 ≤ X3 1 3 ∧ X3 1 3 ≤ 240) ∧ (¬ X3 1 3 = -1 → Y 1 3 = X3 1 3) ∧ z_PP (dep + 1) X2 X3 ∧
      (X3 1 3 = -1 → (0 < m → g_sgn (X 2) n (X3 1 2) = 41 → Y = m_tk 41 X4 ∧ Y 1 2 = g_pos (X 2) n (X3 1 2) + 1 ∧ l_ok b Y) ∧ (¬ (0 < m ∧ g_sgn (X 2) n (X3 1 2) = 41) → (m = 3 ∨ ¬ g_sgn (X 2) n (X3 1 2) = 59) → Y 1 3 = g_pos (X 2) n (X3 1 2)) ∧
        (g_sgn (X 2) n (X3 1 2) = 59 → ¬ m = 3 → ∃ X5 : g_I, Y = m_frl (m_node b k) b dep f k2 (m + 1) X5 ∧ l_ok b X5 ∧ (X5 1 1 = n ∧ X5 2 = X 2 ∧ X5 1 3 = -1) ∧ X5 1 2 = g_pos (X 2) n (X3 1 2) + 1 ∧ ∀ c : Nat, c ≠ 1 → X5 c = X4 c))) := by
  have hb5 := hb
  unfold g_life at hb5
  have h0 := h
  obtain ⟨l1, ⟨l2, l3, l4⟩, l5, -⟩ := h
  have hf20 : 0 ≤ f ∧ f < 20 := by have := hg.1; have := l5.1; have := h0.2.2.2.2.2.2.2.2.1; omega
  have hO := m_node_ok hb k (by omega)
  have hN : z_KN b (dep + 1) (m_node b k) := by
    have := z_node_K hb k (by omega)
    rwa [show (6 : Int) - (k : Int) = dep + 1 by omega] at this
  have Pk : ∀ c : Nat, c < 3 → P c = Xm c := fun c hc => by
    rw [hP]; unfold m_path
    funext j
    rw [g_up_k (by omega), g_up_k (by omega), g_up_k (by omega)]
  have hPok : l_ok b P := by rw [hP]; exact m_path_ok hb l1 hf20 hm
  have p1 : P 1 1 = n := by rw [Pk 1 (by decide)]; exact l2
  have p2 : P 2 = X 2 := by rw [Pk 2 (by decide)]; exact l3
  have hYok : l_ok b Y1 := by rw [hY1]; exact m_items_ok hb hPok (by decide) (by decide) (by decide) (by decide) (by decide)
  have hfr := z_frl_after (d := dep) hb hO hN hf20 (k := k2) hm.1 (by omega) l1
  rw [← hP, ← hY] at hfr
  have y1 : Y1 1 1 = n := by rw [hY1, z_it1 hb (by decide)]; exact p1
  have y2 : Y1 2 = X 2 := by rw [hY1, m_items_k (by decide) (by decide)]; exact p2
  refine ⟨⟨p1, p2, by rw [Pk 1 (by decide)], by rw [Pk 1 (by decide)]; exact l4, hPok⟩, hYok.2.2.2.1, fun z => ?_, fun z => ?_⟩
  · have e : m_branch (m_node b k) b dep P = Y1 := by
      unfold m_branch m_br1
      rw [← hY1, if_neg z]
    rw [e] at hfr
    exact hfr.2.2 z
  · have hp : P 545 dep * 4 + P 546 dep = f * 4 + m := by
      rw [hP]; unfold m_path
      rw [g_up_k (by decide), g_up_s, g_up_s]
    obtain ⟨X2, hX2⟩ : ∃ X2, X2 = m_br2 b (f * 4 + m) Y1 := ⟨_, rfl⟩
    obtain ⟨X3, hX3⟩ : ∃ X3, X3 = (m_node b k X2).2 := ⟨_, rfl⟩
    obtain ⟨X4, hX4⟩ : ∃ X4, X4 = g_up X3 (b + 127) (f * 4 + m) (m_node b k X2).1 := ⟨_, rfl⟩
    have e : m_branch (m_node b k) b dep P = X4 := by
      unfold m_branch m_br1
      rw [← hY1, if_pos z, hp, ← hX2, hX4, hX3]
      rfl
    have hX2ok : l_ok b X2 := by rw [hX2]; exact m_wn_ok hb (l_cpy hYok (by omega)) (by decide)
    have hX4ok : l_ok b X4 := by rw [← e]; exact m_branch_ok hb hO hPok
    have hc : ∀ c : Nat, c < 3 → g_cpy Y1 544 0 (b + 47 + (f * 4 + m).toNat) 0 5 c = Y1 c := fun c hc => by funext j; exact g_cpy_k (by omega)
    have x1 : X2 1 1 = n := by
      rw [hX2]; unfold m_br2 m_wn
      rw [g_ts_n, hc 1 (by decide)]; exact y1
    have x2 : X2 2 = X 2 := by
      rw [hX2]; unfold m_br2 m_wn
      rw [z_ts5 (by decide), hc 2 (by decide)]; exact y2
    have hle := hYok.2.1.2
    rw [y1] at hle
    have hK3 := (hN X2 hX2ok).1
    rw [← hX3] at hK3
    have hP3 : z_PP (dep + 1) X2 X3 := by rw [hX3]; exact (hN X2 hX2ok).2
    have xx : X4 1 = X3 1 := by rw [hX4]; funext j; exact g_up_k (by omega)
    have x41 : X4 1 1 = n := by rw [xx, hK3.1]; exact x1
    have x42 : X4 2 = X 2 := by
      rw [hX4, show g_up X3 (b + 127) (f * 4 + m) (m_node b k X2).1 2 = X3 2 from funext fun j => g_up_k (by omega), hK3.2.1 2 (by unfold z_in; omega)]; exact x2
    have hq4 := hX4ok.2.2.2.1
    rw [e] at hfr
    have hle4 := hX4ok.2.1.2
    have hsg4 : m_sg X4 = g_sgn (X 2) n (X3 1 2) := by show g_sgn (X4 2) (X4 1 1) (X4 1 2) = _; rw [x41, x42, xx]
    refine ⟨X2, X3, X4, hX2, hX3, hX4, hX2ok, x1, x2, fun q => ?_, fun q => ?_, hX4ok, ⟨x41, x42, by rw [xx]⟩, by rw [← xx]; exact hq4, fun q => ?_, hP3, fun q => ?_⟩
    · have hq2 : X2 1 3 = g_pos (X 2) n (Y1 1 2) := by
        rw [hX2]; unfold m_br2 m_wn
        rw [g_ts_q, hc 1 (by decide), hc 2 (by decide), y1, y2, if_neg q, z, g_q1, if_pos rfl, g_pos_pos hle]
      have hpin := (g_pos_in (B := X 2) hle)
      have hx0 := hYok.2.1.1
      have hne : ¬ X2 1 3 = -1 := by rw [hq2]; omega
      have h3 : X3 1 3 = X2 1 3 := hK3.2.2 hne
      rw [hfr.2.2 (by rw [xx, h3]; exact hne), xx, h3, hq2]
    · rw [hX2]; unfold m_br2 m_wn
      rw [g_ts_q, g_ts_a, hc 1 (by decide), hc 2 (by decide), y1, y2, if_pos q, if_pos q]
      exact ⟨rfl, z⟩
    · rw [hfr.2.2 (by rw [xx]; exact q), xx]
    · have hle3 : X3 1 2 ≤ n := by rw [← xx]; omega
      obtain ⟨e1, e2, e3⟩ := z_frl_q (node := m_node b k) (b := b) (k2 := k2) (dep := dep) (f := f) (m := m) (Xm := Xm) (by rw [← hP]; exact e) hle4 (by rw [xx]; exact q)
      rw [hsg4, ← hY] at e1 e2 e3
      rw [x41, x42, xx] at e2
      refine ⟨fun a c => ?_, e2, fun a c => ?_⟩
      · have hY9 := e1 a c
        refine ⟨hY9, ?_, by rw [hY9]; exact m_tk_ok hb hX4ok (by decide)⟩
        rw [hY9]; unfold m_tk
        rw [g_ts_a, x41, x42, xx, if_pos c]
      · have hFt := m_ft_ok (r := m) hb hX4ok
        have a2 : ¬ (0 < m ∧ m_sg X4 = 41) := fun y => by rw [hsg4] at y; omega
        obtain ⟨f1, f2, f3, f4⟩ := z_ft_f (r := m) hle4
        have f5 := f4 a2
        rw [x41, x42, xx] at f5
        refine ⟨m_tk 59 (m_ft m X4), e3 a c, m_tk_ok hb hFt (by decide), ⟨?_, ?_, ?_⟩, ?_, fun c9 hc9 => ?_⟩
        · unfold m_tk; rw [g_ts_n, f1]; exact x41
        · unfold m_tk; rw [z_ts5 (by decide), f2]; exact x42
        · unfold m_tk; rw [g_ts_q, f3, xx]; exact q
        · unfold m_tk
          have : g_sgn (X 2) n (m_ft m X4 1 2) = 59 := by
            unfold g_sgn at a ⊢
            rw [f5]; exact a
          rw [g_ts_a, f1, f2, x41, x42, if_pos this, f5]
        · unfold m_tk; rw [z_ts5 hc9]; exact z_ft5 hc9
/-- another TAPE's place: nothing else -/
theorem z_lp_ts {X X4 X5 N : g_I} {b : Nat} {n dep f m : Int} {lv lm : Int → Int} (hb : g_life b) (h : z_lp X X4 b N n dep f m lv lm) (hok : l_ok b X5) (ht : X5 1 1 = n ∧ X5 2 = X 2 ∧ X5 1 3 = -1) (hk : ∀ c : Nat, c ≠ 1 → X5 c = X4 c) : z_lp X X5 b N n dep f m lv lm := by
  have hb5 := hb
  unfold g_life at hb5
  obtain ⟨a1, a2, a5, a6, a7, a8, a9, a10, a11, a12, a13⟩ := h
  have e0 := hk b (by omega)
  have e5 := hk 545 (by omega)
  have e6 := hk 546 (by omega)
  have e14 := hk (b + 14) (by omega)
  have e16 : ∀ s : Int, X5 (b + 16 + s.toNat) = X4 (b + 16 + s.toNat) := fun s => hk _ (by omega)
  have e29 : ∀ s : Int, X5 (b + 29 + s.toNat) = X4 (b + 29 + s.toNat) := fun s => hk _ (by omega)
  refine ⟨hok, ht, z_Z_cg a5 (fun c c1 c2 => hk c (by omega)) (fun i _ => ⟨by rw [e5], by rw [e6]⟩) (fun _ _ _ => rfl), a6, fun s s0 s1 => ?_, fun i hi => ?_, fun s s0 s1 => ?_, fun s s0 s1 => ?_, ?_, a12, a13⟩
  · rw [e14, e16, e29]; exact a7 s s0 s1
  · rw [e5, e6]; exact a8 i hi
  · rw [e14, e16, e29, e5, e6]
    rw [e0] at s1
    exact a9 s s0 s1
  · rw [e14, e16, e29]
    rw [e0] at s1
    exact a10 s s0 s1
  · rw [e0]; exact a11
/-- the BRANCHES are told -/
def z_rb (n d : Int) (X : g_I) (b : Nat) (N : g_I) (J : g_J) (R : g_R) (dep f : Int) (lv : Int → Int) (Y : g_I) : g_P := fun r n' I' J' R' => r = none ∧ n' = g_n ∧ J' = J ∧ R' = R ∧ ∃ (a' : Int) (N' : g_I), I' = y_M N' a' (Y 1 3) d ∧ (0 ≤ a' ∧ a' ≤ n) ∧ (∀ k j, g32 (N' k j)) ∧ z_fr N N' ∧
  (Y 1 3 = -1 → a' = Y 1 2 ∧ ∃ (lm : Int → Int) (m : Int), 2 ≤ m ∧ z_lp X Y b N' n dep f m lv lm ∧ z_Z Y b N' dep (-1) 0 lm)
theorem z_I3 {X X4 Y N4 N5 : g_I} {b : Nat} {n dep f m : Int} {lv lm : Int → Int} (hb : g_life b) (hg : z_bg X b dep f lv) (h : z_lp X X4 b N4 n dep f m lv lm) (h43 : X4 (b + 43) f = m) (hm : 2 ≤ m) (hok : l_ok b Y) (hq : Y 1 3 = -1) (hY : Y = m_tk 41 X4) (hN : N5 = g_up N4 709 ((3 * 18 + f) * 5 + 2) m) : z_lp X Y b N5 n dep f m lv lm ∧ z_Z Y b N5 dep (-1) 0 lm := by
  have hb5 := hb
  unfold g_life at hb5
  have hk : ∀ c : Nat, c ≠ 1 → Y c = X4 c := fun c hc => by rw [hY]; unfold m_tk; exact z_ts5 hc
  have n9 : ∀ j : Int, ¬ j = (3 * 18 + f) * 5 + 2 → N5 709 j = N4 709 j := fun j hj => by rw [hN, g_up_i hj]
  have nk : ∀ c : Nat, c ≠ 709 → N5 c = N4 c := fun c hc => by rw [hN]; funext j; exact g_up_k hc
  have hl := z_lp_ts hb h hok ⟨by rw [hY]; unfold m_tk; rw [g_ts_n]; exact h.2.1.1, by rw [hk 2 (by decide)]; exact h.2.1.2.1, hq⟩ hk
  obtain ⟨a1, a2, a5, a6, a7, a8, a9, a10, a11, a12, a13⟩ := hl
  have hf1 : 0 ≤ f ∧ f < Y b 1 := by have := hg.1; omega
  have hZ := z_S5 a5 hf1 hm (by rw [hk _ (by omega)]; exact h43) (nk 708 (by decide)) n9 (by rw [hN, g_up_s]) (nk 710 (by decide)) (nk 711 (by decide)) (nk 712 (by decide))
  refine ⟨⟨a1, a2, ?_, a6, a7, a8, a9, a10, a11, by rw [n9 _ (by omega)]; exact a12, by rw [n9 _ (by omega)]; exact a13⟩, hZ⟩
  -- the row's many is told now; nothing reads it while the FORK is in hand
  obtain ⟨⟨g1, g2, g3, g4, g5, g6⟩, hp, hl, hf⟩ := id a5
  refine ⟨⟨g1, g2, g3, by rw [nk 711 (by decide)]; exact g4, by rw [nk 712 (by decide)]; exact g5, g6⟩, fun i i0 i1 => ?_, fun s s0 s1 => ?_, fun g k0 k1 => ?_⟩
  · obtain ⟨p1, p2, p3, p4, p5, p6, p7⟩ := hp i i0 i1
    rw [n9 _ (by omega), n9 _ (by omega)]
    exact ⟨p1, p2, p3, p4, p5, p6, p7⟩
  · obtain ⟨l1, l2, l3, l4, l5, l6⟩ := hl s s0 s1
    exact ⟨l1, l2, l3, l4, l5, z_sl_cg (fun i i0 i1 => ⟨rfl, n9 _ (by omega), n9 _ (by omega)⟩) rfl rfl rfl rfl (fun j j0 j1 => by rw [nk 708 (by decide)]) l1.1 l6⟩
  · obtain ⟨k1', k2, k3, k4, k5, k6, k7⟩ := hf g k0 k1
    unfold z_fork
    rw [n9 _ (by omega), n9 _ (by omega), n9 _ (by omega)]
    refine ⟨k1', k2, k3, k4, fun z1 z2 => ?_, fun r' a c => ?_, k7⟩
    · rw [n9 _ (by omega)]; exact k5 z1 z2
    · have := k6 r' a c
      unfold z_br at this ⊢
      rw [nk 710 (by decide)]
      exact this
/-- a node, so many FORKS deeper at most: the reference's reader beside the class's -/
def C_zn (w : g_W) (b k : Nat) : Prop := ∀ {J : g_J} {R : g_R} {lb : Nat} {N : g_I} {n : Int} {Lf : Int → Int} {a d dep ah bh : Int} {X : g_I} {lv : Int → Int}, g_rf w R lb 704 → y_env N 704 240 0 n Lf → (0 ≤ a ∧ a ≤ n) → l_ok b X → (X 1 1 = n ∧ X 2 = q_by N 704 0 ∧ X 1 2 = a ∧ X 1 3 = -1) → dep = 6 - (k : Int) → ah = (if dep = 0 then -1 else X 545 (dep - 1)) → bh = (if dep = 0 then -1 else X 546 (dep - 1)) → z_Z X b N dep (-1) 0 lv → z_E X b dep → g_Met w g_n (y_M N a (-1) d) J R yX13_readNode cX13_readNode 7 (some .int) (6 + 2 * k) 0 0 [gvr w 703, gvI ah, gvI bh, gvI dep] (z_nd n d X b N J R dep lv (m_node b k X))
