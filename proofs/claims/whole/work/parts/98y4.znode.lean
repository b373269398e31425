/-! ===== a node: where the class's reader stands ===== -/
theorem z_node_u {b k : Nat} {dep : Int} (hdk : dep = 6 - (k : Int)) : ∃ inner, m_node b k = m_nod b dep inner ∧ (k = 0 → inner = none) ∧ ∀ j : Nat, k = j + 1 → inner = some (m_node b j) := by
  cases k with
  | zero => exact ⟨none, by rw [m_node, hdk]; rfl, fun _ => rfl, fun j hj => by omega⟩
  | succ k => exact ⟨some (m_node b k), by rw [m_node, hdk], fun z => by omega, fun j hj => by rw [show k = j by omega]⟩
theorem z_nodeX {b : Nat} {n p : Int} {X XL : g_I} (hb : g_life b) (hX0 : l_ok b X) (h1 : X 1 1 = n) (h3 : X 1 3 = -1) (hp : g_pos (X 2) n (X 1 2) = p) (hsg : ¬ g_sgn (X 2) n (X 1 2) = -1) (hXL : XL = m_adv (m_sk X)) : (XL 1 1 = n ∧ XL 2 = X 2 ∧ XL 1 2 = p + 1 ∧ XL 1 3 = -1) ∧ l_ok b XL ∧ p < n ∧ l_ok b (m_sk X) ∧ m_sk X 1 2 < m_sk X 1 1 := by
  have hs : ¬ m_sg X = -1 := by show ¬ g_sgn (X 2) (X 1 1) (X 1 2) = -1; rw [h1]; exact hsg
  have h2 := m_sg_in hX0 hs
  have hk := m_sk_ok hb hX0
  have e : m_sk X 1 2 = p := by unfold m_sk; rw [g_ts_a, h1]; exact hp
  have e1 : m_sk X 1 1 = n := by unfold m_sk; rw [g_ts_n]; exact h1
  refine ⟨⟨?_, ?_, ?_, ?_⟩, by rw [hXL]; exact m_adv_ok hb hk h2, by omega, hk, h2⟩
  · rw [hXL]; unfold m_adv; rw [g_up_i (by decide)]; exact e1
  · rw [hXL, m_adv_k (by decide)]; exact g_ts_f (by decide)
  · rw [hXL]; unfold m_adv; rw [g_up_s, e]
  · rw [hXL, z_adv_q, z_sk_q]; exact h3
theorem z_nodeL {b k : Nat} {n dep p s : Int} {X XL Y1 : g_I} (hb : g_life b) (hdk : dep = 6 - (k : Int)) (hX0 : l_ok b X) (h1 : X 1 1 = n) (h3 : X 1 3 = -1) (hp : g_pos (X 2) n (X 1 2) = p) (hsg : g_sgn (X 2) n (X 1 2) = 108) (hs : s = X b 0) (hs2 : s < 12) (hXL : XL = m_adv (m_sk X)) (hY1 : Y1 = m_items 540 5 0 0 1 2 XL) :
    m_node b k X = (s, m_lf2 b dep s Y1) ∧ m_lf2 b dep s Y1 1 = Y1 1 ∧ (-1 ≤ Y1 1 3 ∧ Y1 1 3 ≤ 240) ∧ (∀ c : Nat, c ≠ 1 → c ≠ 540 → Y1 c = X c) := by
  have hb5 := hb
  unfold g_life at hb5
  obtain ⟨-, x2, -, x4, x5⟩ := z_nodeX hb hX0 h1 h3 hp (by omega) hXL
  obtain ⟨inner, e1, -, -⟩ := z_node_u (b := b) hdk
  have hY : m_lf1 (m_sk X) = Y1 := by rw [hY1, hXL]; rfl
  have hk : ∀ c : Nat, c ≠ 1 → c ≠ 540 → Y1 c = X c := fun c c1 c2 => by
    rw [hY1, m_items_k c1 c2, hXL, m_adv_k c1]; exact g_ts_f c1
  have h0 : Y1 b 0 = s := by rw [hk b (by omega) (by omega), hs]
  have hok := m_items_ok (us := 2) hb x2 (T := 540) (X := 0) (lo := 0) (hi := 1) (L := 5) (by decide) (by decide) (by decide) (by decide) (by decide)
  rw [← hY1] at hok
  have hs0 : 0 ≤ s := by have := hX0.2.2.2.2.2.2.2.1.1; omega
  refine ⟨?_, z_lf5 hb ⟨hs0, hs2⟩ (Or.inr (Or.inr rfl)), hok.2.2.2.1, hk⟩
  rw [e1]
  unfold m_nod
  rw [if_pos ⟨by show g_sgn (X 2) (X 1 1) (X 1 2) = 108; rw [h1]; exact hsg, by show m_sk X b 0 < 12; rw [show m_sk X b = X b from g_ts_f (by omega), ← hs]; exact hs2⟩]
  unfold m_leaf
  rw [hY, h0]
theorem z_nodeE {b k : Nat} {n dep p : Int} {X : g_I} (hb : g_life b) (hdk : dep = 6 - (k : Int)) (hX0 : l_ok b X) (h1 : X 1 1 = n) (h3 : X 1 3 = -1) (hp : g_pos (X 2) n (X 1 2) = p) (hl : ¬ (g_sgn (X 2) n (X 1 2) = 108 ∧ X b 0 < 12)) (hf : g_sgn (X 2) n (X 1 2) = 102 → dep = 6) : (m_node b k X).2 1 3 = p := by
  have hb5 := hb
  unfold g_life at hb5
  obtain ⟨inner, e1, e2, -⟩ := z_node_u (b := b) hdk
  have hsg : m_sg X = g_sgn (X 2) n (X 1 2) := by show g_sgn (X 2) (X 1 1) (X 1 2) = _; rw [h1]
  have hle := hX0.2.1.2
  have hq : m_fl (m_sk X) 1 3 = p := by
    rw [z_flq (z_sk_q.trans h3), show m_sk X 2 = X 2 from g_ts_f (by decide)]
    unfold m_sk
    rw [g_ts_n, g_ts_a, g_pos_pos hle, h1, hp]
  rw [e1]
  unfold m_nod
  rw [if_neg (fun z => hl ⟨by rw [← hsg]; exact z.1, by have := z.2; rwa [show m_sk X b = X b from g_ts_f (by omega)] at this⟩)]
  split
  · rename_i z
    rw [e2 (by have := hf (by rw [← hsg]; exact z.1); omega)]
    exact hq
  · exact hq
theorem z_nodeF {b k j : Nat} {n dep p f : Int} {X XL Y1 W Y : g_I} (hb : g_life b) (hkj : k = j + 1) (hk6 : k ≤ 6) (hdk : dep = 6 - (k : Int)) (hX0 : l_ok b X) (h1 : X 1 1 = n) (h3 : X 1 3 = -1) (hp : g_pos (X 2) n (X 1 2) = p) (hsg : g_sgn (X 2) n (X 1 2) = 102) (hf : f = X b 1) (hf2 : f < 20) (hXL : XL = m_adv (m_sk X)) (hY1 : Y1 = m_items 542 2 1 3 4 5 XL) (hW : W = m_wn 40 (m_fk2 b dep f Y1)) (hY : Y = m_frl (m_node b j) b dep f 4 0 W) :
    m_node b k X = (100 + f, Y) ∧ (-1 ≤ Y1 1 3 ∧ Y1 1 3 ≤ 240) ∧ (∀ c : Nat, c ≠ 1 → c ≠ 542 → Y1 c = X c) ∧ l_ok b W ∧ (0 ≤ Y1 1 2 ∧ Y1 1 2 ≤ n) ∧ (¬ Y1 1 3 = -1 → Y 1 3 = Y1 1 3) ∧ (Y1 1 3 = -1 → (¬ g_sgn (X 2) n (Y1 1 2) = 40 → Y 1 3 = g_pos (X 2) n (Y1 1 2)) ∧ (g_sgn (X 2) n (Y1 1 2) = 40 → W 1 1 = n ∧ W 2 = X 2 ∧ W 1 2 = g_pos (X 2) n (Y1 1 2) + 1 ∧ W 1 3 = -1)) := by
  have hb5 := hb
  unfold g_life at hb5
  obtain ⟨⟨x0, x1, -, -⟩, x2, -, x4, x5⟩ := z_nodeX hb hX0 h1 h3 hp (by omega) hXL
  obtain ⟨inner, e1, -, e3⟩ := z_node_u (b := b) hdk
  have hY9 : m_fk1 (m_sk X) = Y1 := by rw [hY1, hXL]; rfl
  have hk : ∀ c : Nat, c ≠ 1 → c ≠ 542 → Y1 c = X c := fun c c1 c2 => by
    rw [hY1, m_items_k c1 c2, hXL, m_adv_k c1]; exact g_ts_f c1
  have hok := m_items_ok (us := 5) hb x2 (T := 542) (X := 1) (lo := 3) (hi := 4) (L := 2) (by decide) (by decide) (by decide) (by decide) (by decide)
  rw [← hY1] at hok
  have hsk : m_sk X b 1 = f := by rw [show m_sk X b = X b from g_ts_f (by omega), hf]
  have y1 : Y1 1 1 = n := by rw [hY1, z_it1 hb (by decide)]; exact x0
  have y2 : Y1 2 = X 2 := hk 2 (by decide) (by decide)
  have hO := m_node_ok hb j (by omega)
  have hN : z_KN b (dep + 1) (m_node b j) := by
    have := z_node_K hb j (by omega)
    rwa [show (6 : Int) - (j : Int) = dep + 1 by omega] at this
  obtain ⟨a1, a2, a3, a4⟩ := z_fork_after (d := dep) hb hO hN x4 (by rw [hsk]; exact hf2) x5
  rw [hsk, hY9] at a2 a3
  rw [hY9] at a4
  rw [hsk] at a1
  rw [← hW] at a2 a3
  rw [← hY] at a2
  rw [a2] at a3 a4
  have hWok : l_ok b W := by
    have := z_fork_ok (d := dep) hb x4 (by rw [hsk]; exact hf2) x5
    rwa [hsk, hY9, ← hW] at this
  have hfk : ∀ c : Nat, c = 1 ∨ c = 2 → m_fk2 b dep f Y1 c = Y1 c := fun c hc => by
    have e : ∀ (a : Nat) (i v : Int) (M : g_I), a ≠ c → g_up M a i v c = M c := fun a i v M h => funext fun j => g_up_k (Ne.symm h)
    unfold m_fk2 m_f2 m_f1
    rw [e _ _ _ _ (by omega), e _ _ _ _ (by omega), e _ _ _ _ (by omega), e _ _ _ _ (by omega), e _ _ _ _ (by omega)]
  have hle := hok.2.1
  rw [y1] at hle
  refine ⟨?_, hok.2.2.2.1, hk, hWok, hle, fun q => a4.2.2 q, fun q => ⟨fun q2 => ?_, fun q2 => ?_⟩⟩
  · rw [e1, e3 j hkj]
    unfold m_nod
    have hsg2 : m_sg X = 102 := by show g_sgn (X 2) (X 1 1) (X 1 2) = _; rw [h1]; exact hsg
    rw [if_neg (by omega), if_pos ⟨hsg2, by omega⟩]
    exact Prod.ext a1 a2
  · have hq2 : W 1 3 = g_pos (X 2) n (Y1 1 2) := by
      rw [hW]; unfold m_wn
      rw [g_ts_q, hfk 1 (Or.inl rfl), hfk 2 (Or.inr rfl), y1, y2, if_neg q2, q, g_q1, if_pos rfl, g_pos_pos hle.2]
    have hpin := (g_pos_in (B := X 2) hle.2)
    rw [a3.2.2 (by rw [hq2]; omega), hq2]
  · rw [hW]; unfold m_wn
    rw [g_ts_n, g_ts_q, g_ts_a, z_ts5 (by decide), hfk 1 (Or.inl rfl), hfk 2 (Or.inr rfl), y1, y2, if_pos q2, if_pos q2]
    exact ⟨rfl, rfl, rfl, q⟩
theorem z_nodeL2 {b : Nat} {dep s : Int} {X XL Y1 N Ni : g_I} {lv : Int → Int} (hb : g_life b) (hX0 : l_ok b X) (hXL : l_ok b XL) (hZ : z_Z X b N dep (-1) 0 lv) (hE : z_E X b dep) (hs : s = X b 0) (hs2 : s < 12) (hY1 : Y1 = m_items 540 5 0 0 1 2 XL) (hq : Y1 1 3 = -1) (hk : ∀ c : Nat, c ≠ 1 → c ≠ 540 → Y1 c = X c)
    (hf : ∀ (k : Nat) (j : Int), ¬ ((k = 708 ∧ (3 * 12 + s) * 7 ≤ j ∧ j < (3 * 12 + s) * 7 + 7) ∨ (k = 711 ∧ j = 3)) → Ni k j = N k j) (hv : ∀ j : Int, 0 ≤ j → j < 5 → Ni 708 ((3 * 12 + s) * 7 + j) = Y1 540 j) (h5 : Ni 708 ((3 * 12 + s) * 7 + 5) = if dep = 0 then -1 else X 545 (dep - 1)) (h6 : Ni 708 ((3 * 12 + s) * 7 + 6) = if dep = 0 then -1 else X 546 (dep - 1)) (h11 : Ni 711 3 = s + 1) : z_R X (m_lf2 b dep s Y1) b Ni dep lv s := by
  have hb5 := hb
  unfold g_life at hb5
  have hr := z_rngL hb hXL (by rw [← hY1]; exact hq)
  rw [← hY1] at hr
  have h := z_S1 (X1 := Y1) (X' := m_lf2 b dep s Y1) (N' := Ni) hb hZ hE hs (by omega) (fun k k0 k1 => hk k (by omega) (by omega)) (hk 545 (by decide) (by decide)) (hk 546 (by decide) (by decide)) (hX0.2.2.2.2.2.1) (hX0.2.2.2.2.2.2.1) hr rfl
    (fun j hj => hf 708 j (by omega)) hv h5 h6 (funext fun j => hf 709 j (by omega)) (funext fun j => hf 710 j (by omega)) h11 ((hf 712 3 (by omega)).trans hZ.1.2.2.2.2.1)
  exact ⟨lv, fun _ _ => rfl, h.1, h.2.1, h.2.2⟩
theorem z_nodeF2 {b : Nat} {dep f : Int} {X XL Y1 W N Ni : g_I} {lv : Int → Int} (hb : g_life b) (hd5 : dep ≤ 5) (hXL : l_ok b XL) (hZ : z_Z X b N dep (-1) 0 lv) (hE : z_E X b dep) (hf0 : f = X b 1) (hY1 : Y1 = m_items 542 2 1 3 4 5 XL) (hq : Y1 1 3 = -1) (hk : ∀ c : Nat, c ≠ 1 → c ≠ 542 → Y1 c = X c) (hW : W = m_wn 40 (m_fk2 b dep f Y1))
    (hf : ∀ (k : Nat) (j : Int), ¬ ((k = 709 ∧ (3 * 18 + f) * 5 ≤ j ∧ j < (3 * 18 + f) * 5 + 5) ∨ (k = 712 ∧ j = 3)) → Ni k j = N k j) (hv : ∀ j : Int, 0 ≤ j → j < 2 → Ni 709 ((3 * 18 + f) * 5 + j) = Y1 542 j) (h3 : Ni 709 ((3 * 18 + f) * 5 + 3) = if dep = 0 then -1 else X 545 (dep - 1)) (h4 : Ni 709 ((3 * 18 + f) * 5 + 4) = if dep = 0 then -1 else X 546 (dep - 1)) (h12 : Ni 712 3 = f + 1) :
    (z_Z W b Ni dep f 0 (fun g => if g = f then dep else lv g) ∧ z_bg W b dep f (fun g => if g = f then dep else lv g) ∧ z_F W b dep f) ∧ (z_old X W b ∧ W b 0 = X b 0 ∧ W b 1 = f + 1 ∧ W 545 = X 545 ∧ W 546 = X 546) ∧ Ni 709 ((3 * 18 + f) * 5 + 3) = (if dep = 0 then -1 else W 545 (dep - 1)) ∧ Ni 709 ((3 * 18 + f) * 5 + 4) = if dep = 0 then -1 else W 546 (dep - 1) := by
  have hb5 := hb
  unfold g_life at hb5
  have hr := z_rngF hb hXL (by rw [← hY1]; exact hq)
  rw [← hY1] at hr
  have e : ∀ (c a : Nat) (i v : Int) (M : g_I), a ≠ c → g_up M a i v c = M c := fun c a i v M h => funext fun j => g_up_k (Ne.symm h)
  have wk : ∀ c : Nat, c ≠ 1 → W c = m_fk2 b dep f Y1 c := fun c hc => by rw [hW]; unfold m_wn; exact z_ts5 hc
  have w5 : W 545 = X 545 := by rw [wk 545 (by decide), z_fk5 hb (Or.inl rfl)]; exact hk 545 (by decide) (by decide)
  have w6 : W 546 = X 546 := by rw [wk 546 (by decide), z_fk5 hb (Or.inr rfl)]; exact hk 546 (by decide) (by decide)
  have wo : ∀ c : Nat, b ≤ c → c < b + 128 → c ≠ b → c ≠ b + 41 → c ≠ b + 42 → c ≠ b + 44 → c ≠ b + 45 → W c = X c := fun c c0 c1 c2 c3 c4 c5 c6 => by
    rw [wk c (by omega)]; unfold m_fk2 m_f2 m_f1
    rw [e _ _ _ _ _ (by omega), e _ _ _ _ _ (by omega), e _ _ _ _ _ (by omega), e _ _ _ _ _ (by omega), e _ _ _ _ _ (by omega)]
    exact hk c (by omega) (by omega)
  have w0 : ∀ j : Int, W b j = if j = 1 then f + 1 else X b j := fun j => by
    rw [wk b (by omega)]; unfold m_fk2 m_f2 m_f1
    rw [e _ _ _ _ _ (by omega), e _ _ _ _ _ (by omega), e _ _ _ _ _ (by omega), e _ _ _ _ _ (by omega)]
    by_cases z : j = 1
    · rw [if_pos z, z, g_up_s]
    · rw [if_neg z, g_up_i z, hk b (by omega) (by omega)]
  have w41 : ∀ j : Int, W (b + 41) j = if j = f then Y1 542 0 else X (b + 41) j := fun j => by
    rw [wk _ (by omega)]; unfold m_fk2 m_f2 m_f1
    rw [e _ _ _ _ _ (by omega), e _ _ _ _ _ (by omega), e _ _ _ _ _ (by omega)]
    by_cases z : j = f
    · rw [if_pos z, z, g_up_s, e _ _ _ _ _ (by omega)]
    · rw [if_neg z, g_up_i z, e _ _ _ _ _ (by omega), hk _ (by omega) (by omega)]
  have w42 : ∀ j : Int, W (b + 42) j = if j = f then Y1 542 1 else X (b + 42) j := fun j => by
    rw [wk _ (by omega)]; unfold m_fk2 m_f2 m_f1
    rw [e _ _ _ _ _ (by omega), e _ _ _ _ _ (by omega)]
    by_cases z : j = f
    · rw [if_pos z, z, g_up_s, e _ _ _ _ _ (by omega), e _ _ _ _ _ (by omega)]
    · rw [if_neg z, g_up_i z, e _ _ _ _ _ (by omega), e _ _ _ _ _ (by omega), hk _ (by omega) (by omega)]
  have w44 : ∀ j : Int, W (b + 44) j = if j = f then (if dep = 0 then -1 else X 545 (dep - 1)) else X (b + 44) j := fun j => by
    rw [wk _ (by omega)]; unfold m_fk2 m_f2 m_f1
    rw [e _ _ _ _ _ (by omega)]
    by_cases z : j = f
    · rw [if_pos z, z, g_up_s, e _ _ _ _ _ (by omega), e _ _ _ _ _ (by omega), e _ _ _ _ _ (by omega), hk 545 (by decide) (by decide)]
    · rw [if_neg z, g_up_i z, e _ _ _ _ _ (by omega), e _ _ _ _ _ (by omega), e _ _ _ _ _ (by omega), hk _ (by omega) (by omega)]
  have w45 : ∀ j : Int, W (b + 45) j = if j = f then 0 else X (b + 45) j := fun j => by
    rw [wk _ (by omega)]; unfold m_fk2
    by_cases z : j = f
    · rw [if_pos z, z, g_up_s]
    · rw [if_neg z, g_up_i z]
      unfold m_f2 m_f1
      rw [e _ _ _ _ _ (by omega), e _ _ _ _ _ (by omega), e _ _ _ _ _ (by omega), e _ _ _ _ _ (by omega), hk _ (by omega) (by omega)]
  have hw0 : W b 0 = X b 0 := by rw [w0, if_neg (by decide)]
  have hw1 : W b 1 = f + 1 := by rw [w0, if_pos rfl]
  have hv0 := hv 0 (by decide) (by decide)
  rw [Int.add_zero] at hv0
  have hZ1 := hZ.1
  obtain ⟨s1, s2, s3, s4⟩ := z_S2 (X' := W) (N' := Ni) (y := Y1 542 0) (k := Y1 542 1) hb hZ hE hf0 hd5 hr.1 hr.2 wo ⟨hw0, hw1⟩ w5 w6 w41 w42 w44 w45 (funext fun j => hf 708 j (by omega)) (fun j hj => hf 709 j (by omega)) hv0 (hv 1 (by decide) (by decide)) h3 (funext fun j => hf 710 j (by omega)) ((hf 711 3 (by omega)).trans hZ1.2.2.2.1) h12
  obtain ⟨E1, E2, E3⟩ := hE
  refine ⟨⟨s1, ⟨⟨by omega, by omega⟩, if_pos rfl, fun i i0 i1 => by rw [w5]; exact s2 i i0 i1, s3, by omega, by omega⟩, fun s s0 s1' d0 t1 t2 t3 => ?_⟩, ⟨s4, hw0, hw1, w5, w6⟩, by rw [w5]; exact h3, by rw [w6]; exact h4⟩
  rw [hw0] at s1'
  obtain ⟨o1, o2, o3⟩ := s4 s s0 s1'
  rw [o1] at t1
  rw [o2, w5] at t2
  rw [o3, w6] at t3
  exact absurd ⟨t1, t2, t3⟩ (E3 s s0 s1' d0)
theorem z_nodeF3 {b : Nat} {n dep f m : Int} {X W Y N' : g_I} {lv lm : Int → Int} (hf0 : f = X b 1) (hf00 : 0 ≤ f) (hW : z_old X W b ∧ W b 0 = X b 0 ∧ W b 1 = f + 1 ∧ W 545 = X 545 ∧ W 546 = X 546) (hm : 2 ≤ m) (h : z_lp W Y b N' n dep f m (fun g => if g = f then dep else lv g) lm) (hZ : z_Z Y b N' dep (-1) 0 lm) : z_R X Y b N' dep lv (100 + f) := by
  obtain ⟨w1, w2, w3, w5, w6⟩ := hW
  obtain ⟨-, -, -, a6, a7, -, -, a10, a11, -, -⟩ := h
  refine ⟨lm, fun g hg => (a6 g (by omega)).trans (if_neg (by omega)), hZ, fun s s0 s1 => ?_, fun s s0 s1 => ?_, by omega, by omega, Or.inr ⟨by omega, by omega, by rw [← hf0]; exact (a6 f (by omega)).trans (if_pos rfl)⟩⟩
  · obtain ⟨o1, o2, o3⟩ := w1 s s0 s1
    obtain ⟨q1, q2, q3⟩ := a7 s s0 (by omega)
    exact ⟨q1.trans o1, q2.trans o2, q3.trans o3⟩
  · obtain ⟨q1, q2, q3⟩ := a10 s (by omega) s1
    refine ⟨by omega, fun i i0 i1 => ?_, Or.inr ⟨by omega, q2, by omega⟩⟩
    have := q1 i i0 i1
    rwa [w5, w6] at this
