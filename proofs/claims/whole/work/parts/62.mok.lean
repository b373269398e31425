section MK
variable {b : Nat} {M : g_I}
theorem l_fk {v : Int} (h : l_ok b M) (hb : g_life b) (h1 : 0 ≤ v ∧ v ≤ 20) : l_ok b (g_up M b 1 v) := by
  obtain ⟨g1, g2, g3, g4, g5, g6, g7, g8, g9⟩ := h
  unfold g_life at hb
  have e : ∀ (a : Nat) (j : Int), a ≠ b ∨ j ≠ 1 → g_up M b 1 v a j = M a j := fun a j ha => by
    rcases ha with ha | ha
    · exact g_up_k ha
    · unfold g_up; rw [if_neg (fun z => ha z.2)]
  refine ⟨g_up32 g1 ⟨by omega, by omega⟩, ?_, ?_, ?_, ?_, ?_, ?_, ?_, ?_⟩
  · rw [e 1 _ (Or.inl (by omega)), e 1 _ (Or.inl (by omega))]; exact g2
  · rw [e 1 _ (Or.inl (by omega))]; exact g3
  · rw [e 1 _ (Or.inl (by omega))]; exact g4
  · intro j; rw [e 2 _ (Or.inl (by omega))]; exact g5 j
  · intro j; rw [e 545 _ (Or.inl (by omega))]; exact g6 j
  · intro j; rw [e 546 _ (Or.inl (by omega))]; exact g7 j
  · rw [e b _ (Or.inr (by decide))]; exact g8
  · rw [g_up_s]; exact h1
theorem l_lf {v : Int} (h : l_ok b M) (hb : g_life b) (h1 : 0 ≤ v ∧ v ≤ 12) : l_ok b (g_up M b 0 v) := by
  obtain ⟨g1, g2, g3, g4, g5, g6, g7, g8, g9⟩ := h
  unfold g_life at hb
  have e : ∀ (a : Nat) (j : Int), a ≠ b ∨ j ≠ 0 → g_up M b 0 v a j = M a j := fun a j ha => by
    rcases ha with ha | ha
    · exact g_up_k ha
    · unfold g_up; rw [if_neg (fun z => ha z.2)]
  refine ⟨g_up32 g1 ⟨by omega, by omega⟩, ?_, ?_, ?_, ?_, ?_, ?_, ?_, ?_⟩
  · rw [e 1 _ (Or.inl (by omega)), e 1 _ (Or.inl (by omega))]; exact g2
  · rw [e 1 _ (Or.inl (by omega))]; exact g3
  · rw [e 1 _ (Or.inl (by omega))]; exact g4
  · intro j; rw [e 2 _ (Or.inl (by omega))]; exact g5 j
  · intro j; rw [e 545 _ (Or.inl (by omega))]; exact g6 j
  · intro j; rw [e 546 _ (Or.inl (by omega))]; exact g7 j
  · rw [g_up_s]; exact h1
  · rw [e b _ (Or.inr (by decide))]; exact g9
theorem l_pf {i v : Int} (h : l_ok b M) (hb : g_life b) (h1 : 0 ≤ v ∧ v < 20) : l_ok b (g_up M 545 i v) := by
  obtain ⟨g1, g2, g3, g4, g5, g6, g7, g8, g9⟩ := h
  unfold g_life at hb
  have e : ∀ (a : Nat) (j : Int), a ≠ 545 → g_up M 545 i v a j = M a j := fun a j ha => g_up_k ha
  refine ⟨g_up32 g1 ⟨by omega, by omega⟩, ?_, ?_, ?_, ?_, ?_, ?_, ?_, ?_⟩
  · rw [e 1 _ (by decide), e 1 _ (by decide)]; exact g2
  · rw [e 1 _ (by decide)]; exact g3
  · rw [e 1 _ (by decide)]; exact g4
  · intro j; rw [e 2 _ (by decide)]; exact g5 j
  · intro j; unfold g_up; split
    · exact h1
    · exact g6 j
  · intro j; rw [e 546 _ (by decide)]; exact g7 j
  · rw [e b _ (by omega)]; exact g8
  · rw [e b _ (by omega)]; exact g9
theorem l_pb {i v : Int} (h : l_ok b M) (hb : g_life b) (h1 : 0 ≤ v ∧ v < 4) : l_ok b (g_up M 546 i v) := by
  obtain ⟨g1, g2, g3, g4, g5, g6, g7, g8, g9⟩ := h
  unfold g_life at hb
  have e : ∀ (a : Nat) (j : Int), a ≠ 546 → g_up M 546 i v a j = M a j := fun a j ha => g_up_k ha
  refine ⟨g_up32 g1 ⟨by omega, by omega⟩, ?_, ?_, ?_, ?_, ?_, ?_, ?_, ?_⟩
  · rw [e 1 _ (by decide), e 1 _ (by decide)]; exact g2
  · rw [e 1 _ (by decide)]; exact g3
  · rw [e 1 _ (by decide)]; exact g4
  · intro j; rw [e 2 _ (by decide)]; exact g5 j
  · intro j; rw [e 545 _ (by decide)]; exact g6 j
  · intro j; unfold g_up; split
    · exact h1
    · exact g7 j
  · rw [e b _ (by omega)]; exact g8
  · rw [e b _ (by omega)]; exact g9
theorem l_cpy {k src : Nat} {n : Int} (h : l_ok b M) (hk : k ≠ 1 ∧ k ≠ 2 ∧ k ≠ 545 ∧ k ≠ 546 ∧ k ≠ b) : l_ok b (g_cpy M src 0 k 0 n) := by
  obtain ⟨g1, g2, g3, g4, g5, g6, g7, g8, g9⟩ := h
  obtain ⟨k1, k2, k3, k4, k5⟩ := hk
  have e : ∀ (a : Nat) (j : Int), a ≠ k → g_cpy M src 0 k 0 n a j = M a j := fun a j ha => g_cpy_k ha
  refine ⟨g_cpy32 g1, ?_, ?_, ?_, ?_, ?_, ?_, ?_, ?_⟩
  · rw [e 1 _ (Ne.symm k1), e 1 _ (Ne.symm k1)]; exact g2
  · rw [e 1 _ (Ne.symm k1)]; exact g3
  · rw [e 1 _ (Ne.symm k1)]; exact g4
  · intro j; rw [e 2 _ (Ne.symm k2)]; exact g5 j
  · intro j; rw [e 545 _ (Ne.symm k3)]; exact g6 j
  · intro j; rw [e 546 _ (Ne.symm k4)]; exact g7 j
  · rw [e b _ (Ne.symm k5)]; exact g8
  · rw [e b _ (Ne.symm k5)]; exact g9
theorem m_items_ok {T X lo hi us : Nat} {L : Int} (hb : g_life b) (h : l_ok b M) (hT : T = 540 ∨ T = 542 ∨ T = 544) (hX : X < 3) (hlo : lo = 0 ∨ lo = 3 ∨ lo = 6) (hhi : hi < 9) (hu : us < 9) : l_ok b (m_items T L X lo hi us M) := m_itn_ok hb hT hX hlo hhi _ _ _ (m_us_ok hb h hT hu)
/-- ITEMS touch the TAPE and the told ones alone -/
theorem m_itn_k {T X lo hi k : Nat} {L : Int} (h1 : k ≠ 1) (h2 : k ≠ T) : ∀ (n : Nat) (seen : Int) (M : g_I), m_itn T L X lo hi n seen M k = M k
  | 0, _, M => rfl
  | n + 1, seen, M => by
    have e1 : ∀ M : g_I, m_sk M k = M k := fun M => g_ts_f h1
    have e2 : ∀ M : g_I, m_fl M k = M k := fun M => g_ts_f h1
    rw [m_itn]
    split
    · exact e1 M
    · split
      · rw [e2, e1]
      · rw [m_itn_k h1 h2 n]
        funext j
        rw [g_up_k h2]
        unfold m_nm
        rw [g_ts_f h1]
        unfold m_adv
        rw [g_up_k h1, e1]
theorem m_items_k {T X lo hi us k : Nat} {L : Int} (h1 : k ≠ 1) (h2 : k ≠ T) : m_items T L X lo hi us M k = M k := by
  unfold m_items
  rw [m_itn_k h1 h2]
  funext j
  exact if_neg (fun z => h2 z.1)
theorem m_adv_k {k : Nat} (h : k ≠ 1) : m_adv M k = M k := funext fun j => g_up_k h
theorem m_stp_ok {s i f r : Int} (hb : g_life b) (h : l_ok b M) (hs : 0 ≤ s ∧ s < 12) (hf : 0 ≤ f ∧ f < 20) (hr : 0 ≤ r ∧ r < 4) : l_ok b (m_stp b s i f r M) := by
  have hb5 := hb
  unfold g_life at hb5
  have h1 : l_ok b (m_way b s i f r M) := l_up (l_up h (by omega) ⟨by omega, by omega⟩) (by omega) ⟨by omega, by omega⟩
  have h2 : l_ok b (m_bhd b s f (m_way b s i f r M)) := l_up h1 (by omega) g_or32
  have ha : ∀ (c v : Int) (M : g_I), l_ok b M → l_ok b (m_add b s f r c v M) := fun c v M h => l_up h (by omega) g_w32_in
  exact l_up (ha _ _ _ (ha _ _ _ (ha _ _ _ h2))) (by omega) g_or32
theorem m_step_ok {s i : Int} (hb : g_life b) (h : l_ok b M) (hs : 0 ≤ s ∧ s < 12) : l_ok b (m_step b s i M) := m_stp_ok hb h hs (h.2.2.2.2.2.1 i) (h.2.2.2.2.2.2.1 i)
theorem m_sts_ok {s : Int} (hb : g_life b) (hs : 0 ≤ s ∧ s < 12) : ∀ (n : Nat) (M : g_I), l_ok b M → l_ok b (m_sts b s n M)
  | 0, _, h => h
  | n + 1, M, h => m_step_ok hb (m_sts_ok hb hs n M h) hs
theorem m_sts_i {s i : Int} (h : 0 ≤ i) : m_sts b s (i + 1).toNat M = m_step b s i (m_sts b s i.toNat M) := by
  rw [show (i + 1).toNat = i.toNat + 1 by omega, m_sts, show ((i.toNat : Nat) : Int) = i by omega]
theorem m_leaf_ok {d : Int} (hb : g_life b) (h : l_ok b M) (h1 : M b 0 < 12) (h2 : M 1 2 < M 1 1) (hd : 0 ≤ d ∧ d ≤ 6) : l_ok b (m_leaf b d M).2 ∧ 0 ≤ (m_leaf b d M).1 ∧ (m_leaf b d M).1 < 12 := by
  have hb5 := hb
  unfold g_life at hb5
  have ha := m_adv_ok hb h h2
  have hi : l_ok b (m_lf1 M) := m_items_ok hb ha (by decide) (by decide) (by decide) (by decide) (by decide)
  have e : m_lf1 M b 0 = M b 0 := by
    unfold m_lf1
    rw [m_items_k (by omega) (by omega), m_adv_k (by omega)]
  have h8 := h.2.2.2.2.2.2.2.1
  unfold m_leaf
  dsimp only
  rw [e]
  refine ⟨?_, h8.1, h1⟩
  unfold m_lf2
  refine m_sts_ok hb ⟨h8.1, h1⟩ _ _ (l_up ?_ (by omega) ⟨by omega, by omega⟩)
  have hx : ∀ (c k : Int) (M' : g_I), l_ok b M' → l_ok b (m_r1 b (M b 0) c k M') := fun c k M' h => l_up h (by omega) (h.1 _ _)
  have h0 : ∀ (c : Int) (M' : g_I), l_ok b M' → l_ok b (m_r0 b (M b 0) c M') := fun c M' h => l_up h (by omega) ⟨by decide, by decide⟩
  exact h0 _ _ (hx _ _ _ (hx _ _ _ (hx _ _ _ (h0 _ _ (hx _ _ _ (hx _ _ _ (l_lf hi hb ⟨by omega, by omega⟩)))))))
/-- what a node's reading keeps to -/
def m_nk (b : Nat) (node : g_I → Int × g_I) : Prop := ∀ M : g_I, l_ok b M → l_ok b (node M).2 ∧ -1 ≤ (node M).1 ∧ (node M).1 < 120
theorem m_branch_ok {node : g_I → Int × g_I} {d : Int} (hb : g_life b) (hN : m_nk b node) (h : l_ok b M) : l_ok b (m_branch node b d M) := by
  have hb5 := hb
  unfold g_life at hb5
  have h1 : l_ok b (m_br1 M) := m_items_ok hb h (by decide) (by decide) (by decide) (by decide) (by decide)
  have hf := h.2.2.2.2.2.1 d
  have hr := h.2.2.2.2.2.2.1 d
  unfold m_branch
  split
  · have h2 : l_ok b (m_br2 b (M 545 d * 4 + M 546 d) (m_br1 M)) := m_wn_ok hb (l_cpy h1 (by omega)) (by decide)
    have h3 := hN _ h2
    exact l_up h3.1 (by omega) ⟨by omega, by omega⟩
  · exact h1
theorem m_path_ok {d f r : Int} (hb : g_life b) (h : l_ok b M) (hf : 0 ≤ f ∧ f < 20) (hr : 0 ≤ r ∧ r < 4) : l_ok b (m_path b d f r M) := by
  have hb5 := hb
  unfold g_life at hb5
  exact l_pb (l_pf (l_up h (by omega) ⟨by omega, by omega⟩) hb hf) hb hr
theorem m_ft_ok {r : Int} (hb : g_life b) (h : l_ok b M) : l_ok b (m_ft r M) := by
  unfold m_ft
  split
  · exact m_tk_ok hb h (by decide)
  · exact h
theorem m_frl_ok {node : g_I → Int × g_I} {d f : Int} (hb : g_life b) (hN : m_nk b node) (hf : 0 ≤ f ∧ f < 20) : ∀ (k : Nat) (r : Int) (M : g_I), 0 ≤ r → r + k ≤ 4 → l_ok b M → l_ok b (m_frl node b d f k r M)
  | 0, _, _, _, _, h => h
  | k + 1, r, M, h0, h1, h => by
    have hB := m_branch_ok (d := d) hb hN (m_path_ok (d := d) hb h hf ⟨h0, by omega⟩)
    have hT := m_ft_ok (r := r) hb hB
    rw [m_frl]
    split
    · exact m_tk_ok hb hB (by decide)
    · split
      · exact m_fl_ok hb hT
      · split
        · exact m_frl_ok hb hN hf k _ _ (by omega) (by omega) (m_tk_ok hb hT (by decide))
        · exact m_fl_ok hb (m_tk_ok hb hT (by decide))
theorem m_fork_ok {node : g_I → Int × g_I} {d : Int} (hb : g_life b) (hN : m_nk b node) (h : l_ok b M) (h1 : M b 1 < 20) (h2 : M 1 2 < M 1 1) : l_ok b (m_fork node b d M).2 ∧ 100 ≤ (m_fork node b d M).1 ∧ (m_fork node b d M).1 < 120 := by
  have hb5 := hb
  unfold g_life at hb5
  have ha := m_adv_ok hb h h2
  have hi : l_ok b (m_fk1 M) := m_items_ok hb ha (by decide) (by decide) (by decide) (by decide) (by decide)
  have e : m_fk1 M b 1 = M b 1 := by
    unfold m_fk1
    rw [m_items_k (by omega) (by omega), m_adv_k (by omega)]
  have h8 := h.2.2.2.2.2.2.2.2
  unfold m_fork
  dsimp only
  rw [e]
  refine ⟨m_frl_ok hb hN ⟨h8.1, h1⟩ _ _ _ (by decide) (by decide) (m_wn_ok hb ?_ (by decide)), by omega, by omega⟩
  have g0 := l_fk hi hb (v := M b 1 + 1) ⟨by omega, by omega⟩
  have hx : ∀ (c : Nat) (k : Int) (M' : g_I), c = 41 ∨ c = 42 → l_ok b M' → l_ok b (m_f1 b c (M b 1) k M') := fun c k M' hc h => l_up h (by omega) (h.1 _ _)
  have g1 := hx 42 1 _ (by decide) (hx 41 0 _ (by decide) g0)
  refine l_up (l_up g1 (by omega) ?_) (by omega) ⟨by decide, by decide⟩
  split
  · exact ⟨by decide, by decide⟩
  · exact g1.1 _ _
theorem m_nod_ok {d : Int} {inner : Option (g_I → Int × g_I)} (hb : g_life b) (hd : 0 ≤ d ∧ d ≤ 6) (hN : ∀ f, inner = some f → m_nk b f) : m_nk b (m_nod b d inner) := by
  intro M h
  have h1 := m_sk_ok hb h
  unfold m_nod
  by_cases c1 : m_sg M = 108 ∧ m_sk M b 0 < 12
  · rw [if_pos c1]
    have := m_leaf_ok hb h1 c1.2 (m_sg_in h (by omega)) hd
    exact ⟨this.1, by omega, by omega⟩
  · rw [if_neg c1]
    by_cases c2 : m_sg M = 102 ∧ m_sk M b 1 < 20
    · rw [if_pos c2]
      cases inner with
      | none => exact ⟨m_fl_ok hb h1, show (-1 : Int) ≤ -1 by decide, show (-1 : Int) < 120 by decide⟩
      | some f =>
        have := m_fork_ok (d := d) hb (hN f rfl) h1 c2.2 (m_sg_in h (by omega))
        exact ⟨this.1, by show -1 ≤ (m_fork f b d (m_sk M)).1; omega, this.2.2⟩
    · rw [if_neg c2]
      exact ⟨m_fl_ok hb h1, show (-1 : Int) ≤ -1 by decide, show (-1 : Int) < 120 by decide⟩
theorem m_node_ok (hb : g_life b) : ∀ k : Nat, k ≤ 6 → m_nk b (m_node b k)
  | 0, _ => m_nod_ok hb ⟨by decide, by decide⟩ (fun f e => by cases e)
  | k + 1, hk => m_nod_ok hb ⟨by omega, by omega⟩ (fun f e => by cases e; exact m_node_ok hb k (by omega))
end MK
def C_nod (w : g_W) (b k : Nat) : Prop := ∀ {I : g_I} {J : g_J} {R : g_R} {lb tx : Nat}, g_rf w R lb tx → l_ok b I → ∀ {d : Int}, d = 6 - (k : Int) → g_Met w g_n I J R yX5_readNode cX5_readNode 4 (some .int) (7 + 3 * k) 0 0 [gvr w 538, gvr w b, gvI d] (g_post (some (gvI (m_node b k I).1)) g_n (m_node b k I).2 J R)
