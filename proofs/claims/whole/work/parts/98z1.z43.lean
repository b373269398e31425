/-! ===== how many BRANCHES stand in a row, told or half told ===== -/
def z_43 (b : Nat) (M : g_I) : Prop := ∀ j : Int, 0 ≤ M (b + 43) j ∧ M (b + 43) j ≤ 4
def z_N43 (b : Nat) (node : g_I → Int × g_I) : Prop := ∀ M : g_I, l_ok b M → z_43 b M → z_43 b (node M).2
section Z43
variable {b : Nat} {M M' : g_I}
theorem z_43_eq (h : z_43 b M) (e : M' (b + 43) = M (b + 43)) : z_43 b M' := fun j => by rw [e]; exact h j
theorem z_sts43 {s : Int} (hs : 0 ≤ s ∧ s < 12) : ∀ (n : Nat) (M : g_I), m_sts b s n M (b + 43) = M (b + 43)
  | 0, M => rfl
  | n + 1, M => by
    have e : ∀ (a : Nat) (i v : Int) (M : g_I), a ≠ b + 43 → g_up M a i v (b + 43) = M (b + 43) := fun a i v M h => funext fun j => g_up_k (Ne.symm h)
    rw [m_sts]
    unfold m_step m_stp m_fct m_add m_bhd m_way
    rw [e _ _ _ _ (by omega), e _ _ _ _ (by omega), e _ _ _ _ (by omega), e _ _ _ _ (by omega), e _ _ _ _ (by omega), e _ _ _ _ (by omega), e _ _ _ _ (by omega)]
    exact z_sts43 hs n M
theorem z_lf43 {d s : Int} (hb : g_life b) (hs : 0 ≤ s ∧ s < 12) : m_lf2 b d s M (b + 43) = M (b + 43) := by
  have e : ∀ (a : Nat) (i v : Int) (M : g_I), a ≠ b + 43 → g_up M a i v (b + 43) = M (b + 43) := fun a i v M h => funext fun j => g_up_k (Ne.symm h)
  unfold m_lf2
  rw [z_sts43 hs, e _ _ _ _ (by omega)]
  unfold m_row m_r0 m_r1
  rw [e _ _ _ _ (by omega), e _ _ _ _ (by omega), e _ _ _ _ (by omega), e _ _ _ _ (by omega), e _ _ _ _ (by omega), e _ _ _ _ (by omega), e _ _ _ _ (by omega), e _ _ _ _ (by omega)]
theorem z_branch43 {d : Int} {node : g_I → Int × g_I} (hb : g_life b) (h : l_ok b M) (hN : z_N43 b node) (h4 : z_43 b M) : z_43 b (m_branch node b d M) := by
  have hb5 := hb
  unfold g_life at hb5
  have hf := h.2.2.2.2.2.1 d
  have hr := h.2.2.2.2.2.2.1 d
  have h1 : l_ok b (m_br1 M) := m_items_ok hb h (by decide) (by decide) (by decide) (by decide) (by decide)
  have g1 : z_43 b (m_br1 M) := z_43_eq h4 (m_items_k (by omega) (by omega))
  unfold m_branch
  split
  · have h2 : l_ok b (m_br2 b (M 545 d * 4 + M 546 d) (m_br1 M)) := m_wn_ok hb (l_cpy h1 (by omega)) (by decide)
    have g2 : z_43 b (m_br2 b (M 545 d * 4 + M 546 d) (m_br1 M)) := z_43_eq g1 (by unfold m_br2 m_wn; rw [z_ts5 (by omega)]; funext j; exact g_cpy_k (by omega))
    exact z_43_eq (hN _ h2 g2) (funext fun j => g_up_k (by omega))
  · exact g1
theorem z_path43 {d f r : Int} (hb : g_life b) (h4 : z_43 b M) (hr : 0 ≤ r ∧ r < 4) : z_43 b (m_path b d f r M) := by
  unfold g_life at hb
  intro j
  unfold m_path
  rw [g_up_k (by omega), g_up_k (by omega)]
  by_cases z : j = f
  · rw [z, g_up_s]; omega
  · rw [g_up_i z]; exact h4 j
theorem z_frl43 {d f : Int} {node : g_I → Int × g_I} (hb : g_life b) (hO : m_nk b node) (hN : z_N43 b node) (hf : 0 ≤ f ∧ f < 20) : ∀ (k : Nat) (r : Int) (M : g_I), 0 ≤ r → r + k ≤ 4 → l_ok b M → z_43 b M → z_43 b (m_frl node b d f k r M)
  | 0, _, M, _, _, _, h4 => h4
  | k + 1, r, M, h0, h1, h, h4 => by
    have hb5 := hb
    unfold g_life at hb5
    have hP := m_path_ok (d := d) hb h hf ⟨h0, by omega⟩
    have hB := m_branch_ok (d := d) hb hO hP
    have hT := m_ft_ok (r := r) hb hB
    have g1 := z_branch43 (d := d) hb hP hN (z_path43 hb h4 ⟨h0, by omega⟩)
    have g2 : z_43 b (m_ft r (m_branch node b d (m_path b d f r M))) := z_43_eq g1 (z_ft5 (by omega))
    rw [m_frl]
    split
    · exact z_43_eq g1 (z_ts5 (by omega))
    · split
      · exact z_43_eq g2 (z_ts5 (by omega))
      · split
        · exact z_frl43 hb hO hN hf k (r + 1) _ (by omega) (by omega) (m_tk_ok hb hT (by decide)) (z_43_eq g2 (z_ts5 (by omega)))
        · exact z_43_eq (z_43_eq g2 (z_ts5 (by omega)) : z_43 b (m_tk 59 (m_ft r (m_branch node b d (m_path b d f r M))))) (z_ts5 (by omega))
theorem z_fork43 {d : Int} {node : g_I → Int × g_I} (hb : g_life b) (hO : m_nk b node) (hN : z_N43 b node) (h : l_ok b M) (h1 : M b 1 < 20) (h2 : M 1 2 < M 1 1) (h4 : z_43 b M) : z_43 b (m_fork node b d M).2 := by
  have hb5 := hb
  unfold g_life at hb5
  have h8 := h.2.2.2.2.2.2.2.2
  have e : m_fk1 M b 1 = M b 1 := by
    unfold m_fk1
    rw [m_items_k (by omega) (by omega), m_adv_k (by omega)]
  have hw := z_fork_ok (d := d) hb h h1 h2
  have eu : ∀ (a : Nat) (i v : Int) (M : g_I), a ≠ b + 43 → g_up M a i v (b + 43) = M (b + 43) := fun a i v M h => funext fun j => g_up_k (Ne.symm h)
  have g1 : z_43 b (m_wn 40 (m_fk2 b d (M b 1) (m_fk1 M))) := z_43_eq h4 (by
    unfold m_wn
    rw [z_ts5 (by omega)]
    unfold m_fk2 m_f2 m_f1
    rw [eu _ _ _ _ (by omega), eu _ _ _ _ (by omega), eu _ _ _ _ (by omega), eu _ _ _ _ (by omega), eu _ _ _ _ (by omega)]
    exact z_it5 (by omega) (by omega))
  unfold m_fork
  dsimp only
  rw [e]
  exact z_frl43 hb hO hN ⟨h8.1, h1⟩ 4 0 _ (by decide) (by decide) hw g1
theorem z_nod43 {d : Int} {inner : Option (g_I → Int × g_I)} (hb : g_life b) (hO : ∀ f, inner = some f → m_nk b f) (hN : ∀ f, inner = some f → z_N43 b f) : z_N43 b (m_nod b d inner) := by
  intro M h h4
  have hb5 := hb
  unfold g_life at hb5
  have h1 := m_sk_ok hb h
  have h8 := h1.2.2.2.2.2.2.2.1
  have g1 : z_43 b (m_sk M) := z_43_eq h4 (z_ts5 (by omega))
  have gf : z_43 b (m_fl (m_sk M)) := z_43_eq g1 (z_ts5 (by omega))
  unfold m_nod
  by_cases c1 : m_sg M = 108 ∧ m_sk M b 0 < 12
  · rw [if_pos c1]
    unfold m_leaf
    dsimp only
    have e : m_lf1 (m_sk M) b 0 = m_sk M b 0 := by
      unfold m_lf1
      rw [m_items_k (by omega) (by omega), m_adv_k (by omega)]
    rw [e]
    exact z_43_eq (z_43_eq g1 (z_it5 (by omega) (by omega)) : z_43 b (m_lf1 (m_sk M))) (z_lf43 hb ⟨h8.1, c1.2⟩)
  · rw [if_neg c1]
    by_cases c2 : m_sg M = 102 ∧ m_sk M b 1 < 20
    · rw [if_pos c2]
      cases inner with
      | none => exact gf
      | some f => exact z_fork43 hb (hO f rfl) (hN f rfl) h1 c2.2 (m_sg_in h (by omega)) g1
    · rw [if_neg c2]
      exact gf
theorem z_node43 (hb : g_life b) : ∀ k : Nat, k ≤ 6 → z_N43 b (m_node b k)
  | 0, _ => z_nod43 hb (fun f e => by cases e) (fun f e => by cases e)
  | k + 1, hk => z_nod43 hb (fun f e => by cases e; exact m_node_ok hb k (by omega)) (fun f e => by cases e; exact z_node43 hb k (by omega))
end Z43
theorem z_life43 {b : Nat} {I : g_I} (hb : g_life b) (hx : x_lk I) (h : z_43 b I) : z_43 b (m_life b I) := by
  have hb5 := hb
  unfold g_life at hb5
  have g0 : z_43 b (m_beg b I) := z_43_eq h (by unfold m_beg; rw [g_ts_f (by omega)]; funext j; rw [g_up_k (by omega), g_up_k (by omega)])
  exact z_43_eq (z_node43 hb 6 (by decide) _ (x_beg_ok hb hx) g0) (by unfold m_life m_fin; exact z_ts5 (by omega))
