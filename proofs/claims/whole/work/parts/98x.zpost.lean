/-! ===== the readers' ends ===== -/
theorem z_numr_rng {B : Int → Int} {n a q lo hi : Int} (ha : 0 ≤ a ∧ a ≤ n) (h : (g_numr B n a q 2 lo hi).2.2 = -1) : lo ≤ (g_numr B n a q 2 lo hi).1 ∧ (g_numr B n a q 2 lo hi).1 ≤ hi := by
  have hp := g_pos_in (B := B) ha.2
  have hd := g_dg_in (B := B) (n := n) 2 (g_pos B n a) 0 hp.2 (by decide)
  have e4 : ((2 : Int)).toNat = 2 := rfl
  unfold g_numr at h ⊢
  rw [e4] at h ⊢
  have hne : ∀ p : Int, 0 ≤ p → ¬ g_q1 q p = -1 := fun p hp z => by
    unfold g_q1 at z
    split at z <;> omega
  by_cases e1 : g_pos B n a < n ∧ 48 ≤ B (g_pos B n a) ∧ B (g_pos B n a) ≤ 57
  · rw [if_pos e1] at h ⊢
    generalize hz : g_dg B n 2 (g_pos B n a) 0 = z at hd h ⊢
    by_cases e2 : z.2 < n ∧ 48 ≤ B z.2 ∧ B z.2 ≤ 57
    · rw [if_pos e2] at h
      exact absurd h (hne _ (by omega))
    · rw [if_neg e2] at h ⊢
      by_cases e3 : z.1 < lo ∨ hi < z.1
      · rw [if_pos e3] at h
        have hz2 : g_pos B n a + 1 ≤ z.2 := by
          rw [← hz, show (2 : Nat) = 1 + 1 from rfl, g_dg, if_pos e1]
          exact (g_dg_in (B := B) (n := n) 1 (g_pos B n a + 1) _ (by omega) (by omega)).1.1
        exact absurd h (hne _ (by omega))
      · rw [if_neg e3]
        dsimp only
        omega
  · rw [if_neg e1] at h
    exact absurd h (hne _ (by omega))
theorem z_itn_rng {b T X lo hi us : Nat} {L : Int} (hb : g_life b) (hT : T = 540 ∨ T = 542 ∨ T = 544) (hX : X < 3) (hlo : lo = 0 ∨ lo = 3 ∨ lo = 6) (hhi : hi < 9) : ∀ (k : Nat) (e : Int) (M : g_I), l_ok b M → m_itn T L X lo hi k e M 1 3 = -1 → (∀ j : Int, 0 ≤ j → j < L → M T j = g_st us j ∨ (g_st lo j ≤ M T j ∧ M T j ≤ g_st hi j)) → ∀ j : Int, 0 ≤ j → j < L → m_itn T L X lo hi k e M T j = g_st us j ∨ (g_st lo j ≤ m_itn T L X lo hi k e M T j ∧ m_itn T L X lo hi k e M T j ≤ g_st hi j)
  | 0, _, M, _, _, h => h
  | k + 1, e, M, hM, hq, h => by
    have hT1 : T ≠ 1 := by omega
    have hii := m_it_in (X := X) (c := m_sg M) hX
    rw [m_itn] at hq ⊢
    by_cases c1 : m_it X (m_sg M) < 0 ∨ L ≤ m_it X (m_sg M)
    · rw [if_pos c1]
      intro j a c
      rw [show m_sk M T = M T from g_ts_f hT1]; exact h j a c
    · rw [if_neg c1] at hq ⊢
      by_cases c2 : g_bit e (m_it X (m_sg M))
      · rw [if_pos c2]
        intro j a c
        rw [show m_fl (m_sk M) T = m_sk M T from g_ts_f hT1, show m_sk M T = M T from g_ts_f hT1]; exact h j a c
      · rw [if_neg c2] at hq ⊢
        have hsg : m_sg M ≠ -1 := by
          intro y
          have : m_it X (m_sg M) = -1 := by rw [y]; rfl
          omega
        have hlo2 := g_st_b (i := lo) (j := m_it X (m_sg M)) (by omega) (by omega)
        have ha := m_adv_ok hb (m_sk_ok hb hM) (m_sg_in hM hsg)
        have hn := m_nm_ok (lo := g_st lo (m_it X (m_sg M))) (hi := g_st hi (m_it X (m_sg M))) hb ha ⟨hlo2.2.2 hlo, hlo2.2.1⟩
        obtain ⟨XN, hXN⟩ : ∃ Z, Z = g_up (m_nm (g_st lo (m_it X (m_sg M))) (g_st hi (m_it X (m_sg M))) (m_adv (m_sk M))) T (m_it X (m_sg M)) (m_nv (g_st lo (m_it X (m_sg M))) (g_st hi (m_it X (m_sg M))) (m_adv (m_sk M))) := ⟨_, rfl⟩
        rw [← hXN] at hq ⊢
        have hXq : XN 1 3 = -1 := by
          by_cases y : XN 1 3 = -1
          · exact y
          · rw [z_itn_q hT1 k _ _ y] at hq; exact hq
        have hok : l_ok b XN := by
          rw [hXN]
          refine l_up hn.1 ?_ ⟨by omega, by omega⟩
          unfold g_life at hb
          omega
        refine z_itn_rng hb hT hX hlo hhi k _ XN hok hq (fun j a c => ?_)
        rw [hXN]
        by_cases y : j = m_it X (m_sg M)
        · rw [y, g_up_s]
          right
          rw [hXN, g_up_k (Ne.symm hT1)] at hXq
          unfold m_nm at hXq
          rw [g_ts_q] at hXq
          unfold m_nv
          exact z_numr_rng ha.2.1 hXq
        · rw [g_up_i y]
          unfold m_nm
          rw [show ∀ (A : g_I) (p q : Int), g_ts A p q T = A T from fun A p q => g_ts_f hT1, m_adv_k hT1, show m_sk M T = M T from g_ts_f hT1]
          exact h j a c
theorem z_items_rng {b T X lo hi us : Nat} {L : Int} {M : g_I} (hb : g_life b) (hT : T = 540 ∨ T = 542 ∨ T = 544) (hX : X < 3) (hlo : lo = 0 ∨ lo = 3 ∨ lo = 6) (hhi : hi < 9) (hu : us < 9) (hul : (((g_sar.getD us ("", [])).2).length : Int) = L) (h : l_ok b M) (hq : m_items T L X lo hi us M 1 3 = -1) : ∀ j : Int, 0 ≤ j → j < L → m_items T L X lo hi us M T j = g_st us j ∨ (g_st lo j ≤ m_items T L X lo hi us M T j ∧ m_items T L X lo hi us M T j ≤ g_st hi j) := by
  unfold m_items at hq ⊢
  exact z_itn_rng hb hT hX hlo hhi _ _ _ (m_us_ok hb h hT hu) hq (fun j a c => Or.inl (z_us_t a (by omega)))
theorem z_rng0 : (g_st 2 0 = 10 ∧ g_st 2 1 = 50 ∧ g_st 2 2 = 40 ∧ g_st 2 3 = 0 ∧ g_st 2 4 = 5) ∧ (g_st 0 0 = 0 ∧ g_st 0 1 = 0 ∧ g_st 0 2 = 1 ∧ g_st 0 3 = 0 ∧ g_st 0 4 = 0) ∧ (g_st 1 0 = 99 ∧ g_st 1 1 = 99 ∧ g_st 1 2 = 99 ∧ g_st 1 3 = 1 ∧ g_st 1 4 = 9) ∧ (g_st 5 0 = 20 ∧ g_st 5 1 = 0 ∧ g_st 3 0 = 1 ∧ g_st 3 1 = 0 ∧ g_st 4 0 = 99 ∧ g_st 4 1 = 1) ∧ (g_st 8 0 = 1 ∧ g_st 8 1 = 0 ∧ g_st 8 2 = 0 ∧ g_st 8 3 = 0 ∧ g_st 8 4 = -1) ∧ (g_st 6 0 = 1 ∧ g_st 6 1 = 0 ∧ g_st 6 2 = 0 ∧ g_st 6 3 = 0 ∧ g_st 6 4 = 0) ∧ (g_st 7 0 = 9 ∧ g_st 7 1 = 99 ∧ g_st 7 2 = 99 ∧ g_st 7 3 = 99 ∧ g_st 7 4 = 9) := by decide +kernel
theorem z_rngL {b : Nat} {M : g_I} (hb : g_life b) (h : l_ok b M) (hq : m_items 540 5 0 0 1 2 M 1 3 = -1) : (0 ≤ m_items 540 5 0 0 1 2 M 540 0 ∧ m_items 540 5 0 0 1 2 M 540 0 ≤ 99) ∧ (0 ≤ m_items 540 5 0 0 1 2 M 540 1 ∧ m_items 540 5 0 0 1 2 M 540 1 ≤ 99) ∧ (1 ≤ m_items 540 5 0 0 1 2 M 540 2 ∧ m_items 540 5 0 0 1 2 M 540 2 ≤ 99) ∧ (0 ≤ m_items 540 5 0 0 1 2 M 540 3 ∧ m_items 540 5 0 0 1 2 M 540 3 ≤ 1) ∧ 0 ≤ m_items 540 5 0 0 1 2 M 540 4 ∧ m_items 540 5 0 0 1 2 M 540 4 ≤ 9 := by
  have hr := z_items_rng (us := 2) hb (by decide) (by decide) (by decide) (by decide) (by decide) (by rw [z_sarl2]; rfl) h hq
  obtain ⟨⟨a0, a1, a2, a3, a4⟩, ⟨b0, b1, b2, b3, b4⟩, ⟨c0, c1, c2, c3, c4⟩, -⟩ := z_rng0
  have h0 := hr 0 (by decide) (by decide)
  have h1 := hr 1 (by decide) (by decide)
  have h2 := hr 2 (by decide) (by decide)
  have h3 := hr 3 (by decide) (by decide)
  have h4 := hr 4 (by decide) (by decide)
  generalize m_items 540 5 0 0 1 2 M = Y at h0 h1 h2 h3 h4 ⊢
  omega
theorem z_rngF {b : Nat} {M : g_I} (hb : g_life b) (h : l_ok b M) (hq : m_items 542 2 1 3 4 5 M 1 3 = -1) : (1 ≤ m_items 542 2 1 3 4 5 M 542 0 ∧ m_items 542 2 1 3 4 5 M 542 0 ≤ 99) ∧ 0 ≤ m_items 542 2 1 3 4 5 M 542 1 ∧ m_items 542 2 1 3 4 5 M 542 1 ≤ 1 := by
  have hr := z_items_rng (us := 5) hb (by decide) (by decide) (by decide) (by decide) (by decide) (by rw [z_sarl5]; rfl) h hq
  obtain ⟨-, -, -, ⟨d0, d1, d2, d3, d4, d5⟩, -⟩ := z_rng0
  have h0 := hr 0 (by decide) (by decide)
  have h1 := hr 1 (by decide) (by decide)
  generalize m_items 542 2 1 3 4 5 M = Y at h0 h1 ⊢
  omega
theorem z_rngB {b : Nat} {M : g_I} (hb : g_life b) (h : l_ok b M) (hq : m_items 544 5 2 6 7 8 M 1 3 = -1) : (1 ≤ m_items 544 5 2 6 7 8 M 544 0 ∧ m_items 544 5 2 6 7 8 M 544 0 ≤ 9) ∧ (0 ≤ m_items 544 5 2 6 7 8 M 544 1 ∧ m_items 544 5 2 6 7 8 M 544 1 ≤ 99) ∧ (0 ≤ m_items 544 5 2 6 7 8 M 544 2 ∧ m_items 544 5 2 6 7 8 M 544 2 ≤ 99) ∧ (0 ≤ m_items 544 5 2 6 7 8 M 544 3 ∧ m_items 544 5 2 6 7 8 M 544 3 ≤ 99) ∧ -1 ≤ m_items 544 5 2 6 7 8 M 544 4 ∧ m_items 544 5 2 6 7 8 M 544 4 ≤ 9 := by
  have hr := z_items_rng (us := 8) hb (by decide) (by decide) (by decide) (by decide) (by decide) (by rw [z_sarl8]; rfl) h hq
  obtain ⟨-, -, -, -, ⟨a0, a1, a2, a3, a4⟩, ⟨b0, b1, b2, b3, b4⟩, ⟨c0, c1, c2, c3, c4⟩⟩ := z_rng0
  have h0 := hr 0 (by decide) (by decide)
  have h1 := hr 1 (by decide) (by decide)
  have h2 := hr 2 (by decide) (by decide)
  have h3 := hr 3 (by decide) (by decide)
  have h4 := hr 4 (by decide) (by decide)
  generalize m_items 544 5 2 6 7 8 M = Y at h0 h1 h2 h3 h4 ⊢
  omega
/-- cells where a LIFE is read -/
abbrev z_sc (k : Nat) (j : Int) : Prop := (k = 708 ∧ 252 ≤ j) ∨ (k = 709 ∧ 270 ≤ j) ∨ (k = 710 ∧ 1296 ≤ j) ∨ (k = 711 ∧ j = 3) ∨ (k = 712 ∧ j = 3)
abbrev z_fr (N N' : g_I) : Prop := ∀ (k : Nat) (j : Int), ¬ z_sc k j → N' k j = N k j
theorem z_env_fr {N N' : g_I} {n : Int} {Lf : Int → Int} (h : y_env N 704 240 0 n Lf) (hf : z_fr N N') (hg : ∀ k j, g32 (N' k j)) : y_env N' 704 240 0 n Lf := y_env_cg h (fun j => hf 703 j (by unfold z_sc; omega)) (funext fun j => hf 704 j (by unfold z_sc; omega)) (funext fun j => hf 707 j (by unfold z_sc; omega)) hg
theorem z_by_fr {N N' : g_I} {B : Int → Int} (hf : z_fr N N') (h : q_by N 704 0 = B) : q_by N' 704 0 = B := (z_by_cg (funext fun j => hf 704 j (by unfold z_sc; omega))).trans h
/-- a node told: both readers' rows behind it -/
def z_R (X Y : g_I) (b : Nat) (N' : g_I) (dep : Int) (lv : Int → Int) (v : Int) : Prop := ∃ lv' : Int → Int, (∀ g : Int, g < X b 1 → lv' g = lv g) ∧ z_Z Y b N' dep (-1) 0 lv' ∧ z_old X Y b ∧ z_new X Y b dep lv' v
/-- a node's end; Y: the class's end -/
def z_nd (n d : Int) (X : g_I) (b : Nat) (N : g_I) (J : g_J) (R : g_R) (dep : Int) (lv : Int → Int) (Y : Int × g_I) : g_P := fun r n' I' J' R' => n' = g_n ∧ J' = J ∧ R' = R ∧ ∃ (v a' : Int) (N' : g_I), r = some (gvI v) ∧ I' = y_M N' a' (Y.2 1 3) d ∧ (0 ≤ a' ∧ a' ≤ n) ∧ g32 v ∧ (∀ k j, g32 (N' k j)) ∧ z_fr N N' ∧ (Y.2 1 3 = -1 → v = Y.1 ∧ a' = Y.2 1 2 ∧ z_R X Y.2 b N' dep lv v)
theorem z_fork_after {b : Nat} {M : g_I} {d : Int} {node : g_I → Int × g_I} (hb : g_life b) (hO : m_nk b node) (hN : z_KN b (d + 1) node) (h : l_ok b M) (h1 : M b 1 < 20) (h2 : M 1 2 < M 1 1) : (m_fork node b d M).1 = 100 + M b 1 ∧ (m_fork node b d M).2 = m_frl node b d (M b 1) 4 0 (m_wn 40 (m_fk2 b d (M b 1) (m_fk1 M))) ∧ z_K b (m_wn 40 (m_fk2 b d (M b 1) (m_fk1 M))) (m_fork node b d M).2 ∧ z_K b (m_fk1 M) (m_fork node b d M).2 := by
  have hb5 := hb
  unfold g_life at hb5
  have h8 := h.2.2.2.2.2.2.2.2
  have e : m_fk1 M b 1 = M b 1 := by
    unfold m_fk1
    rw [m_items_k (by omega) (by omega), m_adv_k (by omega)]
  have hw := z_fork_ok (d := d) hb h h1 h2
  obtain ⟨f1, f2⟩ := z_frl_K hb hO hN ⟨h8.1, h1⟩ 4 0 _ (by decide) (by decide) hw
  unfold m_fork
  dsimp only
  rw [e]
  exact ⟨rfl, rfl, f1, ((z_K.fk2 (by omega)).tr z_K.wn).tr f1⟩
theorem z_frl_after {b : Nat} {M : g_I} {d f : Int} {node : g_I → Int × g_I} (hb : g_life b) (hO : m_nk b node) (hN : z_KN b (d + 1) node) (hf : 0 ≤ f ∧ f < 20) {k : Nat} {r : Int} (h0 : 0 ≤ r) (h1 : r + (k + 1 : Nat) ≤ 4) (h : l_ok b M) : z_K b (m_branch node b d (m_path b d f r M)) (m_frl node b d f (k + 1) r M) := by
  have hP := m_path_ok (d := d) hb h hf ⟨h0, by omega⟩
  have hB := m_branch_ok (d := d) hb hO hP
  have hT := m_ft_ok (r := r) hb hB
  rw [m_frl]
  split
  · exact z_K.tk
  · split
    · exact z_ft_K.tr z_K.fl
    · split
      · exact (z_ft_K.tr z_K.tk).tr (z_frl_K hb hO hN hf k (r + 1) _ (by omega) (by omega) (m_tk_ok hb hT (by decide) : l_ok b (m_tk 59 (m_ft r (m_branch node b d (m_path b d f r M)))))).1
      · exact (z_ft_K.tr z_K.tk).tr z_K.fl
