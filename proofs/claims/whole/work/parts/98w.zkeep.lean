/-! ===== LIVES are read: what the class's reader keeps ===== -/
abbrev z_in (b k : Nat) : Prop := k = 1 ∨ k = 540 ∨ k = 542 ∨ k = 544 ∨ k = 545 ∨ k = 546 ∨ (b ≤ k ∧ k < b + 128)
/-- tape's length and all other cells stay; a fault sticks -/
def z_K (b : Nat) (M M' : g_I) : Prop := M' 1 1 = M 1 1 ∧ (∀ k : Nat, ¬ z_in b k → M' k = M k) ∧ (¬ M 1 3 = -1 → M' 1 3 = M 1 3)
section ZK
variable {b : Nat} {M M' M'' : g_I}
theorem z_K.rf : z_K b M M := ⟨rfl, fun _ _ => rfl, fun _ => rfl⟩
theorem z_K.tr (h : z_K b M M') (h2 : z_K b M' M'') : z_K b M M'' := ⟨h2.1.trans h.1, fun k hk => (h2.2.1 k hk).trans (h.2.1 k hk), fun hq => (h2.2.2 (by rw [h.2.2 hq]; exact hq)).trans (h.2.2 hq)⟩
theorem z_K.up {k : Nat} {i v : Int} (h1 : k ≠ 1) (h : z_in b k) : z_K b M (g_up M k i v) := ⟨g_up_k (Ne.symm h1), fun a ha => funext fun j => g_up_k (fun z => ha (by rw [z]; exact h)), fun _ => g_up_k (Ne.symm h1)⟩
theorem z_K.ts {a q : Int} (hq : ¬ M 1 3 = -1 → q = M 1 3) : z_K b M (g_ts M a q) := ⟨g_ts_n, fun k hk => g_ts_f (fun z => hk (Or.inl z)), fun h => g_ts_q.trans (hq h)⟩
theorem z_q1s {q p : Int} (h : ¬ q = -1) : g_q1 q p = q := if_neg h
theorem z_K.sk : z_K b M (m_sk M) := z_K.ts (fun _ => rfl)
theorem z_K.fl : z_K b M (m_fl M) := z_K.ts (fun h => z_q1s h)
theorem z_K.tk {c : Int} : z_K b M (m_tk c M) := z_K.ts (fun _ => rfl)
theorem z_K.wn {c : Int} : z_K b M (m_wn c M) := z_K.ts (fun h => by split; rfl; exact z_q1s h)
theorem z_K.fin : z_K b M (m_fin M) := z_K.ts (fun h => by split; rfl; exact z_q1s h)
theorem z_K.nm {lo hi : Int} : z_K b M (m_nm lo hi M) := z_K.ts (fun h => z_numr_q h)
theorem z_K.adv : z_K b M (m_adv M) := ⟨g_up_i (by decide), fun k hk => funext fun j => g_up_k (fun z => hk (Or.inl z)), fun _ => g_up_i (by decide)⟩
theorem z_K.itn {T X lo hi : Nat} {L : Int} (hT : T = 540 ∨ T = 542 ∨ T = 544) : ∀ (k : Nat) (e : Int) (M : g_I), z_K b M (m_itn T L X lo hi k e M)
  | 0, _, M => z_K.rf
  | k + 1, e, M => by
    rw [m_itn]
    split
    · exact z_K.sk
    · split
      · exact z_K.sk.tr z_K.fl
      · exact ((z_K.sk.tr z_K.adv).tr z_K.nm).tr ((z_K.up (by omega) (by unfold z_in; omega)).tr (z_K.itn hT k _ _))
theorem z_K.us {T us : Nat} (hT : T = 540 ∨ T = 542 ∨ T = 544) : z_K b M (m_us T us M) := ⟨z_us_1 (by omega), fun k hk => z_us_k (fun z => hk (by unfold z_in; omega)), fun _ => z_us_1 (by omega)⟩
theorem z_K.items {T X lo hi us : Nat} {L : Int} (hT : T = 540 ∨ T = 542 ∨ T = 544) : z_K b M (m_items T L X lo hi us M) := (z_K.us hT).tr (z_K.itn hT _ _ _)
theorem z_K.stp {s i f r : Int} (hs : 0 ≤ s ∧ s < 12) : z_K b M (m_stp b s i f r M) := by
  have hw : ∀ M : g_I, z_K b M (m_way b s i f r M) := fun M => (z_K.up (by omega) (by unfold z_in; omega)).tr (z_K.up (by omega) (by unfold z_in; omega))
  have hb : ∀ M : g_I, z_K b M (m_bhd b s f M) := fun M => z_K.up (by omega) (by unfold z_in; omega)
  have ha : ∀ (c v : Int) (M : g_I), z_K b M (m_add b s f r c v M) := fun c v M => z_K.up (by omega) (by unfold z_in; omega)
  have hf : ∀ M : g_I, z_K b M (m_fct b s f r M) := fun M => z_K.up (by omega) (by unfold z_in; omega)
  exact (hw _).tr ((hb _).tr ((ha _ _ _).tr ((ha _ _ _).tr ((ha _ _ _).tr (hf _)))))
theorem z_K.sts {s : Int} (hs : 0 ≤ s ∧ s < 12) : ∀ (n : Nat) (M : g_I), z_K b M (m_sts b s n M)
  | 0, M => z_K.rf
  | n + 1, M => (z_K.sts hs n M).tr (z_K.stp hs)
theorem z_K.row {s : Int} (hs : 0 ≤ s ∧ s < 12) : z_K b M (m_row b s M) := by
  have h1 : ∀ (c k : Int) (M : g_I), z_K b M (m_r1 b s c k M) := fun c k M => z_K.up (by omega) (by unfold z_in; omega)
  have h0 : ∀ (c : Int) (M : g_I), z_K b M (m_r0 b s c M) := fun c M => z_K.up (by omega) (by unfold z_in; omega)
  exact (h1 _ _ _).tr ((h1 _ _ _).tr ((h0 _ _).tr ((h1 _ _ _).tr ((h1 _ _ _).tr ((h1 _ _ _).tr (h0 _ _))))))
theorem z_K.lf2 {d s : Int} (hb : b ≠ 1) (hs : 0 ≤ s ∧ s < 12) : z_K b M (m_lf2 b d s M) := by
  have h1 : z_K b M (g_up M b 0 (s + 1)) := z_K.up hb (by unfold z_in; omega)
  exact (h1.tr (z_K.row hs)).tr ((z_K.up (by omega) (by unfold z_in; omega)).tr (z_K.sts hs _ _))
theorem z_K.lf1 : z_K b M (m_lf1 M) := z_K.adv.tr (z_K.items (by decide))
theorem z_K.path {d f r : Int} : z_K b M (m_path b d f r M) := (z_K.up (by omega) (by unfold z_in; omega)).tr ((z_K.up (by decide) (by unfold z_in; omega)).tr (z_K.up (by decide) (by unfold z_in; omega)))
theorem z_K.cpy {p : Int} (hp : 0 ≤ p ∧ p < 80) : z_K b M (g_cpy M 544 0 (b + 47 + p.toNat) 0 5) := ⟨g_cpy_k (by omega), fun k hk => funext fun j => g_cpy_k (fun z => hk (by unfold z_in; omega)), fun _ => g_cpy_k (by omega)⟩
theorem z_K.fk2 {d f : Int} (hb : b ≠ 1) : z_K b M (m_fk2 b d f M) := by
  have h1 : ∀ (c : Nat) (k : Int) (M : g_I), c = 41 ∨ c = 42 → z_K b M (m_f1 b c f k M) := fun c k M hc => z_K.up (by omega) (by unfold z_in; omega)
  have h0 : z_K b M (g_up M b 1 (f + 1)) := z_K.up hb (by unfold z_in; omega)
  have h2 : ∀ M : g_I, z_K b M (m_f2 b d f M) := fun M => z_K.up (by omega) (by unfold z_in; omega)
  exact (h0.tr (h1 41 _ _ (by decide))).tr ((h1 42 _ _ (by decide)).tr ((h2 _).tr (z_K.up (by omega) (by unfold z_in; omega))))
/-- what a node keeps: of the path all ahead of it too -/
def z_KN (b : Nat) (d : Int) (node : g_I → Int × g_I) : Prop := ∀ M : g_I, l_ok b M → z_K b M (node M).2 ∧ ∀ i : Int, i < d → (node M).2 545 i = M 545 i ∧ (node M).2 546 i = M 546 i
abbrev z_PP (d : Int) (M M' : g_I) : Prop := ∀ i : Int, i < d → M' 545 i = M 545 i ∧ M' 546 i = M 546 i
theorem z_PP.tr {d : Int} (h : z_PP d M M') (h2 : z_PP d M' M'') : z_PP d M M'' := fun i hi => ⟨(h2 i hi).1.trans (h i hi).1, (h2 i hi).2.trans (h i hi).2⟩
theorem z_PP.rf {d : Int} : z_PP d M M := fun _ _ => ⟨rfl, rfl⟩
theorem z_PP.of {d : Int} (h5 : M' 545 = M 545) (h6 : M' 546 = M 546) : z_PP d M M' := fun i _ => ⟨by rw [h5], by rw [h6]⟩
theorem z_ts5 {a q : Int} {k : Nat} (hk : k ≠ 1) : g_ts M a q k = M k := g_ts_f hk
theorem z_it5 {T X lo hi us k : Nat} {L : Int} (h1 : k ≠ 1) (h2 : k ≠ T) : m_items T L X lo hi us (m_adv M) k = M k := (m_items_k h1 h2).trans (m_adv_k h1)
theorem z_sts5 {s : Int} (hb : g_life b) (hs : 0 ≤ s ∧ s < 12) {k : Nat} (hk : k = 545 ∨ k = 546 ∨ k = 1) : ∀ (n : Nat) (M : g_I), m_sts b s n M k = M k
  | 0, M => rfl
  | n + 1, M => by
    unfold g_life at hb
    have e : ∀ (a : Nat) (i v : Int) (M : g_I), a ≠ k → g_up M a i v k = M k := fun a i v M h => funext fun j => g_up_k (Ne.symm h)
    rw [m_sts]
    unfold m_step m_stp m_fct m_add m_bhd m_way
    rw [e _ _ _ _ (by omega), e _ _ _ _ (by omega), e _ _ _ _ (by omega), e _ _ _ _ (by omega), e _ _ _ _ (by omega), e _ _ _ _ (by omega), e _ _ _ _ (by omega)]
    exact z_sts5 (by unfold g_life; exact hb) hs hk n M
theorem z_lf5 {d s : Int} (hb : g_life b) (hs : 0 ≤ s ∧ s < 12) {k : Nat} (hk : k = 545 ∨ k = 546 ∨ k = 1) : m_lf2 b d s M k = M k := by
  have hb5 := hb
  unfold g_life at hb5
  have e : ∀ (a : Nat) (i v : Int) (M : g_I), a ≠ k → g_up M a i v k = M k := fun a i v M h => funext fun j => g_up_k (Ne.symm h)
  unfold m_lf2
  rw [z_sts5 hb hs hk, e _ _ _ _ (by omega)]
  unfold m_row m_r0 m_r1
  rw [e _ _ _ _ (by omega), e _ _ _ _ (by omega), e _ _ _ _ (by omega), e _ _ _ _ (by omega), e _ _ _ _ (by omega), e _ _ _ _ (by omega), e _ _ _ _ (by omega), e _ _ _ _ (by omega)]
theorem z_leaf_K {d : Int} (hb : g_life b) (h8 : 0 ≤ M b 0 ∧ M b 0 < 12) : z_K b M (m_leaf b d M).2 ∧ z_PP d M (m_leaf b d M).2 := by
  have hb5 := hb
  unfold g_life at hb5
  have e : m_lf1 M b 0 = M b 0 := by
    unfold m_lf1
    rw [m_items_k (by omega) (by omega), m_adv_k (by omega)]
  unfold m_leaf
  dsimp only
  rw [e]
  refine ⟨z_K.lf1.tr (z_K.lf2 (by omega) h8), z_PP.of ?_ ?_⟩
  · rw [z_lf5 hb h8 (Or.inl rfl)]; exact z_it5 (by decide) (by decide)
  · rw [z_lf5 hb h8 (Or.inr (Or.inl rfl))]; exact z_it5 (by decide) (by decide)
theorem z_branch_K {d : Int} {node : g_I → Int × g_I} (hb : g_life b) (h : l_ok b M) (hN : z_KN b (d + 1) node) : z_K b M (m_branch node b d M) ∧ z_PP (d + 1) M (m_branch node b d M) := by
  have hb5 := hb
  unfold g_life at hb5
  have hf := h.2.2.2.2.2.1 d
  have hr := h.2.2.2.2.2.2.1 d
  have h1 : l_ok b (m_br1 M) := m_items_ok hb h (by decide) (by decide) (by decide) (by decide) (by decide)
  have k1 : z_K b M (m_br1 M) := z_K.items (by decide)
  have p1 : z_PP (d + 1) M (m_br1 M) := z_PP.of (m_items_k (by decide) (by decide)) (m_items_k (by decide) (by decide))
  unfold m_branch
  split
  · have h2 : l_ok b (m_br2 b (M 545 d * 4 + M 546 d) (m_br1 M)) := m_wn_ok hb (l_cpy h1 (by omega)) (by decide)
    obtain ⟨n1, n2⟩ := hN _ h2
    have k2 : z_K b (m_br1 M) (m_br2 b (M 545 d * 4 + M 546 d) (m_br1 M)) := (z_K.cpy (by omega)).tr z_K.wn
    have p2 : z_PP (d + 1) (m_br1 M) (m_br2 b (M 545 d * 4 + M 546 d) (m_br1 M)) := by
      refine z_PP.of ?_ ?_
      · unfold m_br2 m_wn; rw [z_ts5 (by decide)]; funext j; exact g_cpy_k (by omega)
      · unfold m_br2 m_wn; rw [z_ts5 (by decide)]; funext j; exact g_cpy_k (by omega)
    refine ⟨(k1.tr k2).tr (n1.tr (z_K.up (by omega) (by unfold z_in; omega))), (p1.tr p2).tr (z_PP.tr n2 (z_PP.of ?_ ?_))⟩
    · funext j; exact g_up_k (by omega)
    · funext j; exact g_up_k (by omega)
  · exact ⟨k1, p1⟩
theorem z_path_P {d f r : Int} (hb : g_life b) : z_PP d M (m_path b d f r M) := by
  unfold g_life at hb
  intro i hi
  unfold m_path
  exact ⟨by rw [g_up_k (by decide), g_up_i (by omega), g_up_k (by omega)], by rw [g_up_i (by omega), g_up_k (by decide), g_up_k (by omega)]⟩
theorem z_ft_K {r : Int} : z_K b M (m_ft r M) := by
  unfold m_ft
  split
  · exact z_K.tk
  · exact z_K.rf
theorem z_ft5 {r : Int} {k : Nat} (hk : k ≠ 1) : m_ft r M k = M k := by
  unfold m_ft
  split
  · exact z_ts5 hk
  · rfl
theorem z_frl_K {d f : Int} {node : g_I → Int × g_I} (hb : g_life b) (hO : m_nk b node) (hN : z_KN b (d + 1) node) (hf : 0 ≤ f ∧ f < 20) : ∀ (k : Nat) (r : Int) (M : g_I), 0 ≤ r → r + k ≤ 4 → l_ok b M → z_K b M (m_frl node b d f k r M) ∧ z_PP d M (m_frl node b d f k r M)
  | 0, _, M, _, _, _ => ⟨z_K.rf, z_PP.rf⟩
  | k + 1, r, M, h0, h1, h => by
    have hP := m_path_ok (d := d) hb h hf ⟨h0, by omega⟩
    have hB := m_branch_ok (d := d) hb hO hP
    have hT := m_ft_ok (r := r) hb hB
    obtain ⟨b1, b2⟩ := z_branch_K hb hP hN
    have k1 : z_K b M (m_branch node b d (m_path b d f r M)) := z_K.path.tr b1
    have p1 : z_PP d M (m_branch node b d (m_path b d f r M)) := (z_path_P hb).tr (fun i hi => b2 i (by omega))
    have p2 : z_PP d M (m_ft r (m_branch node b d (m_path b d f r M))) := p1.tr (z_PP.of (z_ft5 (by decide)) (z_ft5 (by decide)))
    rw [m_frl]
    split
    · exact ⟨k1.tr z_K.tk, p1.tr (z_PP.of (z_ts5 (by decide)) (z_ts5 (by decide)))⟩
    · split
      · exact ⟨(k1.tr z_ft_K).tr z_K.fl, p2.tr (z_PP.of (z_ts5 (by decide)) (z_ts5 (by decide)))⟩
      · split
        · obtain ⟨i1, i2⟩ := z_frl_K hb hO hN hf k (r + 1) _ (by omega) (by omega) (m_tk_ok hb hT (by decide) : l_ok b (m_tk 59 (m_ft r (m_branch node b d (m_path b d f r M)))))
          exact ⟨((k1.tr z_ft_K).tr z_K.tk).tr i1, (p2.tr (z_PP.of (z_ts5 (by decide)) (z_ts5 (by decide)))).tr i2⟩
        · exact ⟨((k1.tr z_ft_K).tr z_K.tk).tr z_K.fl, (p2.tr (z_PP.of (z_ts5 (by decide)) (z_ts5 (by decide)))).tr (z_PP.of (z_ts5 (by decide)) (z_ts5 (by decide)))⟩
theorem z_fk5 {d f : Int} (hb : g_life b) {k : Nat} (hk : k = 545 ∨ k = 546) : m_fk2 b d f M k = M k := by
  unfold g_life at hb
  have e : ∀ (a : Nat) (i v : Int) (M : g_I), a ≠ k → g_up M a i v k = M k := fun a i v M h => funext fun j => g_up_k (Ne.symm h)
  unfold m_fk2 m_f2 m_f1
  rw [e _ _ _ _ (by omega), e _ _ _ _ (by omega), e _ _ _ _ (by omega), e _ _ _ _ (by omega), e _ _ _ _ (by omega)]
theorem z_fork_ok {d : Int} (hb : g_life b) (h : l_ok b M) (h1 : M b 1 < 20) (h2 : M 1 2 < M 1 1) : l_ok b (m_wn 40 (m_fk2 b d (M b 1) (m_fk1 M))) := by
  have hb5 := hb
  unfold g_life at hb5
  have ha := m_adv_ok hb h h2
  have hi : l_ok b (m_fk1 M) := m_items_ok hb ha (by decide) (by decide) (by decide) (by decide) (by decide)
  have h8 := h.2.2.2.2.2.2.2.2
  refine m_wn_ok hb ?_ (by decide)
  have g0 := l_fk hi hb (v := M b 1 + 1) ⟨by omega, by omega⟩
  have hx : ∀ (c : Nat) (k : Int) (M' : g_I), c = 41 ∨ c = 42 → l_ok b M' → l_ok b (m_f1 b c (M b 1) k M') := fun c k M' hc h => l_up h (by omega) (h.1 _ _)
  have g1 := hx 42 1 _ (by decide) (hx 41 0 _ (by decide) g0)
  refine l_up (l_up g1 (by omega) ?_) (by omega) ⟨by decide, by decide⟩
  split
  · exact ⟨by decide, by decide⟩
  · exact g1.1 _ _
theorem z_fork_K {d : Int} {node : g_I → Int × g_I} (hb : g_life b) (hO : m_nk b node) (hN : z_KN b (d + 1) node) (h : l_ok b M) (h1 : M b 1 < 20) (h2 : M 1 2 < M 1 1) : z_K b M (m_fork node b d M).2 ∧ z_PP d M (m_fork node b d M).2 := by
  have hb5 := hb
  unfold g_life at hb5
  have h8 := h.2.2.2.2.2.2.2.2
  have e : m_fk1 M b 1 = M b 1 := by
    unfold m_fk1
    rw [m_items_k (by omega) (by omega), m_adv_k (by omega)]
  have hw := z_fork_ok (d := d) hb h h1 h2
  have k1 : z_K b M (m_fk1 M) := z_K.adv.tr (z_K.items (by decide))
  unfold m_fork
  dsimp only
  rw [e]
  obtain ⟨f1, f2⟩ := z_frl_K hb hO hN ⟨h8.1, h1⟩ 4 0 _ (by decide) (by decide) hw
  refine ⟨(k1.tr ((z_K.fk2 (by omega)).tr z_K.wn)).tr f1, z_PP.tr (z_PP.of ?_ ?_) f2⟩
  · unfold m_wn; rw [z_ts5 (by decide), z_fk5 hb (Or.inl rfl)]; exact z_it5 (by decide) (by decide)
  · unfold m_wn; rw [z_ts5 (by decide), z_fk5 hb (Or.inr rfl)]; exact z_it5 (by decide) (by decide)
theorem z_nod_K {d : Int} {inner : Option (g_I → Int × g_I)} (hb : g_life b) (hd : 0 ≤ d ∧ d ≤ 6) (hO : ∀ f, inner = some f → m_nk b f) (hN : ∀ f, inner = some f → z_KN b (d + 1) f) : z_KN b d (m_nod b d inner) := by
  intro M h
  have h1 := m_sk_ok hb h
  have h8 := h1.2.2.2.2.2.2.2.1
  have p0 : z_PP d M (m_sk M) := z_PP.of (z_ts5 (by decide)) (z_ts5 (by decide))
  have pf : z_PP d M (m_fl (m_sk M)) := p0.tr (z_PP.of (z_ts5 (by decide)) (z_ts5 (by decide)))
  unfold m_nod
  by_cases c1 : m_sg M = 108 ∧ m_sk M b 0 < 12
  · rw [if_pos c1]
    obtain ⟨a1, a2⟩ := z_leaf_K (d := d) hb ⟨h8.1, c1.2⟩
    exact ⟨z_K.sk.tr a1, p0.tr a2⟩
  · rw [if_neg c1]
    by_cases c2 : m_sg M = 102 ∧ m_sk M b 1 < 20
    · rw [if_pos c2]
      cases inner with
      | none => exact ⟨z_K.sk.tr z_K.fl, pf⟩
      | some f =>
        obtain ⟨a1, a2⟩ := z_fork_K hb (hO f rfl) (hN f rfl) h1 c2.2 (m_sg_in h (by omega))
        exact ⟨z_K.sk.tr a1, p0.tr a2⟩
    · rw [if_neg c2]
      exact ⟨z_K.sk.tr z_K.fl, pf⟩
theorem z_node_K (hb : g_life b) : ∀ k : Nat, k ≤ 6 → z_KN b (6 - (k : Int)) (m_node b k)
  | 0, _ => z_nod_K hb ⟨by decide, by decide⟩ (fun f e => by cases e) (fun f e => by cases e)
  | k + 1, hk => z_nod_K hb ⟨by omega, by omega⟩ (fun f e => by cases e; exact m_node_ok hb k (by omega)) (fun f e => by
      cases e
      have := z_node_K hb k (by omega)
      rw [show (6 : Int) - ((k + 1 : Nat) : Int) + 1 = 6 - (k : Int) by omega]
      exact this)
end ZK
