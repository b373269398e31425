theorem g_i2c_id {c : Int} (h : 0 ≤ c ∧ c ≤ 255) : g_i2c' c = c := by
  have h2 : ∀ c : Fin 256, g_i2c' (c.val : Int) = (c.val : Int) := by decide +kernel
  have := h2 ⟨c.toNat, by omega⟩
  rwa [show (((⟨c.toNat, by omega⟩ : Fin 256).val : Nat) : Int) = c by show ((c.toNat : Nat) : Int) = c; omega] at this
theorem t_sg_b {B : Int → Int} {n : Int} {s : g_S} (hB : ∀ j, 0 ≤ B j ∧ B j ≤ 255) : -1 ≤ t_sg B n s ∧ t_sg B n s ≤ 255 := by
  unfold t_sg g_sgn
  split
  · have := hB (g_pos B n s.1); omega
  · omega
section TOK2
variable {B : Int → Int} {n : Int}
theorem t_lt_in {c : Int} : -1 ≤ t_lt c ∧ t_lt c < 8 := by
  unfold t_lt
  split
  · decide
  · have := g_first_in (p := fun j => decide (g_tx 3 j = c)) 8 0 (by decide)
    omega
theorem t_lp_ok {o1 o2 : Int} {item : g_S → g_S} (hi : ∀ s, t_ok n s → t_ok n (item s)) (h1 : 0 ≤ o1 ∧ o1 ≤ 200) (h2 : 0 ≤ o2 ∧ o2 ≤ 200) : ∀ (k : Nat) (s : g_S), t_ok n s → t_ok n (t_lp B n o1 o2 item k s)
  | 0, s, h => h
  | k + 1, s, h => by
    rw [t_lp]
    by_cases c : t_sg B n s = o1 ∨ t_sg B n s = o2
    · rw [if_pos c]
      exact t_lp_ok hi h1 h2 k _ (t_put_ok (hi _ (t_adv_ok (t_sk_ok h) (t_sg_in h (by omega)))) ⟨by omega, by omega⟩)
    · rw [if_neg c]
      exact t_sk_ok h
theorem t_lq_ok {c : Int} {item : g_S → g_S} (hi : ∀ s, t_ok n s → t_ok n (item s)) (h1 : 0 ≤ c ∧ c ≤ 200) : ∀ (k : Nat) (s : g_S), t_ok n s → t_ok n (t_lq B n c item k s)
  | 0, s, h => h
  | k + 1, s, h => by
    rw [t_lq]
    split
    · exact t_lq_ok hi h1 k _ (t_put_ok (hi _ (t_tk_ok h (by omega))) ⟨by omega, by omega⟩)
    · exact t_tk_ok h (by omega)
theorem t_atom_ok {sum : Option (g_S → g_S)} {s : g_S} (hn : n ≤ 240) (hs : ∀ f, sum = some f → ∀ s, t_ok n s → t_ok n (f s)) (h : t_ok n s) : t_ok n (t_atom B n sum s) := by
  unfold t_atom
  have hl := t_lt_in (c := t_sg B n s)
  have hm := t_nm_ok (B := B) (t_sk_ok (B := B) h) hn
  by_cases c : t_sg B n s = 91
  · rw [if_pos c]
    have ha : t_ok n (t_adv (t_sk B n s)) := t_adv_ok (t_sk_ok h) (t_sg_in h (by omega))
    cases sum with
    | none => exact t_fl_ok (t_sk_ok h) hn
    | some f => exact t_wn_ok (hs f rfl _ ha) hn (by decide)
  · rw [if_neg c]
    by_cases c2 : t_lt (t_sg B n s) < 0
    · rw [if_pos c2]
      exact t_put_ok hm.1 ⟨by omega, by omega⟩
    · rw [if_neg c2]
      have hsg : t_sg B n s ≠ -1 := by
        intro e
        rw [e] at c2
        exact c2 (by decide +kernel)
      exact t_put_ok (t_adv_ok (t_sk_ok h) (t_sg_in h hsg)) ⟨by omega, by omega⟩
theorem t_term_ok {atom : g_S → g_S} (hi : ∀ s, t_ok n s → t_ok n (atom s)) {s : g_S} (h : t_ok n s) : t_ok n (t_term B n atom s) := t_lp_ok hi ⟨by decide, by decide⟩ ⟨by decide, by decide⟩ _ _ (hi _ h)
theorem t_sumt_ok {term : g_S → g_S} (hi : ∀ s, t_ok n s → t_ok n (term s)) {s : g_S} (h : t_ok n s) : t_ok n (t_sumt B n term s) := t_lp_ok hi ⟨by decide, by decide⟩ ⟨by decide, by decide⟩ _ _ (hi _ h)
theorem t_atk_ok (hn : n ≤ 240) : ∀ (k : Nat) (s : g_S), t_ok n s → t_ok n (t_atk B n k s)
  | 0, s, h => t_atom_ok hn (fun f e => by cases e) h
  | k + 1, s, h => t_atom_ok hn (fun f e => by
      cases e
      exact fun s h => t_sumt_ok (fun s h => t_term_ok (fun s h => t_atk_ok hn k s h) h) h) h
theorem t_tek_ok (hn : n ≤ 240) {k : Nat} {s : g_S} (h : t_ok n s) : t_ok n (t_tek B n k s) := t_term_ok (fun s h => t_atk_ok hn k s h) h
theorem t_suk_ok (hn : n ≤ 240) {k : Nat} {s : g_S} (h : t_ok n s) : t_ok n (t_suk B n k s) := t_sumt_ok (fun s h => t_tek_ok hn h) h
theorem t_cmp_ok (hn : n ≤ 240) {sum : g_S → g_S} (hi : ∀ s, t_ok n s → t_ok n (sum s)) {e : Int} {s : g_S} (h : t_ok n s) : t_ok n (t_cmp B n sum e s) := by
  unfold t_cmp
  have h1 : t_ok n (if e = 0 then sum s else s) := by split; exact hi _ h; exact h
  generalize (if e = 0 then sum s else s) = s1 at h1 ⊢
  by_cases c : t_cp (t_sg B n s1)
  · rw [if_pos c]
    exact t_put_ok (hi _ (t_adv_ok (t_sk_ok h1) (t_sg_in h1 (by omega)))) ⟨by omega, by omega⟩
  · rw [if_neg c]
    exact t_fl_ok (t_sk_ok h1) hn
theorem t_unit_ok (hn : n ≤ 240) {sum : g_S → g_S} (hi : ∀ s, t_ok n s → t_ok n (sum s)) {inner : Option ((g_S → g_S) × (g_S → g_S))} (hs : ∀ f, inner = some f → ∀ s, t_ok n s → t_ok n (f.1 s) ∧ t_ok n (f.2 s)) {e : Int} {s : g_S} (h : t_ok n s) : t_ok n (t_unit B n sum inner e s) := by
  unfold t_unit
  by_cases c : e = 0 ∧ t_sg B n s = 33
  · rw [if_pos c]
    have ha : t_ok n (t_adv (t_sk B n s)) := t_adv_ok (t_sk_ok h) (t_sg_in h (by omega))
    cases inner with
    | none => exact t_fl_ok (t_sk_ok h) hn
    | some f => exact t_put_ok (hs f rfl _ ha).1 ⟨by decide, by decide⟩
  · rw [if_neg c]
    by_cases c2 : e = 0 ∧ t_sg B n s = 40
    · rw [if_pos c2]
      have ha : t_ok n (t_adv (t_sk B n s)) := t_adv_ok (t_sk_ok h) (t_sg_in h (by omega))
      cases inner with
      | none => exact t_fl_ok (t_sk_ok h) hn
      | some f => exact t_wn_ok (hs f rfl _ ha).2 hn (by decide)
    · rw [if_neg c2]
      exact t_cmp_ok hn hi (t_sk_ok h)
theorem t_tru_ok {unit : Int → g_S → g_S} (hi : ∀ e s, t_ok n s → t_ok n (unit e s)) {e : Int} {s : g_S} (h : t_ok n s) : t_ok n (t_tru B n unit e s) := t_lq_ok (hi 0) ⟨by decide, by decide⟩ _ _ (hi e _ h)
theorem t_con_ok {truth : Int → g_S → g_S} (hi : ∀ e s, t_ok n s → t_ok n (truth e s)) {e : Int} {s : g_S} (h : t_ok n s) : t_ok n (t_con B n truth e s) := t_lq_ok (hi 0) ⟨by decide, by decide⟩ _ _ (hi e _ h)
theorem t_unk_ok (hn : n ≤ 240) : ∀ (k : Nat) (e : Int) (s : g_S), t_ok n s → t_ok n (t_unk B n k e s)
  | 0, e, s, h => t_unit_ok hn (fun s h => t_suk_ok hn h) (fun f e => by cases e) h
  | k + 1, e, s, h => t_unit_ok hn (fun s h => t_suk_ok hn h) (fun f e => by
      cases e
      exact fun s h => ⟨t_unk_ok hn k 0 s h, t_con_ok (e := 0) (fun e s h => t_tru_ok (fun e s h => t_unk_ok hn k e s h) h) h⟩) h
theorem t_trk_ok (hn : n ≤ 240) {k : Nat} {e : Int} {s : g_S} (h : t_ok n s) : t_ok n (t_trk B n k e s) := t_tru_ok (fun e s h => t_unk_ok hn k e s h) h
theorem t_cok_ok (hn : n ≤ 240) {k : Nat} {e : Int} {s : g_S} (h : t_ok n s) : t_ok n (t_cok B n k e s) := t_con_ok (fun e s h => t_trk_ok hn h) h
theorem t_cl2_ok (hn : n ≤ 240) {e : Int} {s : g_S} (h : t_ok n s) : t_ok n (t_cl2 B n e s) := t_suk_ok hn (t_put_ok (t_wn_ok (t_cok_ok hn h) hn (by decide)) ⟨by decide, by decide⟩)
theorem t_cls_ok (hn : n ≤ 240) {s : g_S} (h : t_ok n s) : t_ok n (t_cls B n s) := by
  unfold t_cls
  have h1 : t_ok n (t_wn B n 58 (t_wn B n 121 s)) := t_wn_ok (t_wn_ok h hn (by decide)) hn (by decide)
  refine t_put_ok ?_ ⟨by decide, by decide⟩
  split
  · exact t_cl2_ok hn (t_sk_ok h1)
  · split
    · exact t_cl2_ok hn (t_sk_ok (t_suk_ok hn (t_sk_ok h1)))
    · exact t_sk_ok (t_suk_ok hn (t_sk_ok h1))
end TOK2
/-- contracts of a reader's methods, so many levels from the last -/
def C_sum (w : g_W) (k : Nat) : Prop := ∀ {I : g_I} {J : g_J} {R : g_R} {lb tx : Nat}, g_rf w R lb tx → (∀ k j, g32 (I k j)) → I 1 1 ≤ 240 → (∀ j, 0 ≤ I 2 j ∧ I 2 j ≤ 255) → ∀ {t : Nat}, g_taste t → ∀ {s : g_S}, t_ok (I 1 1) s → ∀ {d : Int}, d = 6 - (k : Int) → g_Met w g_n (t_M I t s) J R yX10_readSum cX10_readSum 5 none (8 + 3 * k) 0 0 [gvr w 547, gvr w t, gvI d] (g_post none g_n (t_M I t (t_suk (I 2) (I 1 1) k s)) J R)
def C_ter (w : g_W) (k : Nat) : Prop := ∀ {I : g_I} {J : g_J} {R : g_R} {lb tx : Nat}, g_rf w R lb tx → (∀ k j, g32 (I k j)) → I 1 1 ≤ 240 → (∀ j, 0 ≤ I 2 j ∧ I 2 j ≤ 255) → ∀ {t : Nat}, g_taste t → ∀ {s : g_S}, t_ok (I 1 1) s → ∀ {d : Int}, d = 6 - (k : Int) → g_Met w g_n (t_M I t s) J R yX10_readTerm cX10_readTerm 5 none (7 + 3 * k) 0 0 [gvr w 547, gvr w t, gvI d] (g_post none g_n (t_M I t (t_tek (I 2) (I 1 1) k s)) J R)
def C_atm (w : g_W) (k : Nat) : Prop := ∀ {I : g_I} {J : g_J} {R : g_R} {lb tx : Nat}, g_rf w R lb tx → (∀ k j, g32 (I k j)) → I 1 1 ≤ 240 → (∀ j, 0 ≤ I 2 j ∧ I 2 j ≤ 255) → ∀ {t : Nat}, g_taste t → ∀ {s : g_S}, t_ok (I 1 1) s → ∀ {d : Int}, d = 6 - (k : Int) → g_Met w g_n (t_M I t s) J R yX10_readAtom cX10_readAtom 5 none (6 + 3 * k) 0 0 [gvr w 547, gvr w t, gvI d] (g_post none g_n (t_M I t (t_atk (I 2) (I 1 1) k s)) J R)
def C_uni (w : g_W) (k : Nat) : Prop := ∀ {I : g_I} {J : g_J} {R : g_R} {lb tx : Nat}, g_rf w R lb tx → (∀ k j, g32 (I k j)) → I 1 1 ≤ 240 → (∀ j, 0 ≤ I 2 j ∧ I 2 j ≤ 255) → ∀ {t : Nat}, g_taste t → ∀ {s : g_S}, t_ok (I 1 1) s → ∀ {d : Int}, d = 6 - (k : Int) → ∀ {e : Int}, (e = 0 ∨ e = 1) → g_Met w g_n (t_M I t s) J R yX10_readUnit cX10_readUnit 5 none (10 + 3 * k) 0 0 [gvr w 547, gvr w t, gvI d, gvI e] (g_post none g_n (t_M I t (t_unk (I 2) (I 1 1) k e s)) J R)
def C_tru (w : g_W) (k : Nat) : Prop := ∀ {I : g_I} {J : g_J} {R : g_R} {lb tx : Nat}, g_rf w R lb tx → (∀ k j, g32 (I k j)) → I 1 1 ≤ 240 → (∀ j, 0 ≤ I 2 j ∧ I 2 j ≤ 255) → ∀ {t : Nat}, g_taste t → ∀ {s : g_S}, t_ok (I 1 1) s → ∀ {d : Int}, d = 6 - (k : Int) → ∀ {e : Int}, (e = 0 ∨ e = 1) → g_Met w g_n (t_M I t s) J R yX10_readTruth cX10_readTruth 5 none (11 + 3 * k) 0 0 [gvr w 547, gvr w t, gvI d, gvI e] (g_post none g_n (t_M I t (t_trk (I 2) (I 1 1) k e s)) J R)
def C_con (w : g_W) (k : Nat) : Prop := ∀ {I : g_I} {J : g_J} {R : g_R} {lb tx : Nat}, g_rf w R lb tx → (∀ k j, g32 (I k j)) → I 1 1 ≤ 240 → (∀ j, 0 ≤ I 2 j ∧ I 2 j ≤ 255) → ∀ {t : Nat}, g_taste t → ∀ {s : g_S}, t_ok (I 1 1) s → ∀ {d : Int}, d = 6 - (k : Int) → ∀ {e : Int}, (e = 0 ∨ e = 1) → g_Met w g_n (t_M I t s) J R yX10_readCondition cX10_readCondition 5 none (12 + 3 * k) 0 0 [gvr w 547, gvr w t, gvI d, gvI e] (g_post none g_n (t_M I t (t_cok (I 2) (I 1 1) k e s)) J R)
theorem t_fin_ok {B : Int → Int} {n : Int} {s : g_S} (h : t_ok n s) (hn : n ≤ 240) : t_ok n (t_fin B n s) := by
  have h0 := h.1.1
  have hp := g_pos_in (B := B) h.1.2
  have hp2 := g_pos_in (B := B) hp.2
  have hq := g_q1_in (q := s.2.1) (p := g_pos B n (g_pos B n s.1)) h.2.1 (by omega)
  have hh := h.2.1
  refine ⟨?_, ?_, h.2.2⟩
  · show 0 ≤ (if g_sgn B n s.1 = -1 then g_pos B n s.1 else n) ∧ (if g_sgn B n s.1 = -1 then g_pos B n s.1 else n) ≤ n
    split <;> omega
  · show -1 ≤ (if g_sgn B n s.1 = -1 then s.2.1 else g_q1 s.2.1 (g_pos B n (g_pos B n s.1))) ∧ (if g_sgn B n s.1 = -1 then s.2.1 else g_q1 s.2.1 (g_pos B n (g_pos B n s.1))) ≤ 240
    split <;> omega
