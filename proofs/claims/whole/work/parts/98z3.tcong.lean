/-! ===== a text is what its bytes are ===== -/
section UU
variable {B B' : Int → Int} {n : Int}
theorem u_sk (hB : ∀ j : Int, 0 ≤ j → j < n → B j = B' j) : ∀ (k : Nat) (a : Int), 0 ≤ a → a + k ≤ n → g_sk B k a = g_sk B' k a
  | 0, _, _, _ => rfl
  | k + 1, a, h0, h1 => by
    rw [g_sk, g_sk, hB a h0 (by omega), u_sk hB k (a + 1) (by omega) (by omega)]
theorem u_pos (hB : ∀ j : Int, 0 ≤ j → j < n → B j = B' j) {a : Int} (h : 0 ≤ a ∧ a ≤ n) : g_pos B n a = g_pos B' n a := u_sk hB _ a h.1 (by omega)
theorem u_sgn (hB : ∀ j : Int, 0 ≤ j → j < n → B j = B' j) {a : Int} (h : 0 ≤ a ∧ a ≤ n) : g_sgn B n a = g_sgn B' n a := by
  have hp := g_pos_in (B := B') h.2
  unfold g_sgn
  rw [u_pos hB h]
  split
  · rename_i z; exact hB _ (by omega) z
  · rfl
theorem u_dg (hB : ∀ j : Int, 0 ≤ j → j < n → B j = B' j) : ∀ (k : Nat) (a v : Int), 0 ≤ a → g_dg B n k a v = g_dg B' n k a v
  | 0, _, _, _ => rfl
  | k + 1, a, v, h0 => by
    rw [g_dg, g_dg]
    by_cases z : a < n
    · rw [hB a h0 z, u_dg hB k (a + 1) _ (by omega)]
    · rw [if_neg (fun y => z y.1), if_neg (fun y => z y.1)]
theorem u_if (hB : ∀ j : Int, 0 ≤ j → j < n → B j = B' j) {a : Int} (h : 0 ≤ a) : (a < n ∧ 48 ≤ B a ∧ B a ≤ 57) ↔ (a < n ∧ 48 ≤ B' a ∧ B' a ≤ 57) := ⟨fun z => by rw [← hB a h z.1]; exact z, fun z => by rw [hB a h z.1]; exact z⟩
theorem u_numr (hB : ∀ j : Int, 0 ≤ j → j < n → B j = B' j) {a q d lo hi : Int} (h : 0 ≤ a ∧ a ≤ n) : g_numr B n a q d lo hi = g_numr B' n a q d lo hi := by
  have hp := g_pos_in (B := B') h.2
  have hd := (g_dg_in (B := B') (n := n) d.toNat (g_pos B' n a) 0 hp.2 (by decide)).1
  unfold g_numr
  rw [u_pos hB h, u_dg hB _ _ _ (by omega)]
  simp only [u_if hB (show 0 ≤ g_pos B' n a by omega), u_if hB (show 0 ≤ (g_dg B' n d.toNat (g_pos B' n a) 0).2 by omega)]
theorem u_tsg (hB : ∀ j : Int, 0 ≤ j → j < n → B j = B' j) {s : g_S} (h : t_ok n s) : t_sg B n s = t_sg B' n s := u_sgn hB h.1
theorem u_tsk (hB : ∀ j : Int, 0 ≤ j → j < n → B j = B' j) {s : g_S} (h : t_ok n s) : t_sk B n s = t_sk B' n s := by unfold t_sk; rw [u_pos hB h.1]
theorem u_tfl (hB : ∀ j : Int, 0 ≤ j → j < n → B j = B' j) {s : g_S} (h : t_ok n s) : t_fl B n s = t_fl B' n s := by unfold t_fl; rw [u_pos hB h.1]
theorem u_ttk (hB : ∀ j : Int, 0 ≤ j → j < n → B j = B' j) {c : Int} {s : g_S} (h : t_ok n s) : t_tk B n c s = t_tk B' n c s := by unfold t_tk; rw [u_pos hB h.1, u_sgn hB h.1]
theorem u_twn (hB : ∀ j : Int, 0 ≤ j → j < n → B j = B' j) {c : Int} {s : g_S} (h : t_ok n s) : t_wn B n c s = t_wn B' n c s := by
  have hp := g_pos_in (B := B') h.1.2
  unfold t_wn; rw [u_pos hB h.1, u_sgn hB h.1, u_pos hB (a := g_pos B' n s.1) ⟨by have := h.1.1; omega, hp.2⟩]
theorem u_tnm (hB : ∀ j : Int, 0 ≤ j → j < n → B j = B' j) {s : g_S} (h : t_ok n s) : t_nm B n s = t_nm B' n s ∧ t_nv B n s = t_nv B' n s := by unfold t_nm t_nv; rw [u_numr hB h.1]; exact ⟨rfl, rfl⟩
theorem u_tfin (hB : ∀ j : Int, 0 ≤ j → j < n → B j = B' j) {s : g_S} (h : t_ok n s) : t_fin B n s = t_fin B' n s := by
  have hp := g_pos_in (B := B') h.1.2
  unfold t_fin; rw [u_pos hB h.1, u_sgn hB h.1, u_pos hB (a := g_pos B' n s.1) ⟨by have := h.1.1; omega, hp.2⟩]
theorem u_adv {s : g_S} (h : t_ok n s) (hc : t_sg B n s ≠ -1) : t_ok n (t_adv (t_sk B n s)) := t_adv_ok (t_sk_ok h) (t_sg_in h hc)
theorem u_atom (hB : ∀ j : Int, 0 ≤ j → j < n → B j = B' j) (hn : n ≤ 240) {sum sum' : Option (g_S → g_S)} {s : g_S} (h0 : sum = none ↔ sum' = none) (hs : ∀ f f', sum = some f → sum' = some f' → ∀ s, t_ok n s → f s = f' s) (hk : ∀ f, sum = some f → ∀ s, t_ok n s → t_ok n (f s)) (h : t_ok n s) : t_atom B n sum s = t_atom B' n sum' s := by
  have e1 := u_tsg hB h
  have e2 := u_tsk hB h
  have e3 := u_tnm hB (t_sk_ok (B := B) h)
  have hk1 := t_sk_ok (B := B) h
  unfold t_atom
  by_cases c : t_sg B n s = 91
  · rw [if_pos c, if_pos (e1 ▸ c)]
    have ha := u_adv (B := B) h (by omega)
    cases sum with
    | none =>
      rw [h0.mp rfl]
      show t_fl B n (t_sk B n s) = t_fl B' n (t_sk B' n s)
      rw [u_tfl hB hk1, e2]
    | some f =>
      cases sum' with
      | none => exact absurd (h0.mpr rfl) (by intro z; cases z)
      | some f' =>
        show t_wn B n 93 (f (t_adv (t_sk B n s))) = t_wn B' n 93 (f' (t_adv (t_sk B' n s)))
        rw [u_twn hB (hk f rfl _ ha), hs f f' rfl rfl _ ha, e2]
  · rw [← e1, ← e2, if_neg c, if_neg c, e3.1, e3.2]
theorem u_lp (hB : ∀ j : Int, 0 ≤ j → j < n → B j = B' j) {o1 o2 : Int} (h1 : 0 ≤ o1 ∧ o1 ≤ 200) (h2 : 0 ≤ o2 ∧ o2 ≤ 200) {f f' : g_S → g_S} (hf : ∀ s, t_ok n s → f s = f' s) (hk : ∀ s, t_ok n s → t_ok n (f s)) : ∀ (k : Nat) (s : g_S), t_ok n s → t_lp B n o1 o2 f k s = t_lp B' n o1 o2 f' k s
  | 0, _, _ => rfl
  | k + 1, s, h => by
    rw [t_lp, t_lp, ← u_tsg hB h, ← u_tsk hB h]
    by_cases c : t_sg B n s = o1 ∨ t_sg B n s = o2
    · have ha := u_adv (B := B) h (by omega)
      rw [if_pos c, if_pos c, ← hf _ ha]
      exact u_lp hB h1 h2 hf hk k _ (t_put_ok (hk _ ha) ⟨by omega, by omega⟩)
    · rw [if_neg c, if_neg c]
theorem u_lq (hB : ∀ j : Int, 0 ≤ j → j < n → B j = B' j) {c : Int} (h1 : 0 ≤ c ∧ c ≤ 200) {f f' : g_S → g_S} (hf : ∀ s, t_ok n s → f s = f' s) (hk : ∀ s, t_ok n s → t_ok n (f s)) : ∀ (k : Nat) (s : g_S), t_ok n s → t_lq B n c f k s = t_lq B' n c f' k s
  | 0, _, _ => rfl
  | k + 1, s, h => by
    rw [t_lq, t_lq, ← u_tsg hB h, ← u_ttk hB h]
    have ha := t_tk_ok (B := B) (c := c) h (by omega)
    by_cases z : t_sg B n s = c
    · rw [if_pos z, if_pos z, ← hf _ ha]
      exact u_lq hB h1 hf hk k _ (t_put_ok (hk _ ha) ⟨by omega, by omega⟩)
    · rw [if_neg z, if_neg z]
theorem u_term (hB : ∀ j : Int, 0 ≤ j → j < n → B j = B' j) {f f' : g_S → g_S} (hf : ∀ s, t_ok n s → f s = f' s) (hk : ∀ s, t_ok n s → t_ok n (f s)) {s : g_S} (h : t_ok n s) : t_term B n f s = t_term B' n f' s := by
  unfold t_term; rw [← hf s h]; exact u_lp hB ⟨by decide, by decide⟩ ⟨by decide, by decide⟩ hf hk _ _ (hk _ h)
theorem u_sumt (hB : ∀ j : Int, 0 ≤ j → j < n → B j = B' j) {f f' : g_S → g_S} (hf : ∀ s, t_ok n s → f s = f' s) (hk : ∀ s, t_ok n s → t_ok n (f s)) {s : g_S} (h : t_ok n s) : t_sumt B n f s = t_sumt B' n f' s := by
  unfold t_sumt; rw [← hf s h]; exact u_lp hB ⟨by decide, by decide⟩ ⟨by decide, by decide⟩ hf hk _ _ (hk _ h)
theorem u_atk (hB : ∀ j : Int, 0 ≤ j → j < n → B j = B' j) (hn : n ≤ 240) : ∀ (k : Nat) (s : g_S), t_ok n s → t_atk B n k s = t_atk B' n k s
  | 0, s, h => by rw [t_atk, t_atk]; exact u_atom hB hn Iff.rfl (fun f f' e => by cases e) (fun f e => by cases e) h
  | k + 1, s, h => by
    rw [t_atk, t_atk]
    refine u_atom hB hn ⟨fun z => (by cases z), fun z => (by cases z)⟩ (fun f f' e e' => ?_) (fun f e => ?_) h
    · cases e; cases e'
      exact fun s h => u_sumt hB (fun s h => u_term hB (fun s h => u_atk hB hn k s h) (fun s h => t_atk_ok hn k s h) h) (fun s h => t_term_ok (fun s h => t_atk_ok hn k s h) h) h
    · cases e
      exact fun s h => t_sumt_ok (fun s h => t_term_ok (fun s h => t_atk_ok hn k s h) h) h
theorem u_tek (hB : ∀ j : Int, 0 ≤ j → j < n → B j = B' j) (hn : n ≤ 240) {k : Nat} {s : g_S} (h : t_ok n s) : t_tek B n k s = t_tek B' n k s := u_term hB (fun s h => u_atk hB hn k s h) (fun s h => t_atk_ok hn k s h) h
theorem u_suk (hB : ∀ j : Int, 0 ≤ j → j < n → B j = B' j) (hn : n ≤ 240) {k : Nat} {s : g_S} (h : t_ok n s) : t_suk B n k s = t_suk B' n k s := u_sumt hB (fun s h => u_tek hB hn h) (fun s h => t_tek_ok hn h) h
theorem u_cmp (hB : ∀ j : Int, 0 ≤ j → j < n → B j = B' j) {f f' : g_S → g_S} (hf : ∀ s, t_ok n s → f s = f' s) (hk : ∀ s, t_ok n s → t_ok n (f s)) {e : Int} {s : g_S} (h : t_ok n s) : t_cmp B n f e s = t_cmp B' n f' e s := by
  unfold t_cmp
  have h1 : t_ok n (if e = 0 then f s else s) := by split; exact hk _ h; exact h
  rw [← hf s h]
  generalize (if e = 0 then f s else s) = s1 at h1 ⊢
  rw [← u_tsg hB h1, ← u_tsk hB h1]
  by_cases c : t_cp (t_sg B n s1)
  · rw [if_pos c, if_pos c, hf _ (u_adv (B := B) h1 (by omega))]
  · rw [if_neg c, if_neg c, u_tfl hB (t_sk_ok h1)]
theorem u_unit (hB : ∀ j : Int, 0 ≤ j → j < n → B j = B' j) {f f' : g_S → g_S} (hf : ∀ s, t_ok n s → f s = f' s) (hk : ∀ s, t_ok n s → t_ok n (f s)) {inner inner' : Option ((g_S → g_S) × (g_S → g_S))} (h0 : inner = none ↔ inner' = none) (hs : ∀ g g', inner = some g → inner' = some g' → ∀ s, t_ok n s → g.1 s = g'.1 s ∧ g.2 s = g'.2 s) (hs2 : ∀ g, inner = some g → ∀ s, t_ok n s → t_ok n (g.2 s)) {e : Int} {s : g_S} (h : t_ok n s) : t_unit B n f inner e s = t_unit B' n f' inner' e s := by
  unfold t_unit
  rw [← u_tsg hB h, ← u_tsk hB h]
  have hk1 := t_sk_ok (B := B) h
  by_cases c : e = 0 ∧ t_sg B n s = 33
  · rw [if_pos c, if_pos c]
    have ha := u_adv (B := B) h (by omega)
    cases inner with
    | none => rw [h0.mp rfl]; exact u_tfl hB hk1
    | some g =>
      cases inner' with
      | none => exact absurd (h0.mpr rfl) (by intro z; cases z)
      | some g' => show t_put (-33) (g.1 _) = t_put (-33) (g'.1 _); rw [(hs g g' rfl rfl _ ha).1]
  · rw [if_neg c, if_neg c]
    by_cases c2 : e = 0 ∧ t_sg B n s = 40
    · rw [if_pos c2, if_pos c2]
      have ha := u_adv (B := B) h (by omega)
      cases inner with
      | none => rw [h0.mp rfl]; exact u_tfl hB hk1
      | some g =>
        cases inner' with
        | none => exact absurd (h0.mpr rfl) (by intro z; cases z)
        | some g' => show t_wn B n 41 (g.2 _) = t_wn B' n 41 (g'.2 _); rw [u_twn hB (hs2 g rfl _ ha), (hs g g' rfl rfl _ ha).2]
    · rw [if_neg c2, if_neg c2]
      exact u_cmp hB hf hk hk1
theorem u_tru (hB : ∀ j : Int, 0 ≤ j → j < n → B j = B' j) {u u' : Int → g_S → g_S} (hu : ∀ e s, t_ok n s → u e s = u' e s) (hk : ∀ e s, t_ok n s → t_ok n (u e s)) {e : Int} {s : g_S} (h : t_ok n s) : t_tru B n u e s = t_tru B' n u' e s := by
  unfold t_tru; rw [← hu e s h]; exact u_lq hB ⟨by decide, by decide⟩ (hu 0) (hk 0) _ _ (hk e _ h)
theorem u_con (hB : ∀ j : Int, 0 ≤ j → j < n → B j = B' j) {u u' : Int → g_S → g_S} (hu : ∀ e s, t_ok n s → u e s = u' e s) (hk : ∀ e s, t_ok n s → t_ok n (u e s)) {e : Int} {s : g_S} (h : t_ok n s) : t_con B n u e s = t_con B' n u' e s := by
  unfold t_con; rw [← hu e s h]; exact u_lq hB ⟨by decide, by decide⟩ (hu 0) (hk 0) _ _ (hk e _ h)
theorem u_unk (hB : ∀ j : Int, 0 ≤ j → j < n → B j = B' j) (hn : n ≤ 240) : ∀ (k : Nat) (e : Int) (s : g_S), t_ok n s → t_unk B n k e s = t_unk B' n k e s
  | 0, e, s, h => by rw [t_unk, t_unk]; exact u_unit hB (fun s h => u_suk hB hn h) (fun s h => t_suk_ok hn h) Iff.rfl (fun g g' e => by cases e) (fun g e => by cases e) h
  | k + 1, e, s, h => by
    rw [t_unk, t_unk]
    refine u_unit hB (fun s h => u_suk hB hn h) (fun s h => t_suk_ok hn h) ⟨fun z => (by cases z), fun z => (by cases z)⟩ (fun g g' e e' => ?_) (fun g e => ?_) h
    · cases e; cases e'
      exact fun s h => ⟨u_unk hB hn k 0 s h, u_con (e := 0) hB (fun e s h => u_tru hB (fun e s h => u_unk hB hn k e s h) (fun e s h => t_unk_ok hn k e s h) h) (fun e s h => t_tru_ok (fun e s h => t_unk_ok hn k e s h) h) h⟩
    · cases e
      exact fun s h => t_con_ok (e := 0) (fun e s h => t_tru_ok (fun e s h => t_unk_ok hn k e s h) h) h
theorem u_trk (hB : ∀ j : Int, 0 ≤ j → j < n → B j = B' j) (hn : n ≤ 240) {k : Nat} {e : Int} {s : g_S} (h : t_ok n s) : t_trk B n k e s = t_trk B' n k e s := u_tru hB (fun e s h => u_unk hB hn k e s h) (fun e s h => t_unk_ok hn k e s h) h
theorem u_cok (hB : ∀ j : Int, 0 ≤ j → j < n → B j = B' j) (hn : n ≤ 240) {k : Nat} {e : Int} {s : g_S} (h : t_ok n s) : t_cok B n k e s = t_cok B' n k e s := u_con hB (fun e s h => u_trk hB hn h) (fun e s h => t_trk_ok hn h) h
theorem u_cl2 (hB : ∀ j : Int, 0 ≤ j → j < n → B j = B' j) (hn : n ≤ 240) {e : Int} {s : g_S} (h : t_ok n s) : t_cl2 B n e s = t_cl2 B' n e s := by
  have h1 := t_cok_ok (B := B) (k := 6) (e := e) hn h
  unfold t_cl2
  rw [← u_cok hB hn h, ← u_twn hB h1]
  exact u_suk hB hn (t_put_ok (t_wn_ok h1 hn (by decide)) ⟨by decide, by decide⟩)
theorem u_cls (hB : ∀ j : Int, 0 ≤ j → j < n → B j = B' j) (hn : n ≤ 240) {s : g_S} (h : t_ok n s) : t_cls B n s = t_cls B' n s := by
  have h0 := t_wn_ok (B := B) (c := 121) h hn (by decide)
  have h1 := t_wn_ok (B := B) (c := 58) h0 hn (by decide)
  have h2 := t_sk_ok (B := B) h1
  have h3 := t_suk_ok (B := B) (k := 6) hn h2
  unfold t_cls
  rw [← u_twn hB h, ← u_twn hB h0]
  generalize t_wn B n 58 (t_wn B n 121 s) = s1 at h1 h2 h3 ⊢
  rw [← u_tsg hB h1, ← u_tsk hB h1, ← u_suk hB hn h2]
  generalize t_suk B n 6 (t_sk B n s1) = s2 at h3 ⊢
  rw [← u_tsg hB h3, ← u_tsk hB h3, ← u_cl2 hB hn h2, ← u_cl2 hB hn (t_sk_ok h3)]
theorem u_rdn (hB : ∀ j : Int, 0 ≤ j → j < n → B j = B' j) (hn : n ≤ 240) : ∀ (k : Nat) (s : g_S), t_ok n s → t_rdn B n k s = t_rdn B' n k s
  | 0, _, _ => rfl
  | k + 1, s, h => by
    have h1 := t_cls_ok (B := B) hn h
    rw [t_rdn, t_rdn, ← u_cls hB hn h, ← u_tsg hB h1, ← u_ttk hB h1]
    split
    · exact u_rdn hB hn k _ (t_tk_ok h1 (by decide))
    · rfl
/-- the same bytes: the same TASTE -/
theorem u_read (hB : ∀ j : Int, 0 ≤ j → j < n → B j = B' j) (hn : 0 ≤ n ∧ n ≤ 240) : t_read B n = t_read B' n := by
  have h0 : t_ok n (0, -1, []) := ⟨⟨by decide, hn.1⟩, by decide, by decide, fun z hz => by cases hz⟩
  unfold t_read
  rw [← u_rdn hB hn.2 240 _ h0]
  exact u_tfin hB (t_rdn_ok hn.2 240 _ h0)
end UU
