/-! ===== the signs of a TASTE are those that may be ===== -/
abbrev t_al (z : Int) : Prop := (0 ≤ z ∧ z < 10008) ∨ z = -33 ∨ z = -38 ∨ z = -42 ∨ z = -43 ∨ z = -45 ∨ z = -47 ∨ z = -59 ∨ z = -60 ∨ z = -61 ∨ z = -62 ∨ z = -63 ∨ z = -124
def t_gd (n : Int) (s : g_S) : Prop := t_ok n s ∧ ∀ z ∈ s.2.2, t_al z
section GD
variable {B : Int → Int} {n : Int} {s : g_S}
theorem d_put {z : Int} (h : t_gd n s) (hz : t_al z) : t_gd n (t_put z s) := by
  refine ⟨t_put_ok h.1 ⟨by unfold t_al at hz; omega, by unfold t_al at hz; omega⟩, ?_⟩
  unfold t_put
  dsimp only
  split
  · intro y hy
    rcases List.mem_append.mp hy with hy | hy
    · exact h.2 y hy
    · rw [List.mem_singleton.mp hy]; exact hz
  · exact h.2
theorem d_sk (h : t_gd n s) : t_gd n (t_sk B n s) := ⟨t_sk_ok h.1, h.2⟩
theorem d_adv (h : t_gd n s) (hc : t_sg B n s ≠ -1) : t_gd n (t_adv (t_sk B n s)) := ⟨u_adv h.1 hc, h.2⟩
theorem d_fl (h : t_gd n s) (hn : n ≤ 240) : t_gd n (t_fl B n s) := ⟨t_fl_ok h.1 hn, h.2⟩
theorem d_tk {c : Int} (h : t_gd n s) (hc : c ≠ -1) : t_gd n (t_tk B n c s) := ⟨t_tk_ok h.1 hc, h.2⟩
theorem d_wn {c : Int} (h : t_gd n s) (hn : n ≤ 240) (hc : c ≠ -1) : t_gd n (t_wn B n c s) := ⟨t_wn_ok h.1 hn hc, h.2⟩
theorem d_nm (h : t_gd n s) (hn : n ≤ 240) : t_gd n (t_nm B n s) := ⟨(t_nm_ok h.1 hn).1, h.2⟩
theorem d_lp {o1 o2 : Int} {f : g_S → g_S} (hi : ∀ s, t_gd n s → t_gd n (f s)) (h1 : t_al (-o1) ∧ o1 ≠ -1) (h2 : t_al (-o2) ∧ o2 ≠ -1) : ∀ (k : Nat) (s : g_S), t_gd n s → t_gd n (t_lp B n o1 o2 f k s)
  | 0, s, h => h
  | k + 1, s, h => by
    rw [t_lp]
    by_cases c : t_sg B n s = o1 ∨ t_sg B n s = o2
    · rw [if_pos c]
      refine d_lp hi h1 h2 k _ (d_put (hi _ (d_adv h (by omega))) ?_)
      rcases c with c | c
      · rw [c]; exact h1.1
      · rw [c]; exact h2.1
    · rw [if_neg c]
      exact d_sk h
theorem d_lq {c : Int} {f : g_S → g_S} (hi : ∀ s, t_gd n s → t_gd n (f s)) (h1 : t_al (-c) ∧ c ≠ -1) : ∀ (k : Nat) (s : g_S), t_gd n s → t_gd n (t_lq B n c f k s)
  | 0, s, h => h
  | k + 1, s, h => by
    rw [t_lq]
    split
    · exact d_lq hi h1 k _ (d_put (hi _ (d_tk h h1.2)) h1.1)
    · exact d_tk h h1.2
theorem d_atom {sum : Option (g_S → g_S)} (hn : n ≤ 240) (hs : ∀ f, sum = some f → ∀ s, t_gd n s → t_gd n (f s)) (h : t_gd n s) : t_gd n (t_atom B n sum s) := by
  unfold t_atom
  have hl := t_lt_in (c := t_sg B n s)
  have hm := t_nm_ok (B := B) (t_sk_ok (B := B) h.1) hn
  by_cases c : t_sg B n s = 91
  · rw [if_pos c]
    have ha : t_gd n (t_adv (t_sk B n s)) := d_adv h (by omega)
    cases sum with
    | none => exact d_fl (d_sk h) hn
    | some f => exact d_wn (hs f rfl _ ha) hn (by decide)
  · rw [if_neg c]
    by_cases c2 : t_lt (t_sg B n s) < 0
    · rw [if_pos c2]
      exact d_put (d_nm (d_sk h) hn) (Or.inl ⟨hm.2.1, by omega⟩)
    · rw [if_neg c2]
      have hsg : t_sg B n s ≠ -1 := by
        intro e
        rw [e] at c2
        exact c2 (by decide +kernel)
      exact d_put (d_adv h hsg) (Or.inl ⟨by omega, by omega⟩)
theorem d_term {f : g_S → g_S} (hi : ∀ s, t_gd n s → t_gd n (f s)) {s : g_S} (h : t_gd n s) : t_gd n (t_term B n f s) := d_lp hi ⟨by decide, by decide⟩ ⟨by decide, by decide⟩ _ _ (hi _ h)
theorem d_sumt {f : g_S → g_S} (hi : ∀ s, t_gd n s → t_gd n (f s)) {s : g_S} (h : t_gd n s) : t_gd n (t_sumt B n f s) := d_lp hi ⟨by decide, by decide⟩ ⟨by decide, by decide⟩ _ _ (hi _ h)
theorem d_atk (hn : n ≤ 240) : ∀ (k : Nat) (s : g_S), t_gd n s → t_gd n (t_atk B n k s)
  | 0, s, h => d_atom hn (fun f e => by cases e) h
  | k + 1, s, h => d_atom hn (fun f e => by
      cases e
      exact fun s h => d_sumt (fun s h => d_term (fun s h => d_atk hn k s h) h) h) h
theorem d_suk (hn : n ≤ 240) {k : Nat} {s : g_S} (h : t_gd n s) : t_gd n (t_suk B n k s) := d_sumt (fun s h => d_term (fun s h => d_atk hn k s h) h) h
theorem d_cmp (hn : n ≤ 240) {f : g_S → g_S} (hi : ∀ s, t_gd n s → t_gd n (f s)) {e : Int} {s : g_S} (h : t_gd n s) : t_gd n (t_cmp B n f e s) := by
  unfold t_cmp
  have h1 : t_gd n (if e = 0 then f s else s) := by split; exact hi _ h; exact h
  generalize (if e = 0 then f s else s) = s1 at h1 ⊢
  by_cases c : t_cp (t_sg B n s1)
  · rw [if_pos c]
    exact d_put (hi _ (d_adv h1 (by omega))) (by unfold t_al; omega)
  · rw [if_neg c]
    exact d_fl (d_sk h1) hn
theorem d_unit (hn : n ≤ 240) {sum : g_S → g_S} (hi : ∀ s, t_gd n s → t_gd n (sum s)) {inner : Option ((g_S → g_S) × (g_S → g_S))} (hs : ∀ f, inner = some f → ∀ s, t_gd n s → t_gd n (f.1 s) ∧ t_gd n (f.2 s)) {e : Int} {s : g_S} (h : t_gd n s) : t_gd n (t_unit B n sum inner e s) := by
  unfold t_unit
  by_cases c : e = 0 ∧ t_sg B n s = 33
  · rw [if_pos c]
    have ha : t_gd n (t_adv (t_sk B n s)) := d_adv h (by omega)
    cases inner with
    | none => exact d_fl (d_sk h) hn
    | some f => exact d_put (hs f rfl _ ha).1 (by decide)
  · rw [if_neg c]
    by_cases c2 : e = 0 ∧ t_sg B n s = 40
    · rw [if_pos c2]
      have ha : t_gd n (t_adv (t_sk B n s)) := d_adv h (by omega)
      cases inner with
      | none => exact d_fl (d_sk h) hn
      | some f => exact d_wn (hs f rfl _ ha).2 hn (by decide)
    · rw [if_neg c2]
      exact d_cmp hn hi (d_sk h)
theorem d_tru {u : Int → g_S → g_S} (hi : ∀ e s, t_gd n s → t_gd n (u e s)) {e : Int} {s : g_S} (h : t_gd n s) : t_gd n (t_tru B n u e s) := d_lq (hi 0) ⟨by decide, by decide⟩ _ _ (hi e _ h)
theorem d_con {u : Int → g_S → g_S} (hi : ∀ e s, t_gd n s → t_gd n (u e s)) {e : Int} {s : g_S} (h : t_gd n s) : t_gd n (t_con B n u e s) := d_lq (hi 0) ⟨by decide, by decide⟩ _ _ (hi e _ h)
theorem d_unk (hn : n ≤ 240) : ∀ (k : Nat) (e : Int) (s : g_S), t_gd n s → t_gd n (t_unk B n k e s)
  | 0, e, s, h => d_unit hn (fun s h => d_suk hn h) (fun f e => by cases e) h
  | k + 1, e, s, h => d_unit hn (fun s h => d_suk hn h) (fun f e => by
      cases e
      exact fun s h => ⟨d_unk hn k 0 s h, d_con (e := 0) (fun e s h => d_tru (fun e s h => d_unk hn k e s h) h) h⟩) h
theorem d_cok (hn : n ≤ 240) {k : Nat} {e : Int} {s : g_S} (h : t_gd n s) : t_gd n (t_cok B n k e s) := d_con (fun e s h => d_tru (fun e s h => d_unk hn k e s h) h) h
theorem d_cl2 (hn : n ≤ 240) {e : Int} {s : g_S} (h : t_gd n s) : t_gd n (t_cl2 B n e s) := d_suk hn (d_put (d_wn (d_cok hn h) hn (by decide)) (by decide))
theorem d_cls (hn : n ≤ 240) {s : g_S} (h : t_gd n s) : t_gd n (t_cls B n s) := by
  unfold t_cls
  have h1 : t_gd n (t_wn B n 58 (t_wn B n 121 s)) := d_wn (d_wn h hn (by decide)) hn (by decide)
  refine d_put ?_ (by decide)
  split
  · exact d_cl2 hn (d_sk h1)
  · split
    · exact d_cl2 hn (d_sk (d_suk hn (d_sk h1)))
    · exact d_sk (d_suk hn (d_sk h1))
theorem d_rdn (hn : n ≤ 240) : ∀ (k : Nat) (s : g_S), t_gd n s → t_gd n (t_rdn B n k s)
  | 0, _, h => h
  | k + 1, s, h => by
    have h1 := d_cls (B := B) hn h
    rw [t_rdn]
    split
    · exact d_rdn hn k _ (d_tk h1 (by decide))
    · exact d_tk h1 (by decide)
theorem d_read (hn : 0 ≤ n ∧ n ≤ 240) : ∀ z ∈ (t_read B n).2.2, t_al z := (d_rdn (B := B) hn.2 240 (0, -1, []) ⟨⟨⟨by decide, hn.1⟩, by decide, by decide, fun z hz => by cases hz⟩, fun z hz => by cases hz⟩).2
end GD
theorem x_tok {I : g_I} {t : Nat} {s : g_S} {n : Int} (h : t_ok n s) (hg : ∀ z ∈ s.2.2, t_al z) (h2 : I t 2 = (s.2.2.length : Int)) (h1 : ∀ i : Int, 0 ≤ i → i < (s.2.2.length : Int) → I (t + 1) i = s.2.2.getD i.toNat 0) : g_tok I t := by
  have hl := h.2.2.1
  refine ⟨by omega, fun i i0 i1 => ?_⟩
  rw [h2] at i1
  rw [h1 i i0 i1]
  have hm : s.2.2.getD i.toNat 0 ∈ s.2.2 := by
    rw [List.getD_eq_getElem?_getD, List.getElem?_eq_getElem (show i.toNat < s.2.2.length by omega)]
    exact List.getElem_mem _
  have := hg _ hm
  unfold t_al at this
  omega
