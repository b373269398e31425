/-! ===== a TASTE's signs as a list, and what they are worth ===== -/
def e_1 (Lf : Int → Int) (z : Int) (st : List Int) (sk : Bool) : Int ⊕ (List Int × Bool) := g_rk1 (fun _ => z) Lf 0 st sk
def e_run (Lf : Int → Int) : List Int → List Int → Bool → Int
  | [], _, _ => 0
  | z :: zs, st, sk => match e_1 Lf z st sk with
    | .inl r => r
    | .inr q => e_run Lf zs q.1 q.2
theorem e_rk {S Lf : Int → Int} : ∀ (zs : List Int) (i : Int) (st : List Int) (sk : Bool), (∀ j : Nat, j < zs.length → S (i + j) = zs.getD j 0) → g_rk S Lf zs.length i st sk = e_run Lf zs st sk
  | [], _, _, _, _ => rfl
  | z :: zs, i, st, sk, h => by
    have h0 : S i = z := by have := h 0 (by simp); simpa using this
    have e : g_rk1 S Lf i st sk = e_1 Lf z st sk := by
      show g_rk1 S Lf i st sk = g_rk1 (fun _ => z) Lf 0 st sk
      unfold g_rk1
      simp only [h0]
    rw [List.length_cons, g_rk, e_run, e]
    cases e_1 Lf z st sk with
    | inl r => rfl
    | inr q => exact e_rk zs (i + 1) q.1 q.2 (fun j hj => by have h2 := h (j + 1) (by simp; omega); rw [show i + 1 + (j : Int) = i + ((j + 1 : Nat) : Int) by omega, h2]; rfl)
/-- a piece of signs that leaves v on what lies ready, with no more than h places -/
def e_ev (Lf : Int → Int) (c : List Int) (h : Nat) (v : Int) : Prop := ∀ (rest st : List Int), st.length + h ≤ 64 → e_run Lf (c ++ rest) st false = e_run Lf rest (v :: st) false
section EV
variable {Lf : Int → Int} {c c1 c2 : List Int} {h h1 h2 : Nat} {v v1 v2 z : Int}
theorem e_num (h0 : 0 ≤ z) (hh : 1 ≤ h) : e_ev Lf [z] h (if z < 10000 then z else Lf (z - 10000)) := by
  intro rest st hs
  show e_run Lf (z :: rest) st false = _
  have e : e_1 Lf z st false = .inr ((if z < 10000 then z else Lf (z - 10000)) :: st, false) := by
    unfold e_1 g_rk1
    dsimp only
    rw [if_neg (by decide), if_pos h0, if_pos (by omega)]
  rw [e_run, e]
theorem e_bin (e1 : e_ev Lf c1 h1 v1) (e2 : e_ev Lf c2 h2 v2) (ha : h1 ≤ h) (hb : h2 + 1 ≤ h) (hz : z < 0) (n1 : ¬ z = -59) (n2 : ¬ z = -63) (n3 : ¬ z = -33) : e_ev Lf (c1 ++ c2 ++ [z]) h (g_jn (-z) v1 v2) := by
  intro rest st hs
  rw [List.append_assoc, List.append_assoc, e1 _ st (by omega), e2 _ _ (by rw [List.length_cons]; omega)]
  show e_run Lf (z :: rest) (v2 :: v1 :: st) false = _
  have e : e_1 Lf z (v2 :: v1 :: st) false = .inr (g_jn (-z) v1 v2 :: st, false) := by
    unfold e_1 g_rk1
    dsimp only
    rw [if_neg (by decide), if_neg (by omega)]
    simp only [if_neg n1, if_neg n2, if_neg n3]
  rw [e_run, e]
theorem e_not (e1 : e_ev Lf c h v) : e_ev Lf (c ++ [-33]) h (1 - v) := by
  intro rest st hs
  rw [List.append_assoc, e1 _ st hs]
  show e_run Lf (-33 :: rest) (v :: st) false = _
  have e : e_1 Lf (-33) (v :: st) false = .inr ((1 - v) :: st, false) := by
    unfold e_1 g_rk1
    dsimp only
    rw [if_neg (by decide), if_neg (by decide)]
    simp only [if_neg (show ¬ (-33 : Int) = -59 by decide), if_neg (show ¬ (-33 : Int) = -63 by decide), if_pos]
  rw [e_run, e]
theorem e_mono (e : e_ev Lf c h1 v) (hh : h1 ≤ h2) : e_ev Lf c h2 v := fun rest st hs => e rest st (by omega)
theorem e_skip : ∀ (c rest st : List Int), ¬ (-59) ∈ c → e_run Lf (c ++ -59 :: rest) st true = e_run Lf rest st false
  | [], rest, st, _ => by
    have e : e_1 Lf (-59) st true = .inr (st, false) := by unfold e_1 g_rk1; dsimp only; rw [if_pos rfl]; rfl
    rw [List.nil_append, e_run, e]
  | z :: c, rest, st, h => by
    have hz : ¬ z = -59 := fun q => h (by rw [q]; exact List.mem_cons_self)
    have e : e_1 Lf z st true = .inr (st, true) := by unfold e_1 g_rk1; dsimp only; rw [if_pos rfl, decide_eq_true hz]
    rw [List.cons_append, e_run, e]
    exact e_skip c rest st (fun q => h (List.mem_cons_of_mem _ q))
/-- a CLAUSE without a CONDITION -/
theorem e_cl1 (e1 : e_ev Lf c h v) (hh : h ≤ 64) (rest : List Int) : e_run Lf (c ++ [-59] ++ rest) [] false = v := by
  rw [List.append_assoc, e1 _ [] (by simpa using hh)]
  show e_run Lf (-59 :: rest) [v] false = v
  have e : e_1 Lf (-59) [v] false = .inl v := by
    unfold e_1 g_rk1
    dsimp only
    rw [if_neg (by decide), if_neg (by decide)]
    simp only [if_pos]
  rw [e_run, e]
/-- one with a CONDITION: the SUM if it holds, on behind it if not -/
theorem e_cl2 (e1 : e_ev Lf c1 h1 v1) (e2 : e_ev Lf c2 h2 v2) (hh1 : h1 ≤ 64) (hh2 : h2 ≤ 64) (n2 : ¬ (-59) ∈ c2) (rest : List Int) : e_run Lf (c1 ++ [-63] ++ c2 ++ [-59] ++ rest) [] false = if v1 = 0 then e_run Lf rest [] false else v2 := by
  rw [List.append_assoc, List.append_assoc, List.append_assoc, e1 _ [] (by simpa using hh1)]
  show e_run Lf (-63 :: (c2 ++ ([-59] ++ rest))) [v1] false = _
  have e : e_1 Lf (-63) [v1] false = .inr ([], decide (v1 = 0)) := by
    unfold e_1 g_rk1
    dsimp only
    rw [if_neg (by decide), if_neg (by decide)]
    simp only [if_neg (show ¬ (-63 : Int) = -59 by decide), if_pos]
  rw [e_run, e]
  by_cases hv : v1 = 0
  · rw [if_pos hv]
    simp only [hv, decide_true]
    exact e_skip c2 rest [] n2
  · rw [if_neg hv]
    simp only [hv, decide_false]
    have := e_cl1 e2 hh2 rest
    rwa [List.append_assoc] at this
end EV
/-- behind a fault a reader stays where it is -/
abbrev t_bd (n : Int) (s : g_S) : Prop := s.1 = n ∧ ¬ s.2.1 = -1
def t_pb (n : Int) (F : g_S → g_S) : Prop := ∀ s : g_S, t_bd n s → (F s).1 = n ∧ (F s).2.1 = s.2.1
theorem g_posn {B : Int → Int} {n : Int} : g_pos B n n = n := g_pos_e (Int.le_refl n)
theorem g_sgnn {B : Int → Int} {n : Int} : g_sgn B n n = -1 := by unfold g_sgn; rw [g_posn, if_neg (by omega)]
theorem g_q1n {q p : Int} (h : ¬ q = -1) : g_q1 q p = q := if_neg h
section PB
variable {B : Int → Int} {n : Int}
theorem t_sgb {s : g_S} (h : t_bd n s) : t_sg B n s = -1 := by unfold t_sg; rw [h.1, g_sgnn]
theorem t_pb.bd {F : g_S → g_S} (h : t_pb n F) {s : g_S} (hs : t_bd n s) : t_bd n (F s) := ⟨(h s hs).1, by rw [(h s hs).2]; exact hs.2⟩
theorem pb_comp {F G : g_S → g_S} (hF : t_pb n F) (hG : t_pb n G) : t_pb n (fun s => G (F s)) := fun s h => ⟨(hG _ (hF.bd h)).1, (hG _ (hF.bd h)).2.trans (hF s h).2⟩
theorem pb_sk : t_pb n (t_sk B n) := fun s h => ⟨by show g_pos B n s.1 = n; rw [h.1, g_posn], rfl⟩
theorem pb_fl : t_pb n (t_fl B n) := fun s h => ⟨rfl, g_q1n h.2⟩
theorem pb_tk {c : Int} (hc : ¬ c = -1) : t_pb n (t_tk B n c) := fun s h => ⟨by show (if g_sgn B n s.1 = c then g_pos B n s.1 + 1 else g_pos B n s.1) = n; rw [h.1, g_sgnn, if_neg (fun q => hc q.symm), g_posn], rfl⟩
theorem pb_wn {c : Int} (hc : ¬ c = -1) : t_pb n (t_wn B n c) := fun s h => by
  unfold t_wn
  rw [h.1, g_sgnn, if_neg (fun q => hc q.symm), if_neg (fun q => hc q.symm)]
  exact ⟨rfl, g_q1n h.2⟩
theorem pb_put {z : Int} : t_pb n (t_put z) := fun s h => ⟨h.1, rfl⟩
theorem pb_nm : t_pb n (t_nm B n) := fun s h => by
  unfold t_nm g_numr
  rw [h.1, g_posn, if_neg (by omega)]
  exact ⟨rfl, g_q1n h.2⟩
theorem pb_atom {f : Option (g_S → g_S)} : t_pb n (t_atom B n f) := fun s h => by
  unfold t_atom
  rw [t_sgb h, if_neg (by decide), if_pos (by decide)]
  exact pb_comp (F := fun s => t_nm B n (t_sk B n s)) (G := t_put (t_nv B n (t_sk B n s))) (pb_comp pb_sk pb_nm) pb_put s h
theorem pb_lp {o1 o2 : Int} {item : g_S → g_S} (h1 : ¬ o1 = -1) (h2 : ¬ o2 = -1) : ∀ k : Nat, t_pb n (t_lp B n o1 o2 item k)
  | 0 => fun s h => ⟨h.1, rfl⟩
  | k + 1 => fun s h => by
    rw [t_lp, t_sgb h, if_neg (by omega)]
    exact pb_sk s h
theorem pb_lq {c : Int} {item : g_S → g_S} (h1 : ¬ c = -1) : ∀ k : Nat, t_pb n (t_lq B n c item k)
  | 0 => fun s h => ⟨h.1, rfl⟩
  | k + 1 => fun s h => by
    rw [t_lq, t_sgb h, if_neg (by omega)]
    exact pb_tk h1 s h
theorem pb_atk : ∀ k : Nat, t_pb n (t_atk B n k)
  | 0 => pb_atom
  | _ + 1 => pb_atom
theorem pb_tek (k : Nat) : t_pb n (t_tek B n k) := pb_comp (F := t_atk B n k) (G := t_lp B n 42 47 (t_atk B n k) 240) (pb_atk k) (pb_lp (by decide) (by decide) 240)
theorem pb_suk (k : Nat) : t_pb n (t_suk B n k) := pb_comp (F := t_tek B n k) (G := t_lp B n 43 45 (t_tek B n k) 240) (pb_tek k) (pb_lp (by decide) (by decide) 240)
theorem pb_cmp {sum : g_S → g_S} {e : Int} (h1 : t_pb n sum) : t_pb n (t_cmp B n sum e) := fun s h => by
  have h2 : t_bd n (if e = 0 then sum s else s) := by split; exact h1.bd h; exact h
  have h3 : (if e = 0 then sum s else s).2.1 = s.2.1 := by split; exact (h1 s h).2; rfl
  unfold t_cmp
  rw [t_sgb h2, if_neg (by unfold t_cp; decide)]
  have := pb_comp (pb_sk (B := B)) (pb_fl (B := B)) _ h2
  exact ⟨this.1, this.2.trans h3⟩
theorem pb_unit {sum : g_S → g_S} {inner : Option ((g_S → g_S) × (g_S → g_S))} {e : Int} (h1 : t_pb n sum) : t_pb n (t_unit B n sum inner e) := fun s h => by
  unfold t_unit
  rw [t_sgb h, if_neg (fun q => absurd q.2 (by decide)), if_neg (fun q => absurd q.2 (by decide))]
  exact pb_comp pb_sk (pb_cmp h1) s h
theorem pb_tru {unit : Int → g_S → g_S} {e : Int} (h1 : t_pb n (unit e)) : t_pb n (t_tru B n unit e) := pb_comp (F := unit e) (G := t_lq B n 38 (unit 0) 240) h1 (pb_lq (by decide) 240)
theorem pb_con {truth : Int → g_S → g_S} {e : Int} (h1 : t_pb n (truth e)) : t_pb n (t_con B n truth e) := pb_comp (F := truth e) (G := t_lq B n 124 (truth 0) 240) h1 (pb_lq (by decide) 240)
theorem pb_unk (e : Int) : ∀ k : Nat, t_pb n (t_unk B n k e)
  | 0 => pb_unit (pb_suk 0)
  | k + 1 => pb_unit (pb_suk (k + 1))
theorem pb_trk (e : Int) (k : Nat) : t_pb n (t_trk B n k e) := pb_tru (pb_unk e k)
theorem pb_cok (e : Int) (k : Nat) : t_pb n (t_cok B n k e) := pb_con (pb_trk e k)
theorem pb_cl2 (e : Int) : t_pb n (t_cl2 B n e) := pb_comp (F := fun s => t_put (-63) (t_wn B n 63 (t_cok B n 6 e s))) (G := t_suk B n 6) (pb_comp (F := fun s => t_wn B n 63 (t_cok B n 6 e s)) (G := t_put (-63)) (pb_comp (F := t_cok B n 6 e) (G := t_wn B n 63) (pb_cok e 6) (pb_wn (by decide))) pb_put) (pb_suk 6)
theorem pb_cls : t_pb n (t_cls B n) := fun s h => by
  have g1 : t_pb n (fun s => t_wn B n 58 (t_wn B n 121 s)) := pb_comp (F := t_wn B n 121) (G := t_wn B n 58) (pb_wn (by decide)) (pb_wn (by decide))
  have g2 : t_pb n (fun s => t_suk B n 6 (t_sk B n s)) := pb_comp (F := t_sk B n) (G := t_suk B n 6) pb_sk (pb_suk 6)
  have g3 : t_pb n (fun s => t_put (-59) (t_sk B n s)) := pb_comp (F := t_sk B n) (G := t_put (-59)) pb_sk pb_put
  have h1 := g1.bd h
  have e1 := (g1 s h).2
  dsimp only at h1 e1
  have h2 := g2.bd h1
  have e2 := (g2 _ h1).2
  dsimp only at h2 e2
  unfold t_cls
  rw [t_sgb h1, if_neg (by decide), t_sgb h2, if_neg (by unfold t_cp; decide)]
  have h3 := g3 _ h2
  exact ⟨h3.1, h3.2.trans (e2.trans e1)⟩
theorem pb_rdn : ∀ k : Nat, t_pb n (t_rdn B n k)
  | 0 => fun s h => ⟨h.1, rfl⟩
  | k + 1 => fun s h => by
    have h1 := (pb_cls (B := B)).bd h
    rw [t_rdn, t_sgb h1, if_neg (by decide)]
    exact pb_comp (F := t_cls B n) (G := t_tk B n 59) pb_cls (pb_tk (by decide)) s h
theorem pb_fin : t_pb n (t_fin B n) := fun s h => by
  unfold t_fin
  rw [h.1, g_sgnn, if_pos rfl, if_pos rfl, g_posn]
  exact ⟨rfl, rfl⟩
end PB
