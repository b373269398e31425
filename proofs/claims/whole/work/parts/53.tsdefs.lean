/-- memory with a TASTE's signs told so far -/
def g_rw (I : g_I) (t : Nat) (o : List Int) : g_I := fun k j => if k = t ∧ j = 2 then (o.length : Int) else if k = t + 1 ∧ 0 ≤ j ∧ j < (o.length : Int) then o.getD j.toNat 0 else I k j
/-- how far one has read, the first fault, the signs told -/
abbrev g_S : Type := Int × Int × List Int
def t_M (I : g_I) (t : Nat) (s : g_S) : g_I := g_ts (g_rw I t s.2.2) s.1 s.2.1
def t_ok (n : Int) (s : g_S) : Prop := (0 ≤ s.1 ∧ s.1 ≤ n) ∧ (-1 ≤ s.2.1 ∧ s.2.1 ≤ 240) ∧ s.2.2.length ≤ 256 ∧ ∀ z ∈ s.2.2, g32 z
section TS
variable (B : Int → Int) (n : Int)
def t_sg (s : g_S) : Int := g_sgn B n s.1
def t_sk (s : g_S) : g_S := (g_pos B n s.1, s.2)
def t_adv (s : g_S) : g_S := (s.1 + 1, s.2)
def t_fl (s : g_S) : g_S := (n, g_q1 s.2.1 (g_pos B n s.1), s.2.2)
def t_tk (c : Int) (s : g_S) : g_S := (if g_sgn B n s.1 = c then g_pos B n s.1 + 1 else g_pos B n s.1, s.2)
def t_wn (c : Int) (s : g_S) : g_S := (if g_sgn B n s.1 = c then g_pos B n s.1 + 1 else n, if g_sgn B n s.1 = c then s.2.1 else g_q1 s.2.1 (g_pos B n (g_pos B n s.1)), s.2.2)
def t_put (z : Int) (s : g_S) : g_S := (s.1, s.2.1, if s.2.2.length < 256 then s.2.2 ++ [z] else s.2.2)
def t_nv (s : g_S) : Int := (g_numr B n s.1 s.2.1 4 0 9999).1
def t_nm (s : g_S) : g_S := ((g_numr B n s.1 s.2.1 4 0 9999).2.1, (g_numr B n s.1 s.2.1 4 0 9999).2.2, s.2.2)
/-- which letter of a TASTE a sign is -/
def t_lt (c : Int) : Int := if c < 0 then -1 else g_first (fun j => decide (g_tx 3 j = c)) 8 0
def t_atom (sum : Option (g_S → g_S)) (s : g_S) : g_S :=
  if t_sg B n s = 91 then (match sum with | none => t_fl B n (t_sk B n s) | some f => t_wn B n 93 (f (t_adv (t_sk B n s))))
  else if t_lt (t_sg B n s) < 0 then t_put (t_nv B n (t_sk B n s)) (t_nm B n (t_sk B n s))
  else t_put (10000 + t_lt (t_sg B n s)) (t_adv (t_sk B n s))
def t_lp (o1 o2 : Int) (item : g_S → g_S) : Nat → g_S → g_S
  | 0, s => s
  | k + 1, s => if t_sg B n s = o1 ∨ t_sg B n s = o2 then t_lp o1 o2 item k (t_put (-(t_sg B n s)) (item (t_adv (t_sk B n s)))) else t_sk B n s
def t_lq (c : Int) (item : g_S → g_S) : Nat → g_S → g_S
  | 0, s => s
  | k + 1, s => if t_sg B n s = c then t_lq c item k (t_put (-c) (item (t_tk B n c s))) else t_tk B n c s
def t_term (atom : g_S → g_S) (s : g_S) : g_S := t_lp B n 42 47 atom 240 (atom s)
def t_sumt (term : g_S → g_S) (s : g_S) : g_S := t_lp B n 43 45 term 240 (term s)
def t_atk : Nat → g_S → g_S
  | 0 => t_atom B n none
  | k + 1 => t_atom B n (some (t_sumt B n (t_term B n (t_atk k))))
def t_tek (k : Nat) : g_S → g_S := t_term B n (t_atk B n k)
def t_suk (k : Nat) : g_S → g_S := t_sumt B n (t_tek B n k)
abbrev t_cp (c : Int) : Prop := c = 61 ∨ c = 60 ∨ c = 62
def t_cmp (sum : g_S → g_S) (e : Int) (s : g_S) : g_S :=
  if t_cp (t_sg B n (if e = 0 then sum s else s)) then t_put (-(t_sg B n (if e = 0 then sum s else s))) (sum (t_adv (t_sk B n (if e = 0 then sum s else s)))) else t_fl B n (t_sk B n (if e = 0 then sum s else s))
def t_unit (sum : g_S → g_S) (inner : Option ((g_S → g_S) × (g_S → g_S))) (e : Int) (s : g_S) : g_S :=
  if e = 0 ∧ t_sg B n s = 33 then (match inner with | none => t_fl B n (t_sk B n s) | some f => t_put (-33) (f.1 (t_adv (t_sk B n s))))
  else if e = 0 ∧ t_sg B n s = 40 then (match inner with | none => t_fl B n (t_sk B n s) | some f => t_wn B n 41 (f.2 (t_adv (t_sk B n s))))
  else t_cmp B n sum e (t_sk B n s)
def t_tru (unit : Int → g_S → g_S) (e : Int) (s : g_S) : g_S := t_lq B n 38 (unit 0) 240 (unit e s)
def t_con (truth : Int → g_S → g_S) (e : Int) (s : g_S) : g_S := t_lq B n 124 (truth 0) 240 (truth e s)
def t_unk : Nat → Int → g_S → g_S
  | 0 => t_unit B n (t_suk B n 0) none
  | k + 1 => t_unit B n (t_suk B n (k + 1)) (some (t_unk k 0, t_con B n (t_tru B n (t_unk k)) 0))
def t_trk (k : Nat) : Int → g_S → g_S := t_tru B n (t_unk B n k)
def t_cok (k : Nat) : Int → g_S → g_S := t_con B n (t_trk B n k)
/-- a CLAUSE that begins with a CONDITION or a SUM -/
def t_cl2 (e : Int) (s : g_S) : g_S := t_suk B n 6 (t_put (-63) (t_wn B n 63 (t_cok B n 6 e s)))
def t_cls (s : g_S) : g_S :=
  t_put (-59) (if t_sg B n (t_wn B n 58 (t_wn B n 121 s)) = 33 ∨ t_sg B n (t_wn B n 58 (t_wn B n 121 s)) = 40 then t_cl2 B n 0 (t_sk B n (t_wn B n 58 (t_wn B n 121 s)))
    else if t_cp (t_sg B n (t_suk B n 6 (t_sk B n (t_wn B n 58 (t_wn B n 121 s))))) then t_cl2 B n 1 (t_sk B n (t_suk B n 6 (t_sk B n (t_wn B n 58 (t_wn B n 121 s)))))
    else t_sk B n (t_suk B n 6 (t_sk B n (t_wn B n 58 (t_wn B n 121 s)))))
def t_rdn : Nat → g_S → g_S
  | 0, s => s
  | k + 1, s => if t_sg B n (t_cls B n s) = 59 then t_rdn k (t_tk B n 59 (t_cls B n s)) else t_tk B n 59 (t_cls B n s)
def t_fin (s : g_S) : g_S := (if g_sgn B n s.1 = -1 then g_pos B n s.1 else n, if g_sgn B n s.1 = -1 then s.2.1 else g_q1 s.2.1 (g_pos B n (g_pos B n s.1)), s.2.2)
/-- the TAPE read as a TASTE -/
def t_read : g_S := t_fin B n (t_rdn B n 240 (0, -1, []))
end TS
section TOK
variable {B : Int → Int} {n : Int} {s : g_S}
theorem t_sk_ok (h : t_ok n s) : t_ok n (t_sk B n s) := ⟨by have := g_pos_in (B := B) h.1.2; have := h.1.1; exact ⟨by show 0 ≤ g_pos B n s.1; omega, by show g_pos B n s.1 ≤ n; omega⟩, h.2⟩
theorem t_adv_ok (h : t_ok n s) (h2 : s.1 < n) : t_ok n (t_adv s) := ⟨by have := h.1.1; exact ⟨by show 0 ≤ s.1 + 1; omega, by show s.1 + 1 ≤ n; omega⟩, h.2⟩
theorem t_fl_ok (h : t_ok n s) (hn : n ≤ 240) : t_ok n (t_fl B n s) := by
  have h1 := g_pos_in (B := B) h.1.2
  have h0 := h.1.1
  have h2 := g_q1_in (q := s.2.1) (p := g_pos B n s.1) h.2.1 (by omega)
  exact ⟨⟨by show 0 ≤ n; omega, by show n ≤ n; omega⟩, ⟨by show -1 ≤ g_q1 s.2.1 (g_pos B n s.1); omega, h2.2⟩, h.2.2⟩
theorem t_tk_ok {c : Int} (h : t_ok n s) (hc : c ≠ -1) : t_ok n (t_tk B n c s) := by
  have h1 := g_tkin (B := B) (c := c) h.1.2 hc
  have h0 := h.1.1
  refine ⟨⟨?_, h1.2⟩, h.2⟩
  unfold t_tk
  dsimp only
  omega
theorem t_wn_ok {c : Int} (h : t_ok n s) (hn : n ≤ 240) (hc : c ≠ -1) : t_ok n (t_wn B n c s) := by
  have h0 := h.1.1
  have hp := g_pos_in (B := B) h.1.2
  have hp2 := g_pos_in (B := B) hp.2
  have hq := g_q1_in (q := s.2.1) (p := g_pos B n (g_pos B n s.1)) h.2.1 (by omega)
  have hh := h.2.1
  have h1 := g_tkin (B := B) (c := c) h.1.2 hc
  by_cases e : g_sgn B n s.1 = c
  · rw [if_pos e] at h1
    have e2 : t_wn B n c s = (g_pos B n s.1 + 1, s.2.1, s.2.2) := by unfold t_wn; rw [if_pos e, if_pos e]
    rw [e2]
    exact ⟨⟨by show 0 ≤ g_pos B n s.1 + 1; omega, h1.2⟩, h.2⟩
  · have e2 : t_wn B n c s = (n, g_q1 s.2.1 (g_pos B n (g_pos B n s.1)), s.2.2) := by unfold t_wn; rw [if_neg e, if_neg e]
    rw [e2]
    exact ⟨⟨by show 0 ≤ n; omega, by show n ≤ n; omega⟩, ⟨by show -1 ≤ g_q1 s.2.1 _; omega, hq.2⟩, h.2.2⟩
theorem t_put_ok {z : Int} (h : t_ok n s) (hz : g32 z) : t_ok n (t_put z s) := by
  refine ⟨h.1, h.2.1, ?_, ?_⟩
  · have := h.2.2.1
    unfold t_put
    dsimp only
    split
    · rw [List.length_append, List.length_singleton]; omega
    · exact this
  · unfold t_put
    dsimp only
    split
    · intro y hy
      rcases List.mem_append.mp hy with hy | hy
      · exact h.2.2.2 y hy
      · rw [List.mem_singleton.mp hy]; exact hz
    · exact h.2.2.2
theorem t_sg_in (h : t_ok n s) (hc : t_sg B n s ≠ -1) : g_pos B n s.1 < n := by
  unfold t_sg g_sgn at hc
  by_cases e : g_pos B n s.1 < n
  · exact e
  · rw [if_neg e] at hc; exact absurd rfl hc
end TOK
