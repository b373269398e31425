/-! ===== the reference reads a text: its memory, and what a reader's end says beside the class's reader ===== -/
/-- memory with the reader at a, first fault q, d signs deep -/
def y_M (M : g_I) (a q d : Int) : g_I := g_up (g_up (g_up M 703 12 d) 703 11 q) 703 10 a
section YM
variable {M : g_I} {a q d z : Int}
theorem y_M_a : y_M M a q d 703 10 = a := g_up_s
theorem y_M_q : y_M M a q d 703 11 = q := (g_up_i (by decide)).trans g_up_s
theorem y_M_d : y_M M a q d 703 12 = d := (g_up_i (by decide)).trans ((g_up_i (by decide)).trans g_up_s)
theorem y_M_k {k : Nat} (h : ¬ k = 703) : y_M M a q d k = M k := funext fun j => (g_up_k h).trans ((g_up_k h).trans (g_up_k h))
theorem y_M_j {j : Int} (h : ¬ (10 ≤ j ∧ j ≤ 12)) : y_M M a q d 703 j = M 703 j := (g_up_i (by omega)).trans ((g_up_i (by omega)).trans (g_up_i (by omega)))
theorem y_cm {I : g_I} {k : Nat} {i j v u : Int} (h : ¬ i = j) : g_up (g_up I k i v) k j u = g_up (g_up I k j u) k i v := by
  funext x y
  unfold g_up
  by_cases e1 : x = k ∧ y = j
  · rw [if_pos e1, if_neg (fun z => h (z.2.symm.trans e1.2)), if_pos e1]
  · rw [if_neg e1, if_neg e1]
theorem y_dup {I : g_I} {k : Nat} {i v u : Int} : g_up (g_up I k i v) k i u = g_up I k i u := by
  funext x y
  unfold g_up
  by_cases e1 : x = k ∧ y = i
  · rw [if_pos e1, if_pos e1]
  · rw [if_neg e1, if_neg e1, if_neg e1]
theorem y_M_pa : g_up (y_M M a q d) 703 10 z = y_M M z q d := y_dup
theorem y_M_pq : g_up (y_M M a q d) 703 11 z = y_M M a z d := by
  unfold y_M
  rw [y_cm (by decide), y_dup]
theorem y_M_pd : g_up (y_M M a q d) 703 12 z = y_M M a q z := by
  unfold y_M
  rw [y_cm (by decide), y_cm (I := g_up M 703 12 d) (by decide), y_dup]
theorem y_M_p {k : Nat} {i : Int} (h : ¬ (k = 703 ∧ 10 ≤ i ∧ i ≤ 12)) : g_up (y_M M a q d) k i z = y_M (g_up M k i z) a q d := by
  funext x y
  unfold y_M g_up
  by_cases e1 : x = k ∧ y = i
  · rw [if_pos e1, if_neg (by omega), if_neg (by omega), if_neg (by omega), if_pos e1]
  · rw [if_neg e1, if_neg e1]
theorem y_M_0 : y_M M (M 703 10) (M 703 11) (M 703 12) = M := by
  unfold y_M
  rw [g_up_same, g_up_same, g_up_same]
theorem y_M32 (hI : ∀ k j, g32 (M k j)) (ha : g32 a) (hq : g32 q) (hd : g32 d) : ∀ k j, g32 (y_M M a q d k j) := g_up32 (g_up32 (g_up32 hI hd) hq) ha
end YM
theorem y_by0 : ∀ i : Fin 256, g_and ((i.val : Int) - 128) 255 = if (i.val : Int) < 128 then (i.val : Int) + 128 else (i.val : Int) - 128 := by decide +kernel
theorem y_by {x : Int} (h : -128 ≤ x ∧ x ≤ 127) : g_and x 255 = if x < 0 then x + 256 else x := by
  have h2 := y_by0 ⟨(x + 128).toNat, by omega⟩
  dsimp only at h2
  rw [show (((x + 128).toNat : Nat) : Int) = x + 128 by omega, show x + 128 - 128 = x by omega] at h2
  rw [h2]
  split <;> split <;> omega
/-- where one reads: text tx, of ln places, from o on n of them; what letters are worth -/
def y_env (M : g_I) (tx ln : Nat) (o n : Int) (Lf : Int → Int) : Prop :=
  (M 703 8 = o ∧ M 703 9 = n) ∧ (0 ≤ o ∧ o + n ≤ (ln : Int) ∧ ln ≤ 1440) ∧ (0 ≤ n ∧ n ≤ 240) ∧ (∀ j, -128 ≤ M tx j ∧ M tx j ≤ 127) ∧ (∀ k j, g32 (M k j)) ∧ (∀ c, 0 ≤ t_lt c → M 707 c = Lf (t_lt c)) ∧ g_at g_n tx (.inr (1, ln)) ∧ ¬ tx = 703
/-- a reader's end beside the class's: from s to s', value v, at a, first fault q, d deep -/
def y_res (n : Int) (Lf : Int → Int) (d0 : Int) (h : Nat) (s s' : g_S) (v a q d : Int) : Prop :=
  g32 v ∧ (0 ≤ a ∧ a ≤ n) ∧ (d0 ≤ d ∧ d ≤ 6) ∧ (-1 ≤ q ∧ q ≤ 240) ∧ s'.2.1 = q ∧ (¬ q = -1 → s'.1 = n) ∧ (q = -1 → a = s'.1 ∧ d = d0 ∧ ∃ c : List Int, s'.2.2 = s.2.2 ++ c ∧ s.1 + (c.length : Int) ≤ s'.1 ∧ e_ev Lf c h v ∧ ¬ (-59) ∈ c)
def y_post (w : g_W) (M : g_I) (J : g_J) (R : g_R) (n : Int) (Lf : Int → Int) (d0 : Int) (h : Nat) (s s' : g_S) (bl : Bool) : g_P := fun r n' I' J' R' => n' = g_n ∧ J = J' ∧ R = R' ∧ ∃ v a q d : Int, r = some (gvI v) ∧ I' = y_M M a q d ∧ y_res n Lf d0 h s s' v a q d ∧ (bl = true → v = 0 ∨ v = 1)
theorem y_neg {op : Int} (h : 0 < op ∧ ¬ op = 59 ∧ ¬ op = 63 ∧ ¬ op = 33) : -op < 0 ∧ ¬ -op = -59 ∧ ¬ -op = -63 ∧ ¬ -op = -33 := by omega
section YRES
variable {B : Int → Int} {n : Int} {Lf : Int → Int} {d0 : Int} {h h1 h2 : Nat} {s s1 s2 s3 : g_S} {v v2 a q d a3 q3 d3 : Int}
theorem y_end {w : g_W} {M : g_I} {J : g_J} {R : g_R} {bl : Bool} {s' : g_S} (hy : y_res n Lf d0 h s s' v a q d) (hb : bl = true → v = 0 ∨ v = 1) : y_post w M J R n Lf d0 h s s' bl (some (gvI v)) g_n (y_M M a q d) J R := ⟨rfl, rfl, rfl, v, a, q, d, rfl, rfl, hy, hb⟩
theorem y_res.mono (hy : y_res n Lf d0 h1 s s1 v a q d) (hh : h1 ≤ h2) : y_res n Lf d0 h2 s s1 v a q d := by
  obtain ⟨k1, k2, k3, k4, k5, k6, k7⟩ := hy
  refine ⟨k1, k2, k3, k4, k5, k6, fun z => ?_⟩
  obtain ⟨e1, e2, c, e3, e4, e5, e6⟩ := k7 z
  exact ⟨e1, e2, c, e3, e4, e_mono e5 hh, e6⟩
/-- behind a fault nothing counts any more -/
theorem y_res.bad {F : g_S → g_S} {v' : Int} {s0 : g_S} {h' : Nat} {d0' : Int} (hy : y_res n Lf d0 h s s1 v a q d) (hq : ¬ q = -1) (hF : t_pb n F) (hv : g32 v') (hdd : d0' ≤ d0) : y_res n Lf d0' h' s0 (F s1) v' a q d := by
  obtain ⟨k1, k2, k3, k4, k5, k6, k7⟩ := hy
  have hb : t_bd n s1 := ⟨k6 hq, by rw [k5]; exact hq⟩
  exact ⟨hv, k2, ⟨by omega, k3.2⟩, k4, (hF s1 hb).2.trans k5, fun _ => (hF s1 hb).1, fun z => absurd z hq⟩
theorem y_res.bd (hy : y_res n Lf d0 h s s1 v a q d) (hq : ¬ q = -1) : t_bd n s1 := ⟨hy.2.2.2.2.2.1 hq, by rw [hy.2.2.2.2.1]; exact hq⟩
/-- a fault here -/
theorem y_res.fault {s' : g_S} {v' : Int} (ha : 0 ≤ a ∧ a ≤ n) (hd : d0 ≤ d ∧ d ≤ 6) (hn : n ≤ 240) (h1 : s'.1 = n) (h2 : s'.2.1 = a) (hv : g32 v') : y_res n Lf d0 h s s' v' a a d :=
  ⟨hv, ha, hd, ⟨by omega, by omega⟩, h2, fun _ => h1, fun z => by omega⟩
theorem y_res.at (hy : y_res n Lf d0 h s s1 v a (-1) d) : a = s1.1 ∧ d = d0 ∧ s1.2.1 = -1 ∧ s.1 ≤ s1.1 := by
  obtain ⟨-, -, -, -, k5, -, k7⟩ := hy
  obtain ⟨e1, e2, c, e3, e4, -⟩ := k7 rfl
  exact ⟨e1, e2, k5, by omega⟩
/-- behind blanks -/
theorem y_res.sk (hy : y_res n Lf d0 h s s1 v a (-1) d) : y_res n Lf d0 h s (t_sk B n s1) v (g_pos B n a) (-1) d := by
  obtain ⟨k1, k2, k3, k4, k5, k6, k7⟩ := hy
  obtain ⟨e1, e2, c, e3, e4, e5, e6⟩ := k7 rfl
  have hp := g_pos_in (B := B) (len := n) (a := a) k2.2
  refine ⟨k1, ⟨by omega, hp.2⟩, k3, k4, k5, fun z => absurd rfl z, fun _ => ⟨by show _ = g_pos B n s1.1; rw [e1], e2, c, e3, ?_, e5, e6⟩⟩
  show s.1 + (c.length : Int) ≤ g_pos B n s1.1
  rw [← e1]
  omega
/-- one more operand, its sign behind it -/
theorem y_res.op {op : Int} (hy : y_res n Lf d0 h s s1 v a (-1) d) (hl : (s.2.2.length : Int) ≤ s.1) (hn : n ≤ 240) (h2 : s2.2.2 = s1.2.2) (ha : s1.1 + 1 ≤ s2.1) (hz : y_res n Lf d0 h1 s2 s3 v2 a3 q3 d3) (hh : h1 + 1 ≤ h)
    (ho : 0 < op ∧ ¬ op = 59 ∧ ¬ op = 63 ∧ ¬ op = 33) : y_res n Lf d0 h s (t_put (-op) s3) (g_jn op v v2) a3 q3 d3 := by
  obtain ⟨k1, k2, k3, k4, k5, k6, k7⟩ := hy
  obtain ⟨e1, e2, c, e3, e4, e5, e6⟩ := k7 rfl
  obtain ⟨l1, l2, l3, l4, l5, l6, l7⟩ := hz
  have hj := @g_jn_in op v v2
  refine ⟨⟨by omega, by omega⟩, l2, l3, l4, l5, l6, fun z => ?_⟩
  obtain ⟨f1, f2, c2, f3, f4, f5, f6⟩ := l7 z
  have hs3 : s3.2.2 = s.2.2 ++ (c ++ c2) := by rw [f3, h2, e3, List.append_assoc]
  have hlen : s3.2.2.length < 256 := by
    rw [hs3, List.length_append, List.length_append]
    have := l2.2
    omega
  refine ⟨f1, f2, c ++ c2 ++ [-op], ?_, ?_, ?_, ?_⟩
  · show (if s3.2.2.length < 256 then s3.2.2 ++ [-op] else s3.2.2) = _
    rw [if_pos hlen, hs3, List.append_assoc]
  · show s.1 + _ ≤ s3.1
    rw [List.length_append, List.length_append, List.length_singleton]
    omega
  · have hn9 := y_neg ho
    have := e_bin (z := -op) e5 f5 (Nat.le_refl h) hh hn9.1 hn9.2.1 hn9.2.2.1 hn9.2.2.2
    rwa [Int.neg_neg] at this
  · intro hm
    rcases List.mem_append.mp hm with hm | hm
    · rcases List.mem_append.mp hm with hm | hm
      · exact e6 hm
      · exact f6 hm
    · exact (y_neg ho).2.1 (List.mem_singleton.mp hm).symm
/-- a number or a letter -/
theorem y_res.leaf {z : Int} {s' : g_S} (hl : (s.2.2.length : Int) ≤ s.1) (ha : 0 ≤ a ∧ a ≤ n) (hn : n ≤ 240) (hd : 0 ≤ d0 ∧ d0 ≤ 6) (hs : s.1 + 1 ≤ a) (h1 : s'.1 = a) (h2 : s'.2.1 = -1) (h3 : s'.2.2 = s.2.2) (hz : 0 ≤ z) (hv : v = if z < 10000 then z else Lf (z - 10000)) (h32 : g32 v) (hh : 1 ≤ h) : y_res n Lf d0 h s (t_put z s') v a (-1) d0 := by
  refine ⟨h32, ha, ⟨Int.le_refl _, hd.2⟩, ⟨by omega, by omega⟩, h2, fun z => absurd rfl z, fun _ => ⟨h1.symm, rfl, [z], ?_, ?_, ?_, ?_⟩⟩
  · show (if s'.2.2.length < 256 then s'.2.2 ++ [z] else s'.2.2) = _
    rw [h3, if_pos (by omega)]
  · show s.1 + 1 ≤ s'.1
    omega
  · rw [hv]; exact e_num hz hh
  · intro hm
    have := List.mem_singleton.mp hm
    omega
/-- from a state that differs in nothing but where one reads -/
theorem y_res.from (hy : y_res n Lf d0 h s2 s3 v a q d) (h2 : s2.2.2 = s.2.2) (h1 : s.1 ≤ s2.1) : y_res n Lf d0 h s s3 v a q d := by
  obtain ⟨k1, k2, k3, k4, k5, k6, k7⟩ := hy
  refine ⟨k1, k2, k3, k4, k5, k6, fun z => ?_⟩
  obtain ⟨e1, e2, c, e3, e4, e5, e6⟩ := k7 z
  exact ⟨e1, e2, c, by rw [e3, h2], by omega, e5, e6⟩
theorem y_res.len (hy : y_res n Lf d0 h s s1 v a (-1) d) (hl : (s.2.2.length : Int) ≤ s.1) : (s1.2.2.length : Int) ≤ s1.1 := by
  obtain ⟨e1, e2, c, e3, e4, e5, e6⟩ := hy.2.2.2.2.2.2 rfl
  rw [e3, List.length_append]
  omega
/-- what closes a pair, or is missing -/
theorem y_res.wnF {c : Int} {h' : Nat} {d0' : Int} {s0 : g_S} (hy : y_res n Lf d0 h s s1 v a q d) (hn : n ≤ 240) (hc : ¬ (q = -1 ∧ g_sgn B n a = c)) (h1 : ¬ c = -1) (hdd : d0' ≤ d0) :
    y_res n Lf d0' h' s0 (t_wn B n c s1) 0 (if q = -1 then (if g_sgn B n a = c then g_pos B n a + 1 else g_pos B n a) else a) (if q = -1 then (if g_sgn B n a = c then -1 else g_pos B n a) else q) d := by
  by_cases hq : q = -1
  · subst hq
    obtain ⟨e1, e2, e3, e4⟩ := hy.at
    have hs : ¬ g_sgn B n a = c := fun z => hc ⟨rfl, z⟩
    have ha := hy.2.1
    have hd := hy.2.2.1
    have hp := g_pos_in (B := B) (len := n) (a := a) ha.2
    rw [if_pos rfl, if_pos rfl, if_neg hs, if_neg hs]
    refine y_res.fault ⟨by omega, hp.2⟩ ⟨by omega, hd.2⟩ hn ?_ ?_ ⟨by decide, by decide⟩
    · unfold t_wn
      rw [← e1, if_neg hs]
    · unfold t_wn
      dsimp only
      rw [← e1, if_neg hs, e3, g_pos_pos ha.2]
      exact if_pos rfl
  · rw [if_neg hq, if_neg hq]
    exact hy.bad hq (pb_wn h1) ⟨by decide, by decide⟩ hdd
theorem y_res.wnT {c : Int} {s0 : g_S} (hy : y_res n Lf d0 h s s1 v a (-1) d) (hc : g_sgn B n a = c) (h1 : ¬ c = -1) (h2 : s.2.2 = s0.2.2) (h3 : s0.1 ≤ s.1) : y_res n Lf (d0 - 1) h s0 (t_wn B n c s1) v (g_pos B n a + 1) (-1) (d - 1) := by
  obtain ⟨k1, k2, k3, k4, k5, k6, k7⟩ := hy
  obtain ⟨e1, e2, c2, e3, e4, e5, e6⟩ := k7 rfl
  have hp := g_pos_in (B := B) (len := n) (a := a) k2.2
  have hlt : g_pos B n a < n := by
    unfold g_sgn at hc
    by_cases z : g_pos B n a < n
    · exact z
    · rw [if_neg z] at hc; omega
  have ew : t_wn B n c s1 = (g_pos B n a + 1, s1.2.1, s1.2.2) := by
    unfold t_wn
    rw [← e1, if_pos hc, if_pos hc]
  rw [ew]
  exact ⟨k1, ⟨by omega, by omega⟩, ⟨by omega, by omega⟩, k4, k5, fun z => absurd rfl z, fun _ => ⟨rfl, by omega, c2, by show s1.2.2 = _; rw [e3, h2], by show s0.1 + _ ≤ g_pos B n a + 1; omega, e5, e6⟩⟩
theorem y_res.dd (hy : y_res n Lf d0 h s s1 v a q d) : y_res n Lf (d0 - 1) h s s1 v a q (d - 1) := by
  obtain ⟨k1, k2, k3, k4, k5, k6, k7⟩ := hy
  refine ⟨k1, k2, ⟨by omega, by omega⟩, k4, k5, k6, fun z => ?_⟩
  obtain ⟨e1, e2, r⟩ := k7 z
  exact ⟨e1, by omega, r⟩
/-- ! -/
theorem y_res.not (hy : y_res n Lf d0 h s s1 v a q d) (hl : (s.2.2.length : Int) ≤ s.1) (hn : n ≤ 240) (hv : v = 0 ∨ v = 1) (s0 : g_S) (h2 : s0.2.2 = s.2.2) (h1 : s0.1 + 1 ≤ s.1) : y_res n Lf d0 h s0 (t_put (-33) s1) (1 - v) a q d := by
  obtain ⟨k1, k2, k3, k4, k5, k6, k7⟩ := hy
  refine ⟨⟨by omega, by omega⟩, k2, k3, k4, k5, k6, fun z => ?_⟩
  obtain ⟨e1, e2, c, e3, e4, e5, e6⟩ := k7 z
  have hlen : s1.2.2.length < 256 := by
    rw [e3, List.length_append]
    omega
  refine ⟨e1, e2, c ++ [-33], ?_, ?_, e_not e5, ?_⟩
  · show (if s1.2.2.length < 256 then s1.2.2 ++ [-33] else s1.2.2) = _
    rw [if_pos hlen, e3, h2, List.append_assoc]
  · show s0.1 + _ ≤ s1.1
    rw [List.length_append, List.length_singleton]
    omega
  · intro hm
    rcases List.mem_append.mp hm with hm | hm
    · exact e6 hm
    · have := List.mem_singleton.mp hm
      omega
end YRES
section YPU
variable {B : Int → Int} {n : Int} {s : g_S}
theorem t_sk_sk (h : s.1 ≤ n) : t_sk B n (t_sk B n s) = t_sk B n s := by
  unfold t_sk
  dsimp only
  rw [g_pos_pos h]
theorem t_sg_sk (h : s.1 ≤ n) : t_sg B n (t_sk B n s) = t_sg B n s := g_sgn_pos h
theorem t_tk_p {c : Int} (h : t_sg B n s = c) : t_tk B n c s = t_adv (t_sk B n s) := by
  unfold t_sg at h
  unfold t_tk t_adv t_sk
  rw [if_pos h]
theorem t_tk_n {c : Int} (h : ¬ t_sg B n s = c) : t_tk B n c s = t_sk B n s := by
  unfold t_sg at h
  unfold t_tk t_sk
  rw [if_neg h]
theorem t_cmp_sk {sum : g_S → g_S} (h : s.1 ≤ n) : t_cmp B n sum 1 (t_sk B n s) = t_cmp B n sum 1 s := by
  have e : ∀ a b : g_S, (if (1 : Int) = 0 then a else b) = b := fun a b => if_neg (by decide)
  unfold t_cmp
  rw [e, e, t_sg_sk h, t_sk_sk h]
theorem t_lp_e {o1 o2 : Int} {item : g_S → g_S} {m : Nat} (h : s.1 ≤ n) (hm : m = 0 → n ≤ s.1) (h1 : ¬ t_sg B n s = o1) (h2 : ¬ t_sg B n s = o2) : t_lp B n o1 o2 item m s = t_sk B n s := by
  cases m with
  | zero =>
    have := hm rfl
    rw [t_lp]
    unfold t_sk
    rw [g_pos_e (by omega)]
  | succ m => rw [t_lp, if_neg (by rintro (z | z); exact h1 z; exact h2 z)]
theorem t_lq_e {c : Int} {item : g_S → g_S} {m : Nat} (h : s.1 ≤ n) (hm : m = 0 → n ≤ s.1) (h1 : ¬ t_sg B n s = c) : t_lq B n c item m s = t_sk B n s := by
  cases m with
  | zero =>
    have := hm rfl
    rw [t_lq]
    unfold t_sk
    rw [g_pos_e (by omega)]
  | succ m => rw [t_lq, if_neg h1, t_tk_n h1]
theorem t_lp_s {o1 o2 op : Int} {item : g_S → g_S} {m : Nat} (hm : 0 < m) (h1 : t_sg B n s = op) (h2 : op = o1 ∨ op = o2) : t_lp B n o1 o2 item m s = t_lp B n o1 o2 item (m - 1) (t_put (-op) (item (t_adv (t_sk B n s)))) := by
  cases m with
  | zero => omega
  | succ m => rw [t_lp, h1, if_pos h2, Nat.add_sub_cancel]
theorem t_lq_s {c : Int} {item : g_S → g_S} {m : Nat} (hm : 0 < m) (h1 : t_sg B n s = c) : t_lq B n c item m s = t_lq B n c item (m - 1) (t_put (-c) (item (t_adv (t_sk B n s)))) := by
  cases m with
  | zero => omega
  | succ m => rw [t_lq, if_pos h1, t_tk_p h1, Nat.add_sub_cancel]
theorem y_j61 {l r : Int} : g_jn 61 l r = if l = r then 1 else 0 := by rw [g_jn61]; split <;> omega
theorem y_j60 {l r : Int} : g_jn 60 l r = if l < r then 1 else 0 := by rw [g_jn60]; split <;> omega
theorem y_j62 {l r : Int} : g_jn 62 l r = if r < l then 1 else 0 := by rw [g_jn62]; split <;> omega
theorem y_j38 {l r : Int} (hl : l = 0 ∨ l = 1) (hr : r = 0 ∨ r = 1) : g_jn 38 l r = if l = 1 ∧ r = 1 then 1 else 0 := by rw [g_jn38, g_land01 hl hr]; split <;> omega
theorem y_j124 {l r : Int} (hl : l = 0 ∨ l = 1) (hr : r = 0 ∨ r = 1) : g_jn 124 l r = if l = 1 ∨ r = 1 then 1 else 0 := by rw [g_jn124, g_lor01 hl hr]; split <;> omega
end YPU
