theorem g_upR_k {R : g_R} {k a : Nat} {i j : Int} {v : Option Nat} (h : a ≠ k) : g_upR R k i v a j = R a j := if_neg (fun q => h q.1)
theorem g_upR_s {R : g_R} {k : Nat} {i : Int} {v : Option Nat} : g_upR R k i v k i = v := if_pos ⟨rfl, rfl⟩
theorem g_rf_tx0 : (∀ q ∈ g_rtab, ¬ (q.1 = 703 ∧ q.2.1 = 5)) ∧ ∀ q ∈ g_etab, ¬ (q.1 = 703 ∧ q.2.1 = 5) := by decide +kernel
/-- another text is read -/
theorem g_rf_tx {w : g_W} {R : g_R} {lb tx t2 : Nat} (h : g_rf w R lb tx) : g_rf w (g_upR R 703 5 (some (w.2.2.2.1 + t2))) lb t2 := by
  obtain ⟨h1, h2, h3, h4, h5, h6, h7, h8, h9⟩ := h
  have e : ∀ (a : Nat) (j : Int), a ≠ 703 → g_upR R 703 5 (some (w.2.2.2.1 + t2)) a j = R a j := fun a j ha => g_upR_k ha
  refine ⟨fun q hq => ?_, fun q hq => ?_, fun b hb => ?_, fun t ht => ?_, fun i a c => ?_, fun i a c => ?_, fun i a c => ?_, ?_, g_upR_s⟩
  · show (if q.1 = 703 ∧ q.2.1 = 5 then _ else _) = _
    rw [if_neg (g_rf_tx0.1 q hq)]; exact h1 q hq
  · show (if q.1 = 703 ∧ q.2.1 = 5 then _ else _) = _
    rw [if_neg (g_rf_tx0.2 q hq)]; exact h2 q hq
  · have hb2 := hb
    unfold g_life at hb2
    have h := h3 b hb
    unfold g_rfL at h ⊢
    have e0 : g_upR R 703 5 (some (w.2.2.2.1 + t2)) b = R b := funext fun j => e b j (by omega)
    have e1 : g_upR R 703 5 (some (w.2.2.2.1 + t2)) (b + 1) = R (b + 1) := funext fun j => e _ j (by omega)
    have e2 : g_upR R 703 5 (some (w.2.2.2.1 + t2)) (b + 15) = R (b + 15) := funext fun j => e _ j (by omega)
    have e3 : g_upR R 703 5 (some (w.2.2.2.1 + t2)) (b + 28) = R (b + 28) := funext fun j => e _ j (by omega)
    have e4 : g_upR R 703 5 (some (w.2.2.2.1 + t2)) (b + 46) = R (b + 46) := funext fun j => e _ j (by omega)
    rw [e0, e1, e2, e3, e4]
    exact h
  · have ht2 := ht
    unfold g_taste at ht2
    rw [e t 0 (by omega), e t 1 (by omega)]
    exact h4 t ht
  · rw [e 3 i (by decide)]; exact h5 i a c
  · rw [e 516 i (by decide)]; exact h6 i a c
  · rw [e 690 i (by decide)]; exact h7 i a c
  · rw [e 548 3 (by decide)]; exact h8
theorem y_open {X : g_I} {a q : Int} : g_up (g_up X 703 10 a) 703 11 q = y_M X a q (X 703 12) := by
  unfold y_M
  rw [g_up_same, y_cm (by decide)]
/-- a text to be read -/
def y_txt (M : g_I) (tx ln : Nat) (o n : Int) (Lf : Int → Int) : Prop := (0 ≤ o ∧ o + n ≤ (ln : Int) ∧ ln ≤ 1440) ∧ (0 ≤ n ∧ n ≤ 240) ∧ (∀ j, -128 ≤ M tx j ∧ M tx j ≤ 127) ∧ (∀ k j, g32 (M k j)) ∧ (∀ c, 0 ≤ t_lt c → M 707 c = Lf (t_lt c)) ∧ g_at g_n tx (.inr (1, ln)) ∧ (tx = 704 ∨ tx = 705)
theorem y_txt.env {M X : g_I} {tx ln : Nat} {o n : Int} {Lf : Int → Int} (h : y_txt M tx ln o n Lf) (hk : ∀ k : Nat, ¬ k = 703 → X k = M k) (hx : ∀ k j, g32 (X k j)) (h8 : X 703 8 = o) (h9 : X 703 9 = n) : y_env X tx ln o n Lf := by
  obtain ⟨h1, h2, h3, h4, h5, h6, h7⟩ := h
  refine ⟨⟨h8, h9⟩, h1, h2, ?_, hx, ?_, h6, by omega⟩
  · rw [hk tx (by omega)]; exact h3
  · rw [hk 707 (by decide)]; exact h5
/-- a whole text has been read -/
def y_gt (w : g_W) (M : g_I) (J : g_J) (lb : Nat) (tx : Nat) (o n : Int) (Lf : Int → Int) : g_P := fun r n' I' J' R' => r = none ∧ n' = g_n ∧ J = J' ∧ g_rf w R' lb tx ∧ (∀ (k : Nat) (j : Int), ¬ (k = 703 ∧ (8 ≤ j ∧ j ≤ 14 ∨ j = 17)) → I' k j = M k j) ∧ (∀ k j, g32 (I' k j)) ∧ I' 703 11 = (t_read (q_by M tx o) n).2.1 ∧ ((t_read (q_by M tx o) n).2.1 = -1 → I' 703 14 = e_run Lf (t_read (q_by M tx o) n).2.2 [] false)
/-- the reader between CLAUSES: at z, of which one has been read to its end -/
def y_lpi (B : Int → Int) (n : Int) (Lf : Int → Int) (z : g_S) (m : Nat) (h f a q d : Int) : Prop :=
  t_rdn B n 240 (0, -1, []) = (if t_sg B n z = 59 then t_rdn B n m (t_tk B n 59 z) else t_tk B n 59 z) ∧ (h = 0 ∨ h = 1) ∧ g32 f ∧ (0 ≤ a ∧ a ≤ n) ∧ (0 ≤ d ∧ d ≤ 6) ∧ (-1 ≤ q ∧ q ≤ 240) ∧ z.2.1 = q ∧ (¬ q = -1 → z.1 = n) ∧
    (q = -1 → a = z.1 ∧ d = 0 ∧ (z.2.2.length : Int) ≤ z.1 ∧ 478 - 2 * (m : Int) ≤ z.1 ∧ (h = 0 → f = 0 ∧ ∀ rest : List Int, e_run Lf (z.2.2 ++ rest) [] false = e_run Lf rest [] false) ∧ (h = 1 → ∀ rest : List Int, e_run Lf (z.2.2 ++ rest) [] false = f))
theorem y_lpi.first {B : Int → Int} {n : Int} {Lf : Int → Int} {h' f' a q d : Int} (hy : y_cr n Lf 0 (0, -1, []) (t_cls B n (0, -1, [])) 0 0 h' f' a q d) : y_lpi B n Lf (t_cls B n (0, -1, [])) 239 h' f' a q d := by
  obtain ⟨k1, k2, k3, k4, k5, k6, k7, k8⟩ := hy
  refine ⟨by rw [show (240 : Nat) = 239 + 1 from rfl, t_rdn], k2, k1, k3, k4, k5, k6, k7, fun z => ?_⟩
  obtain ⟨f1, f2, f3, c, f4, f5, f6⟩ := k8 z
  have e : (t_cls B n (0, -1, [])).2.2 = c := f4
  refine ⟨f1, f2, by rw [e]; omega, by omega, fun z0 => ?_, fun z1 => ?_⟩
  · rw [e]
    rcases f6 with ⟨g1, -⟩ | ⟨-, -, g3, g4⟩ | ⟨-, g2, -⟩
    · omega
    · exact ⟨g3, g4⟩
    · omega
  · rw [e]
    rcases f6 with ⟨g1, -⟩ | ⟨-, g2, -⟩ | ⟨-, -, g3⟩
    · omega
    · omega
    · exact g3
theorem y_lpi.next {B : Int → Int} {n : Int} {Lf : Int → Int} {z : g_S} {m : Nat} {h f a d h' f' a' q' d' : Int} (hi : y_lpi B n Lf z m h f a (-1) d) (hn : n ≤ 240) (hs : t_sg B n z = 59) (hp : g_pos B n z.1 < n)
    (hy : y_cr n Lf 0 (t_adv (t_sk B n z)) (t_cls B n (t_adv (t_sk B n z))) h f h' f' a' q' d') : y_lpi B n Lf (t_cls B n (t_adv (t_sk B n z))) (m - 1) h' f' a' q' d' ∧ 0 < m := by
  obtain ⟨i1, i2, i3, i4, i5, i6, i7, i8, i9⟩ := hi
  obtain ⟨k1, k2, k3, k4, k5, k6, k7, k8⟩ := hy
  obtain ⟨j1, j2, j3, j4, j5, j6⟩ := i9 rfl
  have hpp := g_pos_in (B := B) (len := n) (a := z.1) (by omega)
  have hm : 0 < m := by omega
  obtain ⟨m', rfl⟩ : ∃ m', m = m' + 1 := ⟨m - 1, by omega⟩
  refine ⟨⟨by rw [i1, if_pos hs, t_tk_p hs, t_rdn, Nat.add_sub_cancel], k2, k1, k3, k4, k5, k6, k7, fun z9 => ?_⟩, hm⟩
  obtain ⟨f1, f2, f3, c, f4, f5, f6⟩ := k8 z9
  have e : (t_cls B n (t_adv (t_sk B n z))).2.2 = z.2.2 ++ c := f4
  have e1 : (t_adv (t_sk B n z)).1 = g_pos B n z.1 + 1 := rfl
  have hlen : (((t_cls B n (t_adv (t_sk B n z))).2.2.length : Nat) : Int) = (z.2.2.length : Int) + (c.length : Int) := by rw [e, List.length_append]; omega
  refine ⟨f1, f2, by omega, by rw [Nat.add_sub_cancel]; omega, fun z0 => ?_, fun z1 => ?_⟩
  · rcases f6 with ⟨g1, g2, -⟩ | ⟨g1, -, g3, g4⟩ | ⟨-, g2, -⟩
    · omega
    · obtain ⟨l1, l2⟩ := j5 g1
      refine ⟨by rw [g3]; exact l1, fun rest => ?_⟩
      rw [e, List.append_assoc, l2, g4]
    · omega
  · rcases f6 with ⟨g1, g2, g3⟩ | ⟨-, g2, -⟩ | ⟨g1, -, g3⟩
    · intro rest
      rw [e, List.append_assoc, j6 g1, g3]
    · omega
    · obtain ⟨l1, l2⟩ := j5 g1
      intro rest
      rw [e, List.append_assoc, l2, g3]
theorem y_lpi.run {B : Int → Int} {n : Int} {Lf : Int → Int} {z : g_S} {m : Nat} {h f a d : Int} (hi : y_lpi B n Lf z m h f a (-1) d) : e_run Lf z.2.2 [] false = f := by
  obtain ⟨i1, i2, i3, i4, i5, i6, i7, i8, i9⟩ := hi
  obtain ⟨j1, j2, j3, j4, j5, j6⟩ := i9 rfl
  rcases i2 with h0 | h0
  · obtain ⟨l1, l2⟩ := j5 h0
    have := l2 []
    rw [List.append_nil] at this
    rw [this, l1]
    rfl
  · have := j6 h0 []
    rwa [List.append_nil] at this
/-- the ends: a fault within; one behind; none -/
theorem y_gt1 {B : Int → Int} {n : Int} {Lf : Int → Int} {z : g_S} {m : Nat} {h f a q d : Int} (hi : y_lpi B n Lf z m h f a q d) (hq : ¬ q = -1) : (t_read B n).2.1 = q := by
  obtain ⟨i1, i2, i3, i4, i5, i6, i7, i8, i9⟩ := hi
  have hb : t_bd n z := ⟨i8 hq, by rw [i7]; exact hq⟩
  unfold t_read
  rw [i1, t_sgb hb, if_neg (by decide)]
  exact (pb_comp (F := t_tk B n 59) (G := t_fin B n) (pb_tk (by decide)) pb_fin z hb).2.trans i7
theorem y_gt2 {B : Int → Int} {n : Int} {Lf : Int → Int} {z : g_S} {m : Nat} {h f a d : Int} (hi : y_lpi B n Lf z m h f a (-1) d) (hs : ¬ g_sgn B n z.1 = 59) (h9 : ¬ g_sgn B n z.1 = -1) : (t_read B n).2.1 = g_pos B n z.1 := by
  obtain ⟨i1, i2, i3, i4, i5, i6, i7, i8, i9⟩ := hi
  obtain ⟨j1, j2, j3, j4, j5, j6⟩ := i9 rfl
  have hs2 : ¬ t_sg B n z = 59 := hs
  have hz : z.1 ≤ n := by omega
  unfold t_read
  rw [i1, if_neg hs2, t_tk_n hs2]
  unfold t_fin t_sk
  dsimp only
  rw [g_sgn_pos hz, if_neg h9, i7, g_pos_pos hz, g_pos_pos hz]
  rfl
theorem y_gt3 {B : Int → Int} {n : Int} {Lf : Int → Int} {z : g_S} {m : Nat} {h f a d : Int} (hi : y_lpi B n Lf z m h f a (-1) d) (hs : g_sgn B n z.1 = -1) : (t_read B n).2.1 = -1 ∧ e_run Lf (t_read B n).2.2 [] false = f := by
  have hr := hi.run
  obtain ⟨i1, i2, i3, i4, i5, i6, i7, i8, i9⟩ := hi
  obtain ⟨j1, j2, j3, j4, j5, j6⟩ := i9 rfl
  have hs2 : ¬ t_sg B n z = 59 := by
    show ¬ g_sgn B n z.1 = 59
    omega
  have hz : z.1 ≤ n := by omega
  unfold t_read
  rw [i1, if_neg hs2, t_tk_n hs2]
  unfold t_fin t_sk
  dsimp only
  rw [g_sgn_pos hz, if_pos hs]
  exact ⟨i7, hr⟩
