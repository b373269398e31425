/-! ===== the reference's rows beside the class's picture ===== -/
/-- the reference's scratch: of all questions; of a TASTE's worth alone -/
abbrev x_a (k : Nat) (j : Int) : Prop := k = 707 ∨ k = 715 ∨ k = 716 ∨ k = 719 ∨ k = 720 ∨ k = 724 ∨ (k = 703 ∧ (j = 0 ∨ (8 ≤ j ∧ j ≤ 14) ∨ j = 17 ∨ j = 29))
abbrev x_t (k : Nat) (j : Int) : Prop := k = 707 ∨ (k = 703 ∧ (j = 0 ∨ (8 ≤ j ∧ j ≤ 14) ∨ j = 17))
abbrev x_w (k : Nat) (j : Int) : Prop := k = 715 ∨ k = 716 ∨ (k = 703 ∧ j = 29)
abbrev x_n (k : Nat) (j : Int) : Prop := k = 703 ∧ j = 0
/-- a question's end: what it answers; nothing but scratch changed -/
def x_rel (w : g_W) (rv : Option Value) (Sc : Nat → Int → Prop) (M : g_I) (J : g_J) (lb : Nat) : g_P := fun r n' I' J' R' => r = rv ∧ n' = g_n ∧ (∀ (k : Nat) (j : Int), ¬ Sc k j → I' k j = M k j) ∧ (∀ k j, g32 (I' k j)) ∧ J = J' ∧ ∃ tx, g_rf w R' lb tx
theorem x_end {w : g_W} {e E : Int} {Sc : Nat → Int → Prop} {M M' : g_I} {J : g_J} {R : g_R} {lb tx : Nat} (h : e = E) (h1 : ∀ (k : Nat) (j : Int), ¬ Sc k j → M' k j = M k j) (h2 : ∀ k j, g32 (M' k j)) (hR : g_rf w R lb tx) : x_rel w (some (gvI E)) Sc M J lb (some (gvI e)) g_n M' J R := ⟨by rw [h], rfl, h1, h2, rfl, tx, hR⟩
theorem x_endL {w : g_W} {e E : Int} {Sc : Nat → Int → Prop} {M M' : g_I} {J : g_J} {R : g_R} {lb tx : Nat} (h : e = E) (h1 : ∀ (k : Nat) (j : Int), ¬ Sc k j → M' k j = M k j) (h2 : ∀ k j, g32 (M' k j)) (hR : g_rf w R lb tx) : x_rel w (some (gvL E)) Sc M J lb (some (gvL e)) g_n M' J R := ⟨by rw [h], rfl, h1, h2, rfl, tx, hR⟩
theorem x_endv {w : g_W} {Sc : Nat → Int → Prop} {M M' : g_I} {J : g_J} {R : g_R} {lb tx : Nat} (h1 : ∀ (k : Nat) (j : Int), ¬ Sc k j → M' k j = M k j) (h2 : ∀ k j, g32 (M' k j)) (hR : g_rf w R lb tx) : x_rel w none Sc M J lb none g_n M' J R := ⟨rfl, rfl, h1, h2, rfl, tx, hR⟩
theorem g_up_n {I : g_I} {k a : Nat} {i j v : Int} (h : a ≠ k ∨ j ≠ i) : g_up I k i v a j = I a j := if_neg (fun q => by rcases h with h | h; exact h q.1; exact h q.2)
/-- a step of a WAY: what its BRANCH tells; the FORK and the BRANCH just ahead of step i -/
abbrev q_it (I : g_I) (b : Nat) (s i c : Int) : Int := I (b + 47 + (I (b + 16 + s.toNat) i * 4 + I (b + 29 + s.toNat) i).toNat) c
def q_pf (I : g_I) (b : Nat) (s i : Int) : Int := if i = 0 then -1 else I (b + 16 + s.toNat) (i - 1)
def q_pr (I : g_I) (b : Nat) (s i : Int) : Int := if i = 0 then -1 else I (b + 29 + s.toNat) (i - 1)
/-- whether a FORK is on a WAY -/
def q_on (I : g_I) (b : Nat) (s f : Int) : Bool := !g_all (fun i => decide (¬ I (b + 16 + s.toNat) i = f)) (I (b + 14) s).toNat 0
/-- how LIVES are built -/
def q_str (I : g_I) (b : Nat) : Prop :=
  (1 ≤ I b 0 ∧ (I b 1 = 0 → I b 0 = 1)) ∧
  (∀ s, 0 ≤ s → s < I b 0 → (0 < I b 1 → 1 ≤ I (b + 14) s ∧ I (b + 16 + s.toNat) 0 = 0) ∧ (∀ i, 0 ≤ i → i + 1 < I (b + 14) s → I (b + 16 + s.toNat) i < I (b + 16 + s.toNat) (i + 1)) ∧
    ∀ i, 0 ≤ i → i < I (b + 14) s → I (b + 127) (I (b + 16 + s.toNat) i * 4 + I (b + 29 + s.toNat) i) = if i + 1 = I (b + 14) s then s else 100 + I (b + 16 + s.toNat) (i + 1)) ∧
  (∃ dep : Int → Int, dep 0 = 0 ∧ (∀ f, 0 ≤ f → f < I b 1 → 0 ≤ dep f ∧ dep f < 6) ∧ (∀ s, 0 ≤ s → s < I b 0 → ∀ i, 0 ≤ i → i < I (b + 14) s → dep (I (b + 16 + s.toNat) i) = i) ∧
    ∀ f r, 0 ≤ f → f < I b 1 → 0 ≤ r → r < I (b + 43) f → 100 ≤ I (b + 127) (f * 4 + r) → dep (I (b + 127) (f * 4 + r) - 100) = dep f + 1) ∧
  (∀ f, 0 ≤ f → f < I b 1 → I (b + 45) f = g_ors (fun s => if q_on I b s f = true then g_shl 1 s else 0) (I b 0).toNat)
/-- a SELF in the reference's rows -/
def q_sl (I : g_I) (b : Nat) (M : g_I) (jj s : Int) : Prop :=
  (M 708 ((jj * 12 + s) * 7 + 2) = I (b + 2 + s.toNat) 3 ∧ M 708 ((jj * 12 + s) * 7 + 3) = I (b + 2 + s.toNat) 4 ∧ M 708 ((jj * 12 + s) * 7 + 4) = I (b + 2 + s.toNat) 5 ∧ M 708 ((jj * 12 + s) * 7 + 5) = q_pf I b s (I (b + 14) s) ∧ M 708 ((jj * 12 + s) * 7 + 6) = q_pr I b s (I (b + 14) s)) ∧
  (0 ≤ M 708 ((jj * 12 + s) * 7) ∧ M 708 ((jj * 12 + s) * 7) ≤ 99 ∧ I (b + 2 + s.toNat) 0 = M 708 ((jj * 12 + s) * 7) + g_sum (fun i => q_it I b s i 1) (I (b + 14) s).toNat) ∧
  (0 ≤ M 708 ((jj * 12 + s) * 7 + 1) ∧ M 708 ((jj * 12 + s) * 7 + 1) ≤ 99 ∧ I (b + 2 + s.toNat) 1 = M 708 ((jj * 12 + s) * 7 + 1) + g_sum (fun i => q_it I b s i 2) (I (b + 14) s).toNat) ∧
  I (b + 2 + s.toNat) 2 = g_sum (fun i => q_it I b s i 3) (I (b + 14) s).toNat ∧
  I (b + 2 + s.toNat) 6 = g_ors (fun i => if q_it I b s i 4 = -1 then 0 else g_shl 1 (q_it I b s i 4)) (I (b + 14) s).toNat ∧
  ∀ i, 0 ≤ i → i < I (b + 14) s → M 709 ((jj * 18 + I (b + 16 + s.toNat) i) * 5 + 3) = q_pf I b s i ∧ M 709 ((jj * 18 + I (b + 16 + s.toNat) i) * 5 + 4) = q_pr I b s i
/-- a FORK in the reference's rows -/
def q_fk (I : g_I) (b : Nat) (M : g_I) (jj f : Int) : Prop :=
  (M 709 ((jj * 18 + f) * 5) = I (b + 41) f ∧ M 709 ((jj * 18 + f) * 5 + 1) = I (b + 42) f ∧ M 709 ((jj * 18 + f) * 5 + 2) = I (b + 43) f ∧ M 709 ((jj * 18 + f) * 5 + 3) = I (b + 44) f) ∧
  ∀ r, 0 ≤ r → r < I (b + 43) f → (∀ c, 0 ≤ c → c < 5 → M 710 (((jj * 18 + f) * 4 + r) * 6 + c) = I (b + 47 + (f * 4 + r).toNat) c) ∧ M 710 (((jj * 18 + f) * 4 + r) * 6 + 5) = I (b + 127) (f * 4 + r)
/-- a LIFE in row jj -/
def q_lf (I : g_I) (b : Nat) (M : g_I) (jj : Int) : Prop :=
  g_lok I b ∧ q_str I b ∧ M 711 jj = I b 0 ∧ M 712 jj = I b 1 ∧ (∀ s, 0 ≤ s → s < I b 0 → q_sl I b M jj s) ∧ ∀ f, 0 ≤ f → f < I b 1 → q_fk I b M jj f
/-- a byte as it was fed -/
abbrev q_by (M : g_I) (k : Nat) (o : Int) : Int → Int := fun j => g_and (M k (o + j)) 255
/-- a TASTE: its signs are those of its text, which has no FAULT -/
def q_ta (I : g_I) (M : g_I) (t : Int) : Prop :=
  (0 ≤ M 706 t ∧ M 706 t ≤ 240) ∧ (t_read (q_by M 705 (240 * t)) (M 706 t)).2.1 = -1 ∧ (∀ j, -128 ≤ M 705 j ∧ M 705 j ≤ 127) ∧ I (517 + 3 * t.toNat) 2 = ((t_read (q_by M 705 (240 * t)) (M 706 t)).2.2.length : Int) ∧
  ∀ i : Int, 0 ≤ i → i < I (517 + 3 * t.toNat) 2 → I (518 + 3 * t.toNat) i = (t_read (q_by M 705 (240 * t)) (M 706 t)).2.2.getD i.toNat 0
/-- which LIFE is at the TABLE: none, or one that was told -/
def q_tb (I : g_I) (lb : Nat) : Prop := (I 0 12 = -1 ∧ I 0 10 = 0 ∧ lb = 555 ∧ I 555 0 = 0 ∧ I 555 1 = 0) ∨ (0 ≤ I 0 12 ∧ I 0 12 < I 0 10 ∧ lb = 4 + 128 * (I 0 12).toNat)
/-- all that questions are about -/
def q_rel (I : g_I) (lb : Nat) (M : g_I) : Prop :=
  (∀ k j, g32 (M k j)) ∧ (∀ k j, g32 (I k j)) ∧ g_cin I lb ∧ q_tb I lb ∧ (0 ≤ I 0 10 ∧ I 0 10 ≤ 3) ∧ (M 703 24 = I 0 12 ∧ M 703 23 = I 0 10 ∧ M 703 7 = I 0 11) ∧
  (∀ jj : Int, 0 ≤ jj → jj < I 0 10 → q_lf I (4 + 128 * jj.toNat) M jj) ∧ (∀ k : Int, 0 ≤ k → k < 4 → M 714 k = I 550 k) ∧
  (∀ f : Int, 0 ≤ f → f < I lb 1 → I 550 (4 + f) < g_shl 1 (I (lb + 43) f) ∧ ∀ r : Int, 0 ≤ r → r < I (lb + 43) f → M 713 (4 * f + r) = g_b (g_bit (I 550 (4 + f)) r)) ∧
  (∀ t : Int, 0 ≤ t → t < I 0 11 → q_ta I M t) ∧
  (g_cok I ∧ M 703 38 = I 697 4 ∧ ∀ c : Int, 0 ≤ c → c < I 697 4 → M 721 c = I 698 c ∧ M 722 c = I 699 c ∧ M 723 c = I 700 c)
section QREL
variable {I M : g_I} {lb : Nat}
theorem q_rel.g (h : q_rel I lb M) : ∀ k j, g32 (M k j) := h.1
theorem q_rel.gi (h : q_rel I lb M) : ∀ k j, g32 (I k j) := h.2.1
theorem q_rel.cin (h : q_rel I lb M) : g_cin I lb := h.2.2.1
theorem q_rel.tbl (h : q_rel I lb M) : q_tb I lb := h.2.2.2.1
theorem q_rel.lv (h : q_rel I lb M) : 0 ≤ I 0 10 ∧ I 0 10 ≤ 3 := h.2.2.2.2.1
theorem q_rel.tab (h : q_rel I lb M) : M 703 24 = I 0 12 := h.2.2.2.2.2.1.1
theorem q_rel.liv (h : q_rel I lb M) : M 703 23 = I 0 10 := h.2.2.2.2.2.1.2.1
theorem q_rel.tas (h : q_rel I lb M) : M 703 7 = I 0 11 := h.2.2.2.2.2.1.2.2
theorem q_rel.lf (h : q_rel I lb M) {jj : Int} (h0 : 0 ≤ jj ∧ jj < I 0 10) : q_lf I (4 + 128 * jj.toNat) M jj := h.2.2.2.2.2.2.1 jj h0.1 h0.2
theorem q_rel.told (h : q_rel I lb M) {k : Int} (h0 : 0 ≤ k ∧ k < 4) : M 714 k = I 550 k := h.2.2.2.2.2.2.2.1 k h0.1 h0.2
theorem q_rel.opn (h : q_rel I lb M) {f r : Int} (h0 : 0 ≤ f ∧ f < I lb 1) (h1 : 0 ≤ r ∧ r < I (lb + 43) f) : M 713 (4 * f + r) = g_b (g_bit (I 550 (4 + f)) r) := (h.2.2.2.2.2.2.2.2.1 f h0.1 h0.2).2 r h1.1 h1.2
theorem q_rel.msk (h : q_rel I lb M) {f : Int} (h0 : 0 ≤ f ∧ f < I lb 1) : I 550 (4 + f) < g_shl 1 (I (lb + 43) f) := (h.2.2.2.2.2.2.2.2.1 f h0.1 h0.2).1
theorem q_rel.ta (h : q_rel I lb M) {t : Int} (h0 : 0 ≤ t ∧ t < I 0 11) : q_ta I M t := h.2.2.2.2.2.2.2.2.2.1 t h0.1 h0.2
theorem q_rel.clu (h : q_rel I lb M) : g_cok I ∧ M 703 38 = I 697 4 ∧ ∀ c : Int, 0 ≤ c → c < I 697 4 → M 721 c = I 698 c ∧ M 722 c = I 699 c ∧ M 723 c = I 700 c := h.2.2.2.2.2.2.2.2.2.2
theorem q_lok (h : q_rel I lb M) : g_lok I lb := h.cin.1
theorem q_b1 (h : q_rel I lb M) : I 0 12 = -1 ∨ (0 ≤ I 0 12 ∧ I 0 12 < I 0 10 ∧ I 0 12 ≤ 2) := by
  have h1 := h.tbl
  have h2 := h.lv
  unfold q_tb at h1
  omega
/-- a self told, a fork told: a LIFE is at the TABLE -/
theorem q_ts (h : q_rel I lb M) (h1 : 0 < I lb 0 ∨ 0 < I lb 1 ∨ ¬ I 0 12 = -1) : 0 ≤ I 0 12 ∧ I 0 12 < I 0 10 ∧ I 0 12 ≤ 2 ∧ lb = 4 + 128 * (I 0 12).toNat := by
  have h2 := h.lv
  rcases h.tbl with ⟨a, -, rfl, b, c⟩ | ⟨a, b, c⟩
  · omega
  · exact ⟨a, b, by omega, c⟩
theorem q_lfT (h : q_rel I lb M) (ht : 0 ≤ I 0 12) : q_lf I lb M (I 0 12) := by
  obtain ⟨a, b, -, c⟩ := q_ts h (Or.inr (Or.inr (by omega)))
  have := h.lf ⟨a, b⟩
  rwa [← c] at this
theorem q_lfS (h : q_rel I lb M) {s : Int} (h1 : 0 ≤ s ∧ s < I lb 0) : q_lf I lb M (I 0 12) := q_lfT h (q_ts h (Or.inl (by omega))).1
theorem q_lfF (h : q_rel I lb M) {f : Int} (h1 : 0 ≤ f ∧ f < I lb 1) : q_lf I lb M (I 0 12) := q_lfT h (q_ts h (Or.inr (Or.inl (by omega)))).1
/-- what the scratch of questions leaves -/
theorem q_lf_cg {b : Nat} {M' : g_I} {jj : Int} (hk : ∀ k : Nat, 708 ≤ k → k ≤ 712 → M' k = M k) (h : q_lf I b M jj) : q_lf I b M' jj := by
  unfold q_lf q_sl q_fk at h ⊢
  rw [hk 708 (by omega) (by omega), hk 709 (by omega) (by omega), hk 710 (by omega) (by omega), hk 711 (by omega) (by omega), hk 712 (by omega) (by omega)]
  exact h
theorem q_cg {M' : g_I} (hk : ∀ (k : Nat) (j : Int), ¬ x_a k j → M' k j = M k j) (hx : ∀ k j, g32 (M' k j)) (h : q_rel I lb M) : q_rel I lb M' := by
  have e : ∀ k : Nat, ¬ (k = 703 ∨ k = 707 ∨ k = 715 ∨ k = 716 ∨ k = 719 ∨ k = 720 ∨ k = 724) → M' k = M k := fun k hn => funext fun j => hk k j (by unfold x_a; omega)
  obtain ⟨h1, h2, h3, h4, h5, h6, h7, h8, h9, h10, h11⟩ := h
  refine ⟨hx, h2, h3, h4, h5, ?_, fun jj a b => q_lf_cg (fun k _ _ => e k (by omega)) (h7 jj a b), ?_, ?_, ?_, ?_⟩
  · rw [hk 703 24 (by decide), hk 703 23 (by decide), hk 703 7 (by decide)]; exact h6
  · rw [e 714 (by decide)]; exact h8
  · rw [e 713 (by decide)]; exact h9
  · intro t a b
    have := h10 t a b
    unfold q_ta q_by at this ⊢
    rw [e 705 (by decide), e 706 (by decide)]
    exact this
  · rw [hk 703 38 (by decide), e 721 (by decide), e 722 (by decide), e 723 (by decide)]; exact h11
theorem q_up {k : Nat} {i v : Int} (h : q_rel I lb M) (hs : x_a k i) (hv : g32 v) : q_rel I lb (g_up M k i v) := by
  refine q_cg (M := M) (fun a j hn => ?_) (g_up32 h.g hv) h
  refine g_up_n ?_
  by_cases e : a = k
  · subst e
    refine Or.inr (fun z => hn ?_)
    rw [z]; exact hs
  · exact Or.inl e
/-- numbers of rows -/
theorem q_s2 (h : q_rel I lb M) {s : Int} (h1 : 0 ≤ s ∧ s < I lb 0) : q_sl I lb M (I 0 12) s := (q_lfS h h1).2.2.2.2.1 s h1.1 h1.2
theorem q_f2 (h : q_rel I lb M) {f : Int} (h1 : 0 ≤ f ∧ f < I lb 1) : q_fk I lb M (I 0 12) f := (q_lfF h h1).2.2.2.2.2 f h1.1 h1.2
theorem q_lm (h : q_rel I lb M) (h1 : 0 ≤ I 0 12) : M 711 (I 0 12) = I lb 0 := (q_lfT h h1).2.2.1
theorem q_fm (h : q_rel I lb M) (h1 : 0 ≤ I 0 12) : M 712 (I 0 12) = I lb 1 := (q_lfT h h1).2.2.2.1
theorem q_yr (h : q_rel I lb M) {f : Int} (h1 : 0 ≤ f ∧ f < I lb 1) : M 709 ((I 0 12 * 18 + f) * 5) = I (lb + 41) f := (q_f2 h h1).1.1
theorem q_kd (h : q_rel I lb M) {f : Int} (h1 : 0 ≤ f ∧ f < I lb 1) : M 709 ((I 0 12 * 18 + f) * 5 + 1) = I (lb + 42) f := (q_f2 h h1).1.2.1
theorem q_bm (h : q_rel I lb M) {f : Int} (h1 : 0 ≤ f ∧ f < I lb 1) : M 709 ((I 0 12 * 18 + f) * 5 + 2) = I (lb + 43) f := (q_f2 h h1).1.2.2.1
theorem q_ah (h : q_rel I lb M) {f : Int} (h1 : 0 ≤ f ∧ f < I lb 1) : M 709 ((I 0 12 * 18 + f) * 5 + 3) = I (lb + 44) f := (q_f2 h h1).1.2.2.2
theorem q_bi (h : q_rel I lb M) {f r c : Int} (h1 : 0 ≤ f ∧ f < I lb 1) (h2 : 0 ≤ r ∧ r < I (lb + 43) f) (h3 : 0 ≤ c ∧ c < 5) : M 710 (((I 0 12 * 18 + f) * 4 + r) * 6 + c) = I (lb + 47 + (f * 4 + r).toNat) c := ((q_f2 h h1).2 r h2.1 h2.2).1 c h3.1 h3.2
theorem q_b0 (h : q_rel I lb M) {f r : Int} (h1 : 0 ≤ f ∧ f < I lb 1) (h2 : 0 ≤ r ∧ r < I (lb + 43) f) : M 710 (((I 0 12 * 18 + f) * 4 + r) * 6) = I (lb + 47 + (f * 4 + r).toNat) 0 := by
  have := q_bi h h1 h2 (c := 0) (by omega)
  rwa [Int.add_zero] at this
theorem q_tg (h : q_rel I lb M) {f r : Int} (h1 : 0 ≤ f ∧ f < I lb 1) (h2 : 0 ≤ r ∧ r < I (lb + 43) f) : M 710 (((I 0 12 * 18 + f) * 4 + r) * 6 + 5) = I (lb + 127) (f * 4 + r) := ((q_f2 h h1).2 r h2.1 h2.2).2
theorem q_l2 (h : q_rel I lb M) {s : Int} (h1 : 0 ≤ s ∧ s < I lb 0) : M 708 ((I 0 12 * 12 + s) * 7 + 2) = I (lb + 2 + s.toNat) 3 := (q_s2 h h1).1.1
theorem q_l3 (h : q_rel I lb M) {s : Int} (h1 : 0 ≤ s ∧ s < I lb 0) : M 708 ((I 0 12 * 12 + s) * 7 + 3) = I (lb + 2 + s.toNat) 4 := (q_s2 h h1).1.2.1
theorem q_l4 (h : q_rel I lb M) {s : Int} (h1 : 0 ≤ s ∧ s < I lb 0) : M 708 ((I 0 12 * 12 + s) * 7 + 4) = I (lb + 2 + s.toNat) 5 := (q_s2 h h1).1.2.2.1
end QREL
/-- a WAY lies in the reference's rows -/
def x_wy (I : g_I) (b : Nat) (s : Int) (M : g_I) : Prop := M 703 29 = I (b + 14) s ∧ ∀ i, 0 ≤ i → i < I (b + 14) s → M 715 i = I (b + 16 + s.toNat) i ∧ M 716 i = I (b + 29 + s.toNat) i
theorem x_wy_cg {I M M' : g_I} {b : Nat} {s : Int} (hk : ∀ (k : Nat) (j : Int), ¬ x_t k j → M' k j = M k j) (h : x_wy I b s M) : x_wy I b s M' := by
  refine ⟨by rw [hk 703 29 (by decide)]; exact h.1, fun i h0 h1 => ?_⟩
  rw [hk 715 i (by unfold x_t; omega), hk 716 i (by unfold x_t; omega)]
  exact h.2 i h0 h1
theorem x_ta {k : Nat} {j : Int} (h : x_t k j) : x_a k j := by unfold x_t at h; unfold x_a; omega
theorem x_wa {k : Nat} {j : Int} (h : x_w k j) : x_a k j := by unfold x_w at h; unfold x_a; omega
theorem x_na {k : Nat} {j : Int} (h : x_n k j) : x_a k j := by unfold x_n at h; unfold x_a; omega
theorem x_nt {k : Nat} {j : Int} (h : x_n k j) : x_t k j := by unfold x_n at h; unfold x_t; omega
section XROW
variable {w : g_W} {x : g_C} {P : g_P} {u v n : Nat} {I : g_I} {J : g_J} {R : g_R} {pc : Nat} {L : List (Option Value)} {st : List Value} {cc : ByteArray} {nL : Nat} {rt : Option FieldType} {own : String} {d : Nat}
theorem g_balde {k len : Nat} {i z : Int} (hc : g_OK w x cc nL rt own d) (hs : g_at n k (.inr (1, len))) (hn : len < 2 ^ 31) (h0 : 0 ≤ i) (h1 : i < (len : Int)) (hz : I k i = z) (hd : decode cc pc = .ok (.baload, 1)) (kk : G w x P u v n I J R (pc + 1) L (gvI z :: st)) : G w x P u v n I J R pc L (gvI i :: gvr w k :: st) := by
  subst hz
  exact g_bald hc hs hn h0 h1 hd kk
theorem g_zalde {k len : Nat} {i z : Int} (hc : g_OK w x cc nL rt own d) (hs : g_at n k (.inr (2, len))) (hn : len < 2 ^ 31) (h0 : 0 ≤ i) (h1 : i < (len : Int)) (hz : I k i = z) (hd : decode cc pc = .ok (.baload, 1)) (kk : G w x P u v n I J R (pc + 1) L (gvI z :: st)) : G w x P u v n I J R pc L (gvI i :: gvr w k :: st) := by
  subst hz
  exact g_zald hc hs hn h0 h1 hd kk
end XROW
theorem q_n0 {I M : g_I} {lb : Nat} (h : q_rel I lb M) (h1 : I 0 12 = -1) : I lb 0 = 0 ∧ I lb 1 = 0 := by
  rcases h.tbl with ⟨-, -, rfl, b, c⟩ | ⟨a, -, -⟩
  · exact ⟨b, c⟩
  · omega
/-- how many of the first n bits are set -/
def q_bn (m : Int) : Nat → Int := g_sum (fun r => if g_bit m r then 1 else 0)
theorem q_bn_bc0 : ∀ n : Fin 5, ∀ m : Fin 16, (m.val : Int) < g_shl 1 (n.val : Int) → q_bn (m.val : Int) n.val = g_bc (m.val : Int) := by decide +kernel
theorem q_bn_bc {m k : Int} (h1 : 0 ≤ m ∧ m ≤ 15) (h2 : 0 ≤ k ∧ k ≤ 4) (h3 : m < g_shl 1 k) : q_bn m k.toNat = g_bc m := by
  have h := q_bn_bc0 ⟨k.toNat, by omega⟩ ⟨m.toNat, by omega⟩
  dsimp only at h
  rw [show ((k.toNat : Nat) : Int) = k by omega, show ((m.toNat : Nat) : Int) = m by omega] at h
  exact h h3
theorem q_bn_i {m i : Int} (h : 0 ≤ i) : q_bn m (i + 1).toNat = q_bn m i.toNat + (if g_bit m i then 1 else 0) := g_sum_i h
theorem g_b_iff {p q : Prop} [Decidable p] [Decidable q] (h : p ↔ q) : g_b p = g_b q := by
  by_cases e : p
  · rw [g_b1 e, g_b1 (h.mp e)]
  · rw [g_b0 e, g_b0 (fun z => e (h.mpr z))]
