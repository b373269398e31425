/-! ===== CLAUSES, whole TASTES ===== -/
theorem y_rec (w : g_W) : ∀ k : Nat, k ≤ 6 → (y_Csum w k ∧ y_Ccond w k) ∧ y_Cunit w k
  | 0, hk => by
    have a : y_Catom w 0 := fun hR he hs hq hl => y_atom0 w hR he hs hq hl
    have t : y_Cterm w 0 := fun hR he hs hq hl => y_term w hR he hk hs hq hl a
    have s : y_Csum w 0 := fun hR he hs hq hl => y_sum w hR he hk hs hq hl t
    have c : y_Ccmp w 0 := fun hR he hs hq hl hl0 H => y_compares w hR he hk hs hq hl hl0 H s
    have u : y_Cunit w 0 := fun hR he hs hq hl => y_unit0 w hR he c hs hq hl
    have p : y_Cpart w 0 := fun hR he hs hq hl hl0 H => y_part w hR he hk hs hq hl hl0 H u c
    exact ⟨⟨s, fun hR he hs hq hl hl0 H => y_condition w hR he hk hs hq hl hl0 H p⟩, u⟩
  | k + 1, hk => by
    obtain ⟨⟨s0, q0⟩, u0⟩ := y_rec w k (by omega)
    have a : y_Catom w (k + 1) := fun hR he hs hq hl => y_atomS w hR he (by omega) s0 hs hq hl
    have t : y_Cterm w (k + 1) := fun hR he hs hq hl => y_term w hR he hk hs hq hl a
    have s : y_Csum w (k + 1) := fun hR he hs hq hl => y_sum w hR he hk hs hq hl t
    have c : y_Ccmp w (k + 1) := fun hR he hs hq hl hl0 H => y_compares w hR he hk hs hq hl hl0 H s
    have u : y_Cunit w (k + 1) := fun hR he hs hq hl => y_unitS w hR he (by omega) u0 q0 c hs hq hl
    have p : y_Cpart w (k + 1) := fun hR he hs hq hl hl0 H => y_part w hR he hk hs hq hl hl0 H u c
    exact ⟨⟨s, fun hR he hs hq hl hl0 H => y_condition w hR he hk hs hq hl hl0 H p⟩, u⟩
/-- memory with what was found -/
def y_F (M : g_I) (h f : Int) : g_I := g_up (g_up M 703 17 h) 703 14 f
section YF
variable {M : g_I} {h f z : Int}
theorem y_F_h : y_F M h f 703 17 = h := (g_up_i (by decide)).trans g_up_s
theorem y_F_f : y_F M h f 703 14 = f := g_up_s
theorem y_F_k {k : Nat} (e : ¬ k = 703) : y_F M h f k = M k := funext fun j => (g_up_k e).trans (g_up_k e)
theorem y_F_j {j : Int} (e : ¬ j = 14 ∧ ¬ j = 17) : y_F M h f 703 j = M 703 j := (g_up_i e.1).trans (g_up_i e.2)
theorem y_F_pf : g_up (y_F M h f) 703 14 z = y_F M h z := y_dup
theorem y_F_ph : g_up (y_F M h f) 703 17 z = y_F M z f := by
  unfold y_F
  rw [y_cm (by decide), y_dup]
theorem y_F_0 : y_F M (M 703 17) (M 703 14) = M := by unfold y_F; rw [g_up_same, g_up_same]
theorem y_F_env {tx ln : Nat} {o n : Int} {Lf : Int → Int} (he : y_env M tx ln o n Lf) (hh : g32 h) (hf : g32 f) : y_env (y_F M h f) tx ln o n Lf := by
  obtain ⟨⟨h1, h2⟩, h3, h4, h5, h6, h7, h8, h9⟩ := he
  refine ⟨⟨by rw [y_F_j (by decide)]; exact h1, by rw [y_F_j (by decide)]; exact h2⟩, h3, h4, ?_, g_up32 (g_up32 h6 hh) hf, ?_, h8, h9⟩
  · rw [y_F_k h9]; exact h5
  · rw [y_F_k (by decide)]; exact h7
theorem y_F_by {tx : Nat} {o : Int} (e : ¬ tx = 703) : q_by (y_F M h f) tx o = q_by M tx o := by
  unfold q_by
  rw [y_F_k e]
end YF
/-- what a CLAUSE comes to before its end is put: v if its CONDITION holds -/
def y_cl (n : Int) (Lf : Int → Int) (d0 : Int) (s sF : g_S) (v b a q d : Int) : Prop :=
  g32 v ∧ (b = 0 ∨ b = 1) ∧ (0 ≤ a ∧ a ≤ n) ∧ (d0 ≤ d ∧ d ≤ 6) ∧ (-1 ≤ q ∧ q ≤ 240) ∧ sF.2.1 = q ∧ (¬ q = -1 → sF.1 = n) ∧ (q = -1 → a = sF.1 ∧ d = d0 ∧ ∃ c : List Int, sF.2.2 = s.2.2 ++ c ∧ s.1 + (c.length : Int) + 1 ≤ sF.1 ∧ ∀ rest : List Int, e_run Lf (c ++ [-59] ++ rest) [] false = if b = 0 then e_run Lf rest [] false else v)
/-- a CLAUSE's end -/
def y_cr (n : Int) (Lf : Int → Int) (d0 : Int) (s s' : g_S) (h f h' f' a q d : Int) : Prop :=
  g32 f' ∧ (h' = 0 ∨ h' = 1) ∧ (0 ≤ a ∧ a ≤ n) ∧ (d0 ≤ d ∧ d ≤ 6) ∧ (-1 ≤ q ∧ q ≤ 240) ∧ s'.2.1 = q ∧ (¬ q = -1 → s'.1 = n) ∧ (q = -1 → a = s'.1 ∧ d = d0 ∧ s.1 + 1 ≤ s'.1 ∧ ∃ c : List Int, s'.2.2 = s.2.2 ++ c ∧ s.1 + (c.length : Int) ≤ s'.1 ∧
    ((h = 1 ∧ h' = 1 ∧ f' = f) ∨ (h = 0 ∧ h' = 0 ∧ f' = f ∧ ∀ rest : List Int, e_run Lf (c ++ rest) [] false = e_run Lf rest [] false) ∨ (h = 0 ∧ h' = 1 ∧ ∀ rest : List Int, e_run Lf (c ++ rest) [] false = f')))
def y_pcl (w : g_W) (M : g_I) (J : g_J) (R : g_R) (n : Int) (Lf : Int → Int) (d0 : Int) (s s' : g_S) (h f : Int) : g_P := fun r n' I' J' R' => r = none ∧ n' = g_n ∧ J = J' ∧ R = R' ∧ ∃ h' f' a q d : Int, I' = y_M (y_F M h' f') a q d ∧ y_cr n Lf d0 s s' h f h' f' a q d
section YCL
variable {B : Int → Int} {n : Int} {Lf : Int → Int} {d0 : Int} {h1 h2 : Nat} {s s1 s2 s3 s4 s6 s7 : g_S} {v v1 b a q d a1 d1 h f : Int}
theorem y_cl.of (hy : y_res n Lf d0 h1 s3 s1 v a q d) (hh : h1 ≤ 64) (e2 : s3.2.2 = s.2.2) (e1 : s.1 + 1 ≤ s3.1) : y_cl n Lf d0 s s1 v 1 a q d := by
  obtain ⟨k1, k2, k3, k4, k5, k6, k7⟩ := hy
  refine ⟨k1, Or.inr rfl, k2, k3, k4, k5, k6, fun z => ?_⟩
  obtain ⟨f1, f2, c, f3, f4, f5, f6⟩ := k7 z
  exact ⟨f1, f2, c, by rw [f3, e2], by omega, fun rest => by rw [if_neg (by decide)]; exact e_cl1 f5 hh rest⟩
theorem y_cl.of2 (hc : y_res n Lf d0 h1 s3 s4 v1 a1 (-1) d1) (hb : v1 = 0 ∨ v1 = 1) (hh1 : h1 ≤ 64) (e2 : s3.2.2 = s.2.2) (e1 : s.1 + 1 ≤ s3.1) (h6 : s6.2.2 = s4.2.2 ++ [-63]) (h61 : s4.1 + 1 ≤ s6.1)
    (hy : y_res n Lf d0 h2 s6 s7 v a q d) (hh2 : h2 ≤ 64) : y_cl n Lf d0 s s7 v v1 a q d := by
  obtain ⟨k1, k2, k3, k4, k5, k6, k7⟩ := hy
  obtain ⟨-, -, c1, g3, g4, g5, g6⟩ := hc.2.2.2.2.2.2 rfl
  refine ⟨k1, hb, k2, k3, k4, k5, k6, fun z => ?_⟩
  obtain ⟨f1, f2, c, f3, f4, f5, f6⟩ := k7 z
  refine ⟨f1, f2, c1 ++ [-63] ++ c, by rw [f3, h6, g3, e2]; simp only [List.append_assoc], ?_, fun rest => e_cl2 g5 f5 hh1 hh2 f6 rest⟩
  rw [List.length_append, List.length_append, List.length_singleton]
  omega
theorem y_cl.bad {z : g_S} {G : g_S → g_S} (hb : t_bd n z) (hG : t_pb n G) (hq : z.2.1 = q) (hv : g32 v) (hbb : b = 0 ∨ b = 1) (ha : 0 ≤ a ∧ a ≤ n) (hd : d0 ≤ d ∧ d ≤ 6) (hq2 : -1 ≤ q ∧ q ≤ 240) : y_cl n Lf d0 s (G z) v b a q d :=
  ⟨hv, hbb, ha, hd, hq2, (hG z hb).2.trans hq, fun _ => (hG z hb).1, fun y => absurd (hq.trans y) hb.2⟩
/-- its end is put -/
theorem y_cl.put (hy : y_cl n Lf d0 s s1 v b a q d) (hl : (s.2.2.length : Int) ≤ s.1) (hn : n ≤ 240) (hf : g32 f) (hh : h = 0 ∨ h = 1) : y_cr n Lf d0 s (t_put (-59) s1) h f (if q = -1 ∧ h = 0 ∧ ¬ b = 0 then 1 else h) (if q = -1 ∧ h = 0 ∧ ¬ b = 0 then v else f) a q d := by
  obtain ⟨k1, kb, k2, k3, k4, k5, k6, k7⟩ := hy
  refine ⟨by split; exact k1; exact hf, by split; exact Or.inr rfl; exact hh, k2, k3, k4, k5, k6, fun z => ?_⟩
  obtain ⟨f1, f2, c, f3, f4, f5⟩ := k7 z
  have hlen : s1.2.2.length < 256 := by
    rw [f3, List.length_append]
    omega
  refine ⟨f1, f2, by show s.1 + 1 ≤ s1.1; omega, c ++ [-59], ?_, ?_, ?_⟩
  · show (if s1.2.2.length < 256 then s1.2.2 ++ [-59] else s1.2.2) = _
    rw [if_pos hlen, f3, List.append_assoc]
  · show s.1 + _ ≤ s1.1
    rw [List.length_append, List.length_singleton]
    omega
  · rcases hh with h0 | h0
    · by_cases b0 : b = 0
      · refine Or.inr (Or.inl ⟨h0, by rw [if_neg (by omega)]; exact h0, by rw [if_neg (by omega)], fun rest => ?_⟩)
        rw [f5 rest, if_pos b0]
      · refine Or.inr (Or.inr ⟨h0, by rw [if_pos (by omega)], fun rest => ?_⟩)
        rw [f5 rest, if_neg b0, if_pos (by omega)]
    · exact Or.inl ⟨h0, by rw [if_neg (by omega)]; exact h0, by rw [if_neg (by omega)]⟩
/-- a fault within -/
theorem y_cr.bad {z : g_S} {G : g_S → g_S} {h' f' : Int} (hb : t_bd n z) (hG : t_pb n G) (hq : z.2.1 = q) (hf : g32 f') (hbb : h' = 0 ∨ h' = 1) (ha : 0 ≤ a ∧ a ≤ n) (hd : d0 ≤ d ∧ d ≤ 6) (hq2 : -1 ≤ q ∧ q ≤ 240) : y_cr n Lf d0 s (G z) h f h' f' a q d :=
  ⟨hf, hbb, ha, hd, hq2, (hG z hb).2.trans hq, fun _ => (hG z hb).1, fun y => absurd (hq.trans y) hb.2⟩
theorem y_cend {w : g_W} {M : g_I} {J : g_J} {R : g_R} {s' : g_S} {h' f' : Int} (hy : y_cr n Lf d0 s s' h f h' f' a q d) : y_pcl w M J R n Lf d0 s s' h f none g_n (y_M (y_F M h' f') a q d) J R := ⟨rfl, rfl, rfl, rfl, h', f', a, q, d, rfl, hy⟩
/-- what is behind y and : -/
def t_cl8 (B : Int → Int) (n : Int) (z : g_S) : g_S :=
  if t_sg B n z = 33 ∨ t_sg B n z = 40 then t_cl2 B n 0 (t_sk B n z)
    else if t_cp (t_sg B n (t_suk B n 6 (t_sk B n z))) then t_cl2 B n 1 (t_sk B n (t_suk B n 6 (t_sk B n z)))
    else t_sk B n (t_suk B n 6 (t_sk B n z))
theorem t_cls8 {B : Int → Int} : t_cls B n s = t_put (-59) (t_cl8 B n (t_wn B n 58 (t_wn B n 121 s))) := rfl
theorem pb_cl8 : t_pb n (t_cl8 B n) := fun s h1 => by
  have g2 : t_pb n (fun s => t_suk B n 6 (t_sk B n s)) := pb_comp (F := t_sk B n) (G := t_suk B n 6) pb_sk (pb_suk 6)
  have h2 := g2.bd h1
  have e2 := (g2 _ h1).2
  dsimp only at h2 e2
  unfold t_cl8
  rw [t_sgb h1, if_neg (by decide), t_sgb h2, if_neg (by unfold t_cp; decide)]
  have h3 := pb_sk (B := B) _ h2
  exact ⟨h3.1, h3.2.trans e2⟩
theorem pb_cl7 : t_pb n (fun z => t_put (-59) (t_cl8 B n z)) := pb_comp (F := t_cl8 B n) (G := t_put (-59)) pb_cl8 pb_put
theorem pb_cl9 : t_pb n (fun z => t_put (-59) (t_cl8 B n (t_wn B n 58 z))) := pb_comp (F := t_wn B n 58) (G := fun z => t_put (-59) (t_cl8 B n z)) (pb_wn (by decide)) pb_cl7
theorem pb_c63 : t_pb n (fun z => t_put (-59) (t_suk B n 6 (t_put (-63) z))) := pb_comp (F := fun z => t_suk B n 6 (t_put (-63) z)) (G := t_put (-59)) (pb_comp (F := t_put (-63)) (G := t_suk B n 6) pb_put (pb_suk 6)) pb_put
theorem y_wn0 {c : Int} (h0 : s.2.1 = -1) (ha : s.1 ≤ n) (hc : ¬ g_sgn B n s.1 = c) : (t_wn B n c s).1 = n ∧ (t_wn B n c s).2.1 = g_pos B n s.1 := by
  unfold t_wn
  rw [if_neg hc, if_neg hc, h0, g_pos_pos ha]
  exact ⟨rfl, rfl⟩
theorem y_wn1 {c : Int} (hc : g_sgn B n s.1 = c) : t_wn B n c s = t_adv (t_sk B n s) := by
  unfold t_wn
  rw [if_pos hc, if_pos hc]
  rfl
end YCL
