set_option maxHeartbeats 4000000 in
set_option maxRecDepth 100000 in
/-- X13_hasIn -/
theorem c_X13_hasIn (w : g_W) {I : g_I} {J : g_J} {R : g_R} {lb tx : Nat} (hR : g_rf w R lb tx) {M : g_I} (hmM : q_rel I lb M) {jj s xf y : Int} {b : Nat} (hb : b = 4 + 128 * jj.toNat) (hj : 0 ≤ jj ∧ jj < I 0 10) (h1 : 0 ≤ s ∧ s < I b 0) (hx : g32 xf) (hy2 : g32 y) : g_Met w g_n M J R yX13_hasIn cX13_hasIn 6 (some .boolean) 2 0 0 [(gvr w 703), (gvI jj), (gvI s), (gvI xf), (gvI y)] (x_rel w (some (gvI (g_b (g_hiy I b s xf y = true)))) x_w M J lb) := by
  refine g_intro (own := RX13) [some (gvr w 703), some (gvI jj), some (gvI s), some (gvI xf), some (gvI y), none] (by decide +kernel) rfl (by decide) (Nat.le_of_ble_eq_true rfl) rfl (fun i v hv => g_args 1 i v hv rfl) (fun x hc hm => ?_)
  have hfM : ∀ (k : Nat) (j : Int), ¬ x_w k j → M k j = M k j := fun _ _ _ => rfl
  have hI := hmM.gi
  have hTb := q_b1 hmM
  have hLv := hmM.lv
  have hC := hmM.cin
  have hL := hC.1
  obtain ⟨hn0, hn1, hLs, hLf⟩ := id hL
  obtain ⟨-, hC1, hC2, hC3, hC4, hC5, hC6, hC7⟩ := id hC
  have hqf : ∀ {X : g_I}, q_rel I lb X → q_lf I b X jj := fun h => by rw [hb]; exact h.lf hj
  obtain ⟨hbL, hbS, -, -, -, -⟩ := hqf hmM
  obtain ⟨hbn0, hbn1, hbLs, hbLf⟩ := id hbL
  obtain ⟨hst, hway, -⟩ := hbLs s h1.1 h1.2
  refine g_aldn hc dX13_hasIn_0 rfl ?_
  refine g_iload_n hc dX13_hasIn_1 rfl ?_
  refine g_iload_n hc dX13_hasIn_2 rfl ?_
  refine g_V2 hc (c_X13_layWay w hR hmM (hqf hmM) (by omega) (by omega)) my_X13_layWay mv_X13_layWay ca_703 rfl rfl lm_X13_310 rfl (by decide) (Nat.le_of_ble_eq_true rfl) hm dX13_hasIn_3 (fun r3 n3 I3 J3 R3 hp3 => ?_)
  obtain ⟨⟨rfl, rfl, hK3, hX3, rfl, t3, hR⟩, hwI3⟩ := hp3
  have hmI3 : q_rel I lb I3 := q_cg (fun k j hk => hK3 k j (fun z => hk (x_wa z))) hX3 hmM
  have hfI3 : ∀ (k : Nat) (j : Int), ¬ x_w k j → I3 k j = M k j := fun k j hk => (hK3 k j hk).trans (hfM k j hk)
  refine g_iconst hc dX13_hasIn_6 ?_
  refine g_istore_5 hc dX13_hasIn_7 rfl ?_
  have lp_9 : ∀ (fu : Nat) (i : Int), 0 ≤ i ∧ i ≤ I (b + 14) s → g_hiy I b s xf y = !(g_all (fun i => decide (¬ (I (b + 41) (I (b + 16 + s.toNat) i) = y ∧ I (b + 47 + (I (b + 16 + s.toNat) i * 4 + I (b + 29 + s.toNat) i).toNat) 4 = xf))) (I (b + 14) s - i).toNat i) → I (b + 14) s - i < (fu : Int) → G w x (x_rel w (some (gvI (g_b (g_hiy I b s xf y = true)))) x_w M J lb) 0 0 g_n I3 J R3 9 [some (gvr w 703), some (gvI jj), some (gvI s), some (gvI xf), some (gvI y), some (gvI i)] [] := by
    intro fu
    induction fu with
    | zero => intro i h3 h4 hfu; exfalso; omega
    | succ fu ih =>
      intro i h3 h4 hfu
      have ih_9 := ih
      refine g_iload hc dX13_hasIn_9 rfl ?_
      refine g_aldn hc dX13_hasIn_11 rfl ?_
      refine g_getIe hc lk_X13_307 ca_703 29 rfl (show I3 703 29 = I (b + 14) s from hwI3.1) dX13_hasIn_12 ?_
      refine g_icmp_ge (tgt := 78) hc dX13_hasIn_15 (by decide) (by first | exact hI _ _ | exact hxI2 _ _ | exact hIa _ _ | exact hIb _ _ | exact g_b32 | exact g_and32 | assumption | exact ⟨by omega, by omega⟩) (by first | exact hI _ _ | exact hxI2 _ _ | exact hIa _ _ | exact hIb _ _ | exact g_b32 | exact g_and32 | assumption | exact ⟨by omega, by omega⟩) (fun c1 => ?_) (fun c1 => ?_)
      · skip
        refine g_iconst hc dX13_hasIn_78 ?_
        refine g_zret hc hm (by first | exact g_b01 | omega) dX13_hasIn_79 ?_
        exact x_end (g_b0 (by rw [h4, g_all_e (n := I (b + 14) s) (by omega)]; decide)).symm hfI3 hmI3.g hR
      · skip
        obtain ⟨⟨hw1, hw2⟩, hw3, hw4⟩ := hway i h3.1 (by omega)
        have hfk := (hqf hmI3).2.2.2.2.2 _ hw1 hw2
        have hk9 := (hbLf _ hw1 hw2).1
        refine g_aldn hc dX13_hasIn_18 rfl ?_
        refine g_getRk hc lk_X13_40 ca_703 (rc_703_19 hR) dX13_hasIn_19 ?_
        refine g_aldn hc dX13_hasIn_22 rfl ?_
        refine g_iload_n hc dX13_hasIn_23 rfl ?_
        refine g_aldn hc dX13_hasIn_24 rfl ?_
        refine g_getRk hc lk_X13_63 ca_703 (rc_703_27 hR) dX13_hasIn_25 ?_
        refine g_iload hc dX13_hasIn_28 rfl ?_
        refine g_ialde hc ca_715 (by decide) (by omega) (by omega) (show I3 715 i = I (b + 16 + s.toNat) i from (hwI3.2 _ (by omega) (by omega)).1) dX13_hasIn_30 ?_
        refine g_V2r hc (c_X13_forkAt w) my_X13_forkAt mv_X13_forkAt ca_703 rfl rfl lm_X13_249 rfl (by decide) (Nat.le_of_ble_eq_true rfl) hm dX13_hasIn_31 ?_
        refine g_ialde hc ca_709 (by decide) (by omega) (by omega) (show I3 709 ((jj * 18 + (I (b + 16 + s.toNat) i)) * 5) = I (b + 41) (I (b + 16 + s.toNat) i) from hfk.1.1) dX13_hasIn_34 ?_
        refine g_iload hc dX13_hasIn_35 rfl ?_
        refine g_icmp_ne (tgt := 72) hc dX13_hasIn_37 (by decide) (hI _ _) hy2 (fun c2 => ?_) (fun c2 => ?_)
        · skip
          have hno : ¬ (I (b + 41) (I (b + 16 + s.toNat) i) = y ∧ I (b + 47 + (I (b + 16 + s.toNat) i * 4 + I (b + 29 + s.toNat) i).toNat) 4 = xf) := fun z => c2 z.1
          refine g_iinc_5 hc dX13_hasIn_72 rfl ?_
          refine g_goto (tgt := 9) hc dX13_hasIn_75 (by decide) ?_
          refine ih_9 _ ?_ ?_ ?_
          · omega
          · rw [h4, g_all_t (n := I (b + 14) s) (by omega) (by simp only [decide_eq_true_eq]; exact hno)]
          · omega
        · skip
          have hy1 := c2
          refine g_aldn hc dX13_hasIn_40 rfl ?_
          refine g_getRk hc lk_X13_43 ca_703 (rc_703_20 hR) dX13_hasIn_41 ?_
          refine g_aldn hc dX13_hasIn_44 rfl ?_
          refine g_iload_n hc dX13_hasIn_45 rfl ?_
          refine g_aldn hc dX13_hasIn_46 rfl ?_
          refine g_getRk hc lk_X13_63 ca_703 (rc_703_27 hR) dX13_hasIn_47 ?_
          refine g_iload hc dX13_hasIn_50 rfl ?_
          refine g_ialde hc ca_715 (by decide) (by omega) (by omega) (show I3 715 i = I (b + 16 + s.toNat) i from (hwI3.2 _ (by omega) (by omega)).1) dX13_hasIn_52 ?_
          refine g_aldn hc dX13_hasIn_53 rfl ?_
          refine g_getRk hc lk_X13_66 ca_703 (rc_703_28 hR) dX13_hasIn_54 ?_
          refine g_iload hc dX13_hasIn_57 rfl ?_
          refine g_ialde hc ca_716 (by decide) (by omega) (by omega) (show I3 716 i = I (b + 29 + s.toNat) i from (hwI3.2 _ (by omega) (by omega)).2) dX13_hasIn_59 ?_
          refine g_V3r hc (c_X13_branchAt w) my_X13_branchAt mv_X13_branchAt ca_703 rfl rfl lm_X13_262 rfl (by decide) (Nat.le_of_ble_eq_true rfl) hm dX13_hasIn_60 ?_
          refine g_iconst hc dX13_hasIn_63 ?_
          refine g_iadd hc dX13_hasIn_64 ?_
          refine g_ialde hc ca_710 (by decide) (by omega) (by omega) (show I3 710 ((((jj * 18 + (I (b + 16 + s.toNat) i)) * 4 + (I (b + 29 + s.toNat) i)) * 6) + 4) = I (b + 47 + (I (b + 16 + s.toNat) i * 4 + I (b + 29 + s.toNat) i).toNat) 4 from (hfk.2 _ hw3 hw4).1 4 (by decide) (by decide)) dX13_hasIn_65 ?_
          refine g_iload_n hc dX13_hasIn_66 rfl ?_
          refine g_icmp_ne (tgt := 72) hc dX13_hasIn_67 (by decide) (hI _ _) hx (fun c3 => ?_) (fun c3 => ?_)
          · skip
            have hno : ¬ (I (b + 41) (I (b + 16 + s.toNat) i) = y ∧ I (b + 47 + (I (b + 16 + s.toNat) i * 4 + I (b + 29 + s.toNat) i).toNat) 4 = xf) := fun z => c3 z.2
            refine g_iinc_5 hc dX13_hasIn_72 rfl ?_
            refine g_goto (tgt := 9) hc dX13_hasIn_75 (by decide) ?_
            refine ih_9 _ ?_ ?_ ?_
            · omega
            · rw [h4, g_all_t (n := I (b + 14) s) (by omega) (by simp only [decide_eq_true_eq]; exact hno)]
            · omega
          · skip
            have hx1 := c3
            refine g_iconst hc dX13_hasIn_70 ?_
            refine g_zret hc hm (by first | exact g_b01 | omega) dX13_hasIn_71 ?_
            exact x_end (g_b1 (by rw [h4, g_all_f (n := I (b + 14) s) (by omega) (by simp only [decide_eq_true_eq]; exact fun z => z ⟨hy1, hx1⟩)]; rfl)).symm hfI3 hmI3.g hR
  refine lp_9 7 _ ?_ ?_ (?_)
  · omega
  · rw [Int.sub_zero]; rfl
  · omega
theorem q_hiy {I : g_I} {b : Nat} {s x y : Int} : g_hiy I b s x y = true ↔ ∃ i, 0 ≤ i ∧ i < I (b + 14) s ∧ I (b + 41) (I (b + 16 + s.toNat) i) = y ∧ q_it I b s i 4 = x := by
  unfold g_hiy
  rw [Bool.not_eq_true', ← Bool.not_eq_true, g_all_iff]
  constructor
  · intro h
    refine Classical.byContradiction fun hn => h fun j h0 h1 => ?_
    rw [decide_eq_true_eq]
    exact fun e => hn ⟨j, h0, by omega, e.1, e.2⟩
  · rintro ⟨i, h0, h1, h2, h3⟩ h
    exact of_decide_eq_true (h i h0 (by omega)) ⟨h2, h3⟩
/-- whether x is had in some YEAR by both, of the first YEARS -/
noncomputable def q_cx (I : g_I) (b b2 : Nat) (s t x n : Int) : Bool := @decide (∃ y, 1 ≤ y ∧ y < n ∧ g_hiy I b s x y = true ∧ g_hiy I b2 t x y = true) (Classical.propDecidable _)
theorem q_cx_iff {I : g_I} {b b2 : Nat} {s t x n : Int} : q_cx I b b2 s t x n = true ↔ ∃ y, 1 ≤ y ∧ y < n ∧ g_hiy I b s x y = true ∧ g_hiy I b2 t x y = true := by unfold q_cx; exact @decide_eq_true_iff _ (Classical.propDecidable _)
theorem g_shl10 : ∀ m k : Fin 10, (g_bit (g_shl 1 m.val) k.val ↔ m = k) ∧ 0 ≤ g_shl 1 m.val ∧ g_shl 1 m.val < 1024 := by decide +kernel
theorem q_shl {m k : Int} (hm : 0 ≤ m ∧ m < 10) (hk : 0 ≤ k ∧ k < 10) : (g_bit (g_shl 1 m) k ↔ m = k) ∧ 0 ≤ g_shl 1 m ∧ g_shl 1 m < 1024 := by
  have h := g_shl10 ⟨m.toNat, by omega⟩ ⟨k.toNat, by omega⟩
  dsimp only at h
  rw [show ((m.toNat : Nat) : Int) = m by omega, show ((k.toNat : Nat) : Int) = k by omega] at h
  refine ⟨h.1.trans ⟨fun z => ?_, fun z => ?_⟩, h.2⟩
  · have := congrArg Fin.val z
    dsimp only at this
    omega
  · exact Fin.ext (by show m.toNat = k.toNat; omega)
theorem q_orsE {f : Int → Int} : ∀ n : Nat, (∀ i : Int, 0 ≤ i → i < n → 0 ≤ f i ∧ f i < 1024) → (0 ≤ g_ors f n ∧ g_ors f n < 1024) ∧ ∀ k : Int, 0 ≤ k → k < 10 → (g_bit (g_ors f n) k ↔ ∃ i : Int, 0 ≤ i ∧ i < n ∧ g_bit (f i) k)
  | 0, _ => ⟨⟨Int.le_refl _, by show (0 : Int) < 1024; decide⟩, fun k k0 k1 => ⟨fun z => absurd z (q_bit0 (by omega)), fun ⟨i, a, c, _⟩ => by omega⟩⟩
  | n + 1, h => by
    obtain ⟨a, c⟩ := q_orsE (f := f) n (fun i i0 i1 => h i i0 (by omega))
    have hn := h n (by omega) (by omega)
    have e : ((2 ^ 10 : Nat) : Int) = 1024 := by decide
    have hin := g_or_in (a := g_ors f n) (b := f n) (n := 10) (by decide) (by omega) (by omega)
    refine ⟨by rw [g_ors]; omega, fun k k0 k1 => ?_⟩
    rw [g_ors, g_or_bit (by omega) (by omega) (by omega), c k k0 k1]
    constructor
    · rintro (⟨i, i0, i1, i2⟩ | z)
      · exact ⟨i, i0, by omega, i2⟩
      · exact ⟨n, by omega, by omega, z⟩
    · rintro ⟨i, i0, i1, i2⟩
      by_cases y : i = n
      · rw [y] at i2; exact Or.inr i2
      · exact Or.inl ⟨i, i0, by omega, i2⟩
/-- the reference's way to CROSS is the class's -/
theorem q_crs {I : g_I} {b b2 : Nat} (hL : g_lok I b) {s t : Int} (h1 : 0 ≤ s ∧ s < I b 0) : g_ors (fun x => if q_cx I b b2 s t x 100 = true then g_shl 1 x else 0) 10 = g_crs I b b2 s t := by
  obtain ⟨hst, hway, -⟩ := hL.2.2.1 s h1.1 h1.2
  have it : ∀ i, 0 ≤ i → i < I (b + 14) s → (-1 ≤ q_it I b s i 4 ∧ q_it I b s i 4 ≤ 9) ∧ 1 ≤ I (b + 41) (I (b + 16 + s.toNat) i) ∧ I (b + 41) (I (b + 16 + s.toNat) i) ≤ 99 := by
    intro i i0 i1
    obtain ⟨⟨w1, w2⟩, w3, w4⟩ := hway i i0 i1
    obtain ⟨-, -, hy, hit⟩ := hL.2.2.2 _ w1 w2
    obtain ⟨-, -, -, -, h4, -⟩ := hit _ w3 w4
    exact ⟨h4, hy⟩
  have hx : ∀ i, 0 ≤ i → i < I (b + 14) s → g_crx I b b2 s t i = if ¬ q_it I b s i 4 = -1 ∧ g_hiy I b2 t (q_it I b s i 4) (I (b + 41) (I (b + 16 + s.toNat) i)) = true then g_shl 1 (q_it I b s i 4) else 0 := fun i _ _ => rfl
  obtain ⟨a1, a2⟩ := q_orsE (f := fun x => if q_cx I b b2 s t x 100 = true then g_shl 1 x else 0) 10 (fun i i0 i1 => by
    (try dsimp only)
    split
    · have := (q_shl (m := i) (k := 0) (by omega) (by decide)).2; omega
    · omega)
  obtain ⟨c1, c2⟩ := q_orsE (f := g_crx I b b2 s t) (I (b + 14) s).toNat (fun i i0 i1 => by
    rw [hx i i0 (by omega)]
    have := it i i0 (by omega)
    split
    · rename_i z
      have := (q_shl (m := q_it I b s i 4) (k := 0) (by omega) (by decide)).2; omega
    · omega)
  have e : ((2 ^ 10 : Nat) : Int) = 1024 := by decide
  refine g_ext (n := 10) (by decide) (by omega) (by unfold g_crs; omega) (fun k k0 k1 => ?_)
  rw [a2 k k0 (by omega)]
  unfold g_crs
  rw [c2 k k0 (by omega)]
  constructor
  · rintro ⟨x, x0, x1, x2⟩
    (try dsimp only at x2)
    by_cases hc : q_cx I b b2 s t x 100 = true
    · rw [if_pos hc] at x2
      have ex := (q_shl (m := x) (k := k) (by omega) (by omega)).1.mp x2
      obtain ⟨y, y0, y1, y2, y3⟩ := q_cx_iff.mp hc
      obtain ⟨i, i0, i1, i2, i3⟩ := q_hiy.mp y2
      refine ⟨i, i0, by omega, ?_⟩
      rw [hx i i0 i1, if_pos ⟨by omega, by rw [i3, i2]; exact y3⟩, i3]
      exact x2
    · rw [if_neg hc] at x2
      exact absurd x2 (q_bit0 (by omega))
  · rintro ⟨i, i0, i1, i2⟩
    rw [hx i i0 (by omega)] at i2
    by_cases hc : ¬ q_it I b s i 4 = -1 ∧ g_hiy I b2 t (q_it I b s i 4) (I (b + 41) (I (b + 16 + s.toNat) i)) = true
    · rw [if_pos hc] at i2
      obtain ⟨t1, t2⟩ := it i i0 (by omega)
      refine ⟨q_it I b s i 4, by omega, by omega, ?_⟩
      (try dsimp only)
      rw [if_pos (q_cx_iff.mpr ⟨_, t2.1, by omega, q_hiy.mpr ⟨i, i0, by omega, rfl, rfl⟩, hc.2⟩)]
      exact i2
    · rw [if_neg hc] at i2
      exact absurd i2 (q_bit0 (by omega))
set_option maxHeartbeats 4000000 in
set_option maxRecDepth 100000 in
/-- X13_crossOf -/
theorem c_X13_crossOf (w : g_W) {I : g_I} {J : g_J} {R : g_R} {lb tx : Nat} (hR : g_rf w R lb tx) {M : g_I} (hmM : q_rel I lb M) {jj s kk t : Int} (hj : 0 ≤ jj ∧ jj < I 0 10) (hk : 0 ≤ kk ∧ kk < I 0 10) (h1 : 0 ≤ s ∧ s < I (4 + 128 * jj.toNat) 0) (h2 : 0 ≤ t ∧ t < I (4 + 128 * kk.toNat) 0) : g_Met w g_n M J R yX13_crossOf cX13_crossOf 8 (some .int) 3 0 0 [(gvr w 703), (gvI jj), (gvI s), (gvI kk), (gvI t)] (x_rel w (some (gvI (g_crs I (4 + 128 * jj.toNat) (4 + 128 * kk.toNat) s t))) x_w M J lb) := by
  refine g_intro (own := RX13) [some (gvr w 703), some (gvI jj), some (gvI s), some (gvI kk), some (gvI t), none, none, none] (by decide +kernel) rfl (by decide) (Nat.le_of_ble_eq_true rfl) rfl (fun i v hv => g_args 3 i v hv rfl) (fun x hc hm => ?_)
  have hfM : ∀ (k : Nat) (j : Int), ¬ x_w k j → M k j = M k j := fun _ _ _ => rfl
  have hI := hmM.gi
  have hTb := q_b1 hmM
  have hLv := hmM.lv
  have hC := hmM.cin
  have hL := hC.1
  obtain ⟨hn0, hn1, hLs, hLf⟩ := id hL
  obtain ⟨-, hC1, hC2, hC3, hC4, hC5, hC6, hC7⟩ := id hC
  have hq1 := (hmM.lf hj).1
  refine g_iconst hc dX13_crossOf_0 ?_
  refine g_istore_5 hc dX13_crossOf_1 rfl ?_
  refine g_iconst hc dX13_crossOf_3 ?_
  refine g_istore_6 hc dX13_crossOf_4 rfl ?_
  have lp_6 : ∀ (fu : Nat) (a xx : Int) (Mm : g_I) (Rm : g_R), 0 ≤ xx ∧ xx ≤ 10 → a = g_ors (fun x => if q_cx I (4 + 128 * jj.toNat) (4 + 128 * kk.toNat) s t x 100 = true then g_shl 1 x else 0) xx.toNat → (∃ tm, g_rf w Rm lb tm) → q_rel I lb Mm → (∀ (k : Nat) (j : Int), ¬ x_w k j → Mm k j = M k j) → 10 - xx < (fu : Int) → G w x (x_rel w (some (gvI (g_crs I (4 + 128 * jj.toNat) (4 + 128 * kk.toNat) s t))) x_w M J lb) 0 0 g_n Mm J Rm 6 [some (gvr w 703), some (gvI jj), some (gvI s), some (gvI kk), some (gvI t), some (gvI a), some (gvI xx), none] [] := by
    intro fu
    induction fu with
    | zero => intro a xx Mm Rm h3 h4 hR hmMm hfMm hfu; exfalso; omega
    | succ fu ih =>
      intro a xx Mm Rm h3 h4 hR hmMm hfMm hfu
      obtain ⟨tm, hR⟩ := hR
      have ih_6 := ih
      refine g_iload hc dX13_crossOf_6 rfl ?_
      refine g_bipush hc dX13_crossOf_8 (by decide +kernel) ?_
      refine g_icmp_ge (tgt := 71) hc dX13_crossOf_10 (by decide) (by first | exact hI _ _ | exact hxI2 _ _ | exact hIa _ _ | exact hIb _ _ | exact g_b32 | exact g_and32 | assumption | exact ⟨by omega, by omega⟩) (by first | exact hI _ _ | exact hxI2 _ _ | exact hIa _ _ | exact hIb _ _ | exact g_b32 | exact g_and32 | assumption | exact ⟨by omega, by omega⟩) (fun c1 => ?_) (fun c1 => ?_)
      · skip
        refine g_iload hc dX13_crossOf_71 rfl ?_
        refine g_iret hc hm dX13_crossOf_73 ?_
        exact x_end (by rw [h4, show xx = 10 by omega]; exact q_crs hq1 h1) hfMm hmMm.g hR
      · skip
        refine g_iconst hc dX13_crossOf_13 ?_
        refine g_istore_7 hc dX13_crossOf_14 rfl ?_
        have lp_16 : ∀ (fu : Nat) (z y : Int) (Mm : g_I) (Rm : g_R), 1 ≤ y ∧ y ≤ 100 → z = (if q_cx I (4 + 128 * jj.toNat) (4 + 128 * kk.toNat) s t xx y = true then g_or a (g_shl 1 xx) else a) → (∃ tm, g_rf w Rm lb tm) → q_rel I lb Mm → (∀ (k : Nat) (j : Int), ¬ x_w k j → Mm k j = M k j) → 100 - y < (fu : Int) → G w x (x_rel w (some (gvI (g_crs I (4 + 128 * jj.toNat) (4 + 128 * kk.toNat) s t))) x_w M J lb) 0 0 g_n Mm J Rm 16 [some (gvr w 703), some (gvI jj), some (gvI s), some (gvI kk), some (gvI t), some (gvI z), some (gvI xx), some (gvI y)] [] := by
          intro fu
          induction fu with
          | zero => intro z y Mm Rm h5 h6 hR hmMm hfMm hfu; exfalso; omega
          | succ fu ih =>
            intro z y Mm Rm h5 h6 hR hmMm hfMm hfu
            obtain ⟨tm, hR⟩ := hR
            have ih_16 := ih
            refine g_iload hc dX13_crossOf_16 rfl ?_
            refine g_bipush hc dX13_crossOf_18 (by decide +kernel) ?_
            refine g_icmp_ge (tgt := 65) hc dX13_crossOf_20 (by decide) (by first | exact hI _ _ | exact hxI2 _ _ | exact hIa _ _ | exact hIb _ _ | exact g_b32 | exact g_and32 | assumption | exact ⟨by omega, by omega⟩) (by first | exact hI _ _ | exact hxI2 _ _ | exact hIa _ _ | exact hIb _ _ | exact g_b32 | exact g_and32 | assumption | exact ⟨by omega, by omega⟩) (fun c2 => ?_) (fun c2 => ?_)
            · skip
              refine g_iinc_6 hc dX13_crossOf_65 rfl ?_
              refine g_goto (tgt := 6) hc dX13_crossOf_68 (by decide) ?_
              refine G_sub (L' := [some (gvr w 703), some (gvI jj), some (gvI s), some (gvI kk), some (gvI t), some (gvI z), some (gvI (xx + 1)), none]) (show g_le _ _ from ⟨rfl, ⟨rfl, ⟨rfl, ⟨rfl, ⟨rfl, ⟨rfl, ⟨rfl, trivial⟩⟩⟩⟩⟩⟩⟩) ?_
              refine ih_6 _ _ _ _ ?_ ?_ ?_ ?_ ?_ ?_
              · omega
              · rw [g_ors_i h3.1, ← h4, h6, show y = 100 by omega]; by_cases hz : q_cx I (4 + 128 * jj.toNat) (4 + 128 * kk.toNat) s t xx 100 = true <;> first | (rw [if_pos hz, if_pos hz]; done) | (rw [if_neg hz, if_neg hz, g_or_0 (by rw [h4]; exact g_ors32)])
              · exact ⟨_, hR⟩
              · exact hmMm
              · exact hfMm
              · omega
            · skip
              refine g_aldn hc dX13_crossOf_23 rfl ?_
              refine g_iload_n hc dX13_crossOf_24 rfl ?_
              refine g_iload_n hc dX13_crossOf_25 rfl ?_
              refine g_iload hc dX13_crossOf_26 rfl ?_
              refine g_iload hc dX13_crossOf_28 rfl ?_
              refine g_V4 hc (c_X13_hasIn w hR hmMm (b := 4 + 128 * (jj).toNat) rfl (by omega) (by omega) (by first | exact hI _ _ | exact hmM.g _ _ | exact g_b32 | exact g_and32 | exact g_or32 | exact g_shl32 | assumption | exact ⟨by omega, by omega⟩) (by first | exact hI _ _ | exact hmM.g _ _ | exact g_b32 | exact g_and32 | exact g_or32 | exact g_shl32 | assumption | exact ⟨by omega, by omega⟩)) my_X13_hasIn mv_X13_hasIn ca_703 rfl rfl lm_X13_443 rfl (by decide) (Nat.le_of_ble_eq_true rfl) hm dX13_crossOf_30 (fun r3 n3 I3 J3 R3 hp3 => ?_)
              obtain ⟨rfl, rfl, hK3, hX3, rfl, t3, hR⟩ := hp3
              have hmI3 : q_rel I lb I3 := q_cg (fun k j hk => hK3 k j (fun z => hk (x_wa z))) hX3 hmMm
              have hfI3 : ∀ (k : Nat) (j : Int), ¬ x_w k j → I3 k j = M k j := fun k j hk => (hK3 k j hk).trans (hfMm k j hk)
              refine g_ifb_eq (tgt := 59) hc dX13_crossOf_33 (by decide)  (fun c3 => ?_) (fun c3 => ?_)
              · skip
                have hno : ¬ (g_hiy I (4 + 128 * jj.toNat) s xx y = true ∧ g_hiy I (4 + 128 * kk.toNat) t xx y = true) := fun w => c3 w.1
                refine g_iinc_7 hc dX13_crossOf_59 rfl ?_
                refine g_goto (tgt := 16) hc dX13_crossOf_62 (by decide) ?_
                refine ih_16 _ _ _ _ ?_ ?_ ?_ ?_ ?_ ?_
                · omega
                · rw [h6]
                  by_cases hz : q_cx I (4 + 128 * jj.toNat) (4 + 128 * kk.toNat) s t xx y = true
                  · have hz2 : q_cx I (4 + 128 * jj.toNat) (4 + 128 * kk.toNat) s t xx (y + 1) = true := by
                      obtain ⟨u, u0, u1, u2⟩ := q_cx_iff.mp hz
                      exact q_cx_iff.mpr ⟨u, u0, by omega, u2⟩
                    rw [if_pos hz, if_pos hz2]
                  · have hz2 : ¬ q_cx I (4 + 128 * jj.toNat) (4 + 128 * kk.toNat) s t xx (y + 1) = true := fun w => by
                      obtain ⟨u, u0, u1, u2, u3⟩ := q_cx_iff.mp w
                      by_cases e : u = y
                      · rw [e] at u2 u3; exact hno ⟨u2, u3⟩
                      · exact hz (q_cx_iff.mpr ⟨u, u0, by omega, u2, u3⟩)
                    rw [if_neg hz, if_neg hz2]
                · exact ⟨_, hR⟩
                · exact hmI3
                · exact hfI3
                · omega
              · skip
                have hh1 := c3
                refine g_aldn hc dX13_crossOf_36 rfl ?_
                refine g_iload_n hc dX13_crossOf_37 rfl ?_
                refine g_iload hc dX13_crossOf_38 rfl ?_
                refine g_iload hc dX13_crossOf_40 rfl ?_
                refine g_iload hc dX13_crossOf_42 rfl ?_
                refine g_V4 hc (c_X13_hasIn w hR hmI3 (b := 4 + 128 * (kk).toNat) rfl (by omega) (by omega) (by first | exact hI _ _ | exact hmM.g _ _ | exact g_b32 | exact g_and32 | exact g_or32 | exact g_shl32 | assumption | exact ⟨by omega, by omega⟩) (by first | exact hI _ _ | exact hmM.g _ _ | exact g_b32 | exact g_and32 | exact g_or32 | exact g_shl32 | assumption | exact ⟨by omega, by omega⟩)) my_X13_hasIn mv_X13_hasIn ca_703 rfl rfl lm_X13_443 rfl (by decide) (Nat.le_of_ble_eq_true rfl) hm dX13_crossOf_44 (fun r4 n4 I4 J4 R4 hp4 => ?_)
                obtain ⟨rfl, rfl, hK4, hX4, rfl, t4, hR⟩ := hp4
                have hmI4 : q_rel I lb I4 := q_cg (fun k j hk => hK4 k j (fun z => hk (x_wa z))) hX4 hmI3
                have hfI4 : ∀ (k : Nat) (j : Int), ¬ x_w k j → I4 k j = M k j := fun k j hk => (hK4 k j hk).trans (hfI3 k j hk)
                refine g_ifb_eq (tgt := 59) hc dX13_crossOf_47 (by decide)  (fun c4 => ?_) (fun c4 => ?_)
                · skip
                  have hno : ¬ (g_hiy I (4 + 128 * jj.toNat) s xx y = true ∧ g_hiy I (4 + 128 * kk.toNat) t xx y = true) := fun w => c4 w.2
                  refine g_iinc_7 hc dX13_crossOf_59 rfl ?_
                  refine g_goto (tgt := 16) hc dX13_crossOf_62 (by decide) ?_
                  refine ih_16 _ _ _ _ ?_ ?_ ?_ ?_ ?_ ?_
                  · omega
                  · rw [h6]
                    by_cases hz : q_cx I (4 + 128 * jj.toNat) (4 + 128 * kk.toNat) s t xx y = true
                    · have hz2 : q_cx I (4 + 128 * jj.toNat) (4 + 128 * kk.toNat) s t xx (y + 1) = true := by
                        obtain ⟨u, u0, u1, u2⟩ := q_cx_iff.mp hz
                        exact q_cx_iff.mpr ⟨u, u0, by omega, u2⟩
                      rw [if_pos hz, if_pos hz2]
                    · have hz2 : ¬ q_cx I (4 + 128 * jj.toNat) (4 + 128 * kk.toNat) s t xx (y + 1) = true := fun w => by
                        obtain ⟨u, u0, u1, u2, u3⟩ := q_cx_iff.mp w
                        by_cases e : u = y
                        · rw [e] at u2 u3; exact hno ⟨u2, u3⟩
                        · exact hz (q_cx_iff.mpr ⟨u, u0, by omega, u2, u3⟩)
                      rw [if_neg hz, if_neg hz2]
                  · exact ⟨_, hR⟩
                  · exact hmI4
                  · exact hfI4
                  · omega
                · skip
                  have hh2 := c4
                  refine g_iload hc dX13_crossOf_50 rfl ?_
                  refine g_iconst hc dX13_crossOf_52 ?_
                  refine g_iload hc dX13_crossOf_53 rfl ?_
                  refine g_ishl hc dX13_crossOf_55 ?_
                  refine g_ior hc dX13_crossOf_56 ?_
                  refine g_istore_5 hc dX13_crossOf_57 rfl ?_
                  refine g_iinc_7 hc dX13_crossOf_59 rfl ?_
                  refine g_goto (tgt := 16) hc dX13_crossOf_62 (by decide) ?_
                  refine ih_16 _ _ _ _ ?_ ?_ ?_ ?_ ?_ ?_
                  · omega
                  · rw [h6]
                    by_cases hz : q_cx I (4 + 128 * jj.toNat) (4 + 128 * kk.toNat) s t xx y = true
                    · have hz2 : q_cx I (4 + 128 * jj.toNat) (4 + 128 * kk.toNat) s t xx (y + 1) = true := by
                        obtain ⟨u, u0, u1, u2⟩ := q_cx_iff.mp hz
                        exact q_cx_iff.mpr ⟨u, u0, by omega, u2⟩
                      rw [if_pos hz, if_pos hz2]
                      rw [g_or_or]
                    · have hz2 : q_cx I (4 + 128 * jj.toNat) (4 + 128 * kk.toNat) s t xx (y + 1) = true := q_cx_iff.mpr ⟨y, by omega, by omega, hh1, hh2⟩
                      rw [if_neg hz, if_pos hz2]
                  · exact ⟨_, hR⟩
                  · exact hmI4
                  · exact hfI4
                  · omega
        refine lp_16 101 _ _ _ _ ?_ ?_ ?_ ?_ ?_ (?_)
        · omega
        · rw [if_neg (fun w => by obtain ⟨u, u0, u1, -⟩ := q_cx_iff.mp w; omega)]
        · exact ⟨_, hR⟩
        · exact hmMm
        · exact hfMm
        · omega
  refine lp_6 11 _ _ _ _ ?_ ?_ ?_ ?_ ?_ (?_)
  · omega
  · rfl
  · exact ⟨_, hR⟩
  · exact hmM
  · exact hfM
  · omega
set_option maxHeartbeats 4000000 in
set_option maxRecDepth 100000 in
/-- X13_isCode -/
theorem c_X13_isCode (w : g_W) {I : g_I} {J : g_J} {R : g_R} {lb tx : Nat} (hR : g_rf w R lb tx) {M : g_I} (hmM : q_rel I lb M) {u : Int} (h1 : g32 u) : g_Met w g_n M J R yX13_isCode cX13_isCode 2 (some .boolean) 0 0 0 [(gvr w 703), (gvI u)] (g_post (some (gvI (g_b (0 ≤ u ∧ u.tdiv 100 < I 0 10 ∧ u.tmod 100 < I (4 + 128 * (u.tdiv 100).toNat) 0)))) g_n M J R) := by
  refine g_intro (own := RX13) [some (gvr w 703), some (gvI u)] (by decide +kernel) rfl (by decide) (Nat.le_of_ble_eq_true rfl) rfl (fun i v hv => g_args 0 i v hv rfl) (fun x hc hm => ?_)
  have hfM : ∀ (k : Nat) (j : Int), ¬ x_a k j → M k j = M k j := fun _ _ _ => rfl
  have hI := hmM.gi
  have hTb := q_b1 hmM
  have hLv := hmM.lv
  have hC := hmM.cin
  have hL := hC.1
  obtain ⟨hn0, hn1, hLs, hLf⟩ := id hL
  obtain ⟨-, hC1, hC2, hC3, hC4, hC5, hC6, hC7⟩ := id hC
  refine g_iload_n hc dX13_isCode_0 rfl ?_
  refine g_if_lt (tgt := 35) hc dX13_isCode_1 (by decide) (by first | exact hI _ _ | exact hxI2 _ _ | exact hIa _ _ | exact hIb _ _ | exact g_b32 | exact g_and32 | assumption | exact ⟨by omega, by omega⟩) (fun c1 => ?_) (fun c1 => ?_)
  · skip
    refine g_iconst hc dX13_isCode_35 ?_
    refine g_zret hc hm (by first | exact g_b01 | omega) dX13_isCode_36 ?_
    first | (exfalso; omega) | (exfalso; omega) | exact ⟨by rw [g_b1 (by first | (exfalso; omega) | assumption | omega)], rfl, rfl, rfl, rfl⟩ | exact ⟨by rw [g_b0 (by first | (exfalso; omega) | assumption | omega)], rfl, rfl, rfl, rfl⟩
  · skip
    have hd0 : 0 ≤ u.tdiv 100 := Int.tdiv_nonneg (by omega) (by decide)
    have hd1 : (u.tdiv 100).natAbs ≤ u.natAbs := by rw [Int.natAbs_tdiv]; exact Nat.div_le_self _ _
    have hm0 : 0 ≤ u.tmod 100 := Int.tmod_nonneg _ (by omega)
    have hm1 : u.tmod 100 < 100 := Int.tmod_lt_of_pos _ (by decide)
    obtain ⟨u1, u2⟩ := id h1
    refine g_iload_n hc dX13_isCode_4 rfl ?_
    refine g_bipush hc dX13_isCode_5 (by decide +kernel) ?_
    refine g_idiv hc dX13_isCode_7 h1 (by exact ⟨by decide, by decide⟩) (by decide) ?_
    refine g_aldn hc dX13_isCode_8 rfl ?_
    refine g_getIe hc lk_X13_281 ca_703 23 rfl (show M 703 23 = I 0 10 from hmM.liv) dX13_isCode_9 ?_
    refine g_icmp_ge (tgt := 35) hc dX13_isCode_12 (by decide) (by first | exact hI _ _ | exact hxI2 _ _ | exact hIa _ _ | exact hIb _ _ | exact g_b32 | exact g_and32 | assumption | exact ⟨by omega, by omega⟩) (by first | exact hI _ _ | exact hxI2 _ _ | exact hIa _ _ | exact hIb _ _ | exact g_b32 | exact g_and32 | assumption | exact ⟨by omega, by omega⟩) (fun c2 => ?_) (fun c2 => ?_)
    · skip
      refine g_iconst hc dX13_isCode_35 ?_
      refine g_zret hc hm (by first | exact g_b01 | omega) dX13_isCode_36 ?_
      first | (exfalso; omega) | (exfalso; omega) | exact ⟨by rw [g_b1 (by first | (exfalso; omega) | assumption | omega)], rfl, rfl, rfl, rfl⟩ | exact ⟨by rw [g_b0 (by first | (exfalso; omega) | assumption | omega)], rfl, rfl, rfl, rfl⟩
    · skip
      have hlf := hmM.lf (jj := u.tdiv 100) ⟨hd0, by omega⟩
      refine g_iload_n hc dX13_isCode_15 rfl ?_
      refine g_bipush hc dX13_isCode_16 (by decide +kernel) ?_
      refine g_irem hc dX13_isCode_18 h1 (by exact ⟨by decide, by decide⟩) (by decide) ?_
      refine g_aldn hc dX13_isCode_19 rfl ?_
      refine g_getRk hc lk_X13_46 ca_703 (rc_703_21 hR) dX13_isCode_20 ?_
      refine g_iload_n hc dX13_isCode_23 rfl ?_
      refine g_bipush hc dX13_isCode_24 (by decide +kernel) ?_
      refine g_idiv hc dX13_isCode_26 h1 (by exact ⟨by decide, by decide⟩) (by decide) ?_
      refine g_ialde hc ca_711 (by decide) (by omega) (by omega) (show M 711 (u.tdiv 100) = I (4 + 128 * (u.tdiv 100).toNat) 0 from hlf.2.2.1) dX13_isCode_27 ?_
      refine g_icmp_ge (tgt := 35) hc dX13_isCode_28 (by decide) (by first | exact hI _ _ | exact hxI2 _ _ | exact hIa _ _ | exact hIb _ _ | exact g_b32 | exact g_and32 | assumption | exact ⟨by omega, by omega⟩) (by first | exact hI _ _ | exact hxI2 _ _ | exact hIa _ _ | exact hIb _ _ | exact g_b32 | exact g_and32 | assumption | exact ⟨by omega, by omega⟩) (fun c3 => ?_) (fun c3 => ?_)
      · skip
        refine g_iconst hc dX13_isCode_35 ?_
        refine g_zret hc hm (by first | exact g_b01 | omega) dX13_isCode_36 ?_
        first | (exfalso; omega) | (exfalso; omega) | exact ⟨by rw [g_b1 (by first | (exfalso; omega) | assumption | omega)], rfl, rfl, rfl, rfl⟩ | exact ⟨by rw [g_b0 (by first | (exfalso; omega) | assumption | omega)], rfl, rfl, rfl, rfl⟩
      · skip
        refine g_iconst hc dX13_isCode_31 ?_
        refine g_goto (tgt := 36) hc dX13_isCode_32 (by decide) ?_
        refine g_zret hc hm (by first | exact g_b01 | omega) dX13_isCode_36 ?_
        first | (exfalso; omega) | (exfalso; omega) | exact ⟨by rw [g_b1 (by first | (exfalso; omega) | assumption | omega)], rfl, rfl, rfl, rfl⟩ | exact ⟨by rw [g_b0 (by first | (exfalso; omega) | assumption | omega)], rfl, rfl, rfl, rfl⟩
