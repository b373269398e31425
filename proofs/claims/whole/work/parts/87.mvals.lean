def C_val (w : g_W) (n : Nat) : Prop := ∀ {J : g_J} {R : g_R} {lb tx : Nat} {I M : g_I} {nd : Int}, g_rf w R lb tx → q_rel I lb M → ((0 ≤ nd ∧ nd < I lb 0) ∨ (100 ≤ nd ∧ nd < 100 + I lb 1 ∧ 100 + I lb 1 - nd ≤ n)) → g_Met w g_n M J R yX13_valueOf cX13_valueOf 10 (some .long) (36 + n) 0 0 [gvr w 703, gvI nd] (x_rel w (some (gvL (q_val I lb nd))) x_a M J lb)
theorem q_wt_bn {I : g_I} {b : Nat} {f m : Int} (hw : ∀ r, 0 ≤ r → r < I (b + 43) f → 1 ≤ I (b + 47 + (f * 4 + r).toNat) 0) : ∀ n : Nat, (n : Int) ≤ I (b + 43) f → q_bn m n ≤ g_wt I b f m n
  | 0, _ => Int.le_refl _
  | n + 1, h => by
    have i := q_wt_bn (m := m) hw n (by omega)
    have w1 := hw n (by omega) (by omega)
    show q_bn m n + (if g_bit m n then 1 else 0) ≤ g_wt I b f m n + (if g_and (g_shr m n) 1 = 1 then I (b + 47 + (f * 4 + n).toNat) 0 else 0)
    by_cases hb : g_bit m n
    · rw [if_pos hb, if_pos hb]; omega
    · rw [if_neg hb, if_neg hb]; omega
/-- some BRANCH is open: the open WEIGHTS together are no 0 -/
theorem q_wt1 {I M : g_I} {lb : Nat} (h : q_rel I lb M) {f : Int} (h1 : 0 ≤ f ∧ f < I lb 1) : 1 ≤ g_wt I lb f (I 550 (4 + f)) (I (lb + 43) f).toNat := by
  obtain ⟨⟨k1, k2⟩, -, -, hit⟩ := (q_lok h).2.2.2 f h1.1 h1.2
  have h7 := h.cin.2.2.2.2.2.2.2 f h1.1 h1.2
  have a := q_wt_bn (m := I 550 (4 + f)) (fun r r0 r1 => (hit r r0 r1).1.1) (I (lb + 43) f).toNat (by omega)
  have c := q_bn_bc (m := I 550 (4 + f)) (k := I (lb + 43) f) (by omega) (by omega) (h.msk h1)
  have d := q_bc1 h7
  omega
/-- what a VALUE is folded from, of the first i BRANCHES -/
def q_vs (I : g_I) (lb : Nat) (f i S hs : Int) : Prop :=
  (I (lb + 42) f = 1 → S = g_sum (fun r => if g_bit (I 550 (4 + f)) r then g_bhd I lb (g_w5 I lb) f r * I (lb + 47 + (f * 4 + r).toNat) 0 else 0) i.toNat) ∧
  (¬ I (lb + 42) f = 1 → (g_bsn I lb (g_w5 I lb) f i.toNat = -1 → hs = 0 ∧ S = 0) ∧ (¬ g_bsn I lb (g_w5 I lb) f i.toNat = -1 → hs = 1 ∧ S = g_bhd I lb (g_w5 I lb) f (g_bsn I lb (g_w5 I lb) f i.toNat))) ∧ (hs = 0 ∨ hs = 1) ∧ -(900270000 * i) ≤ S ∧ S ≤ 900270000 * i
section QVS
variable {I : g_I} {lb : Nat} {f i S hs v : Int}
theorem q_vs.skip (h : q_vs I lb f i S hs) (h0 : 0 ≤ i) (hno : ¬ g_bit (I 550 (4 + f)) i) : q_vs I lb f (i + 1) S hs := by
  obtain ⟨h4, h5, h6, h7, h8⟩ := h
  refine ⟨fun z => ?_, fun z => ?_, h6, by omega, by omega⟩
  · rw [g_sum_i h0, if_neg hno, Int.add_zero]; exact h4 z
  · rw [g_bsn_i h0, if_neg (fun y => hno y.1)]; exact h5 z
theorem q_vs.chance (h : q_vs I lb f i S hs) (h0 : 0 ≤ i) (hop : g_bit (I 550 (4 + f)) i) (hk : I (lb + 42) f = 1) (hv : g_bhd I lb (g_w5 I lb) f i = v) (hb : -100030000 ≤ v ∧ v ≤ 100030000) (hw : 1 ≤ I (lb + 47 + (f * 4 + i).toNat) 0 ∧ I (lb + 47 + (f * 4 + i).toNat) 0 ≤ 9) : q_vs I lb f (i + 1) (S + v * I (lb + 47 + (f * 4 + i).toNat) 0) 1 := by
  obtain ⟨h4, h5, h6, h7, h8⟩ := h
  have hm : (v * I (lb + 47 + (f * 4 + i).toNat) 0).natAbs ≤ 100030000 * 9 := by rw [Int.natAbs_mul]; exact Nat.mul_le_mul (by omega) (by omega)
  refine ⟨fun z => ?_, fun z => absurd hk z, Or.inr rfl, by omega, by omega⟩
  rw [g_sum_i h0, if_pos hop, ← h4 z, hv]
theorem q_vs.first (h : q_vs I lb f i S 0) (h0 : 0 ≤ i) (hop : g_bit (I 550 (4 + f)) i) (hk : ¬ I (lb + 42) f = 1) (hv : g_bhd I lb (g_w5 I lb) f i = v) (hb : -100030000 ≤ v ∧ v ≤ 100030000) : q_vs I lb f (i + 1) v 1 := by
  obtain ⟨h4, h5, h6, h7, h8⟩ := h
  refine ⟨fun z => absurd z hk, fun z => ?_, Or.inr rfl, by omega, by omega⟩
  have hn : g_bsn I lb (g_w5 I lb) f i.toNat = -1 := by
    by_cases y : g_bsn I lb (g_w5 I lb) f i.toNat = -1
    · exact y
    · have := ((h5 z).2 y).1; omega
  rw [g_bsn_i h0, if_pos ⟨hop, Or.inl hn⟩]
  exact ⟨fun y => by omega, fun _ => ⟨rfl, hv.symm⟩⟩
theorem q_vs.more (h : q_vs I lb f i S hs) (h0 : 0 ≤ i) (hop : g_bit (I 550 (4 + f)) i) (hk : ¬ I (lb + 42) f = 1) (hv : g_bhd I lb (g_w5 I lb) f i = v) (hb : -100030000 ≤ v ∧ v ≤ 100030000) (h1 : ¬ hs = 0) : q_vs I lb f (i + 1) (max S v) 1 := by
  obtain ⟨h4, h5, h6, h7, h8⟩ := h
  refine ⟨fun z => absurd z hk, fun z => ?_, Or.inr rfl, by omega, by omega⟩
  have hn : ¬ g_bsn I lb (g_w5 I lb) f i.toNat = -1 := fun y => h1 ((h5 z).1 y).1
  have hS := ((h5 z).2 hn).2
  rw [g_bsn_i h0]
  by_cases hl : S < v
  · rw [if_pos ⟨hop, Or.inr (by rw [← hS, hv]; exact hl)⟩]
    exact ⟨fun y => by omega, fun _ => ⟨rfl, by rw [hv]; omega⟩⟩
  · rw [if_neg (by rw [← hS, hv]; rintro ⟨-, y | y⟩; exact hn y; exact hl y)]
    exact ⟨fun y => absurd y hn, fun _ => ⟨rfl, by rw [← hS]; omega⟩⟩
end QVS
set_option maxHeartbeats 4000000 in
set_option maxRecDepth 100000 in
/-- X13_valueOf -/
theorem y_val0 (w : g_W) {I : g_I} {J : g_J} {R : g_R} {lb tx : Nat} (hR : g_rf w R lb tx) {M : g_I} (hmM : q_rel I lb M) {nd : Int} (h1 : (0 ≤ nd ∧ nd < I lb 0) ∨ (100 ≤ nd ∧ nd < 100 + I lb 1 ∧ 100 + I lb 1 - nd ≤ ((0 : Nat) : Int))) : g_Met w g_n M J R yX13_valueOf cX13_valueOf 10 (some .long) (36 + 0) 0 0 [(gvr w 703), (gvI nd)] (x_rel w (some (gvL (q_val I lb nd))) x_a M J lb) := by
  refine g_intro (own := RX13) [some (gvr w 703), some (gvI nd), none, none, none, none, none, none, none, none] (by decide +kernel) rfl (by decide) (Nat.le_of_ble_eq_true rfl) rfl (fun i v hv => g_args 8 i v hv rfl) (fun x hc hm => ?_)
  have hfM : ∀ (k : Nat) (j : Int), ¬ x_a k j → M k j = M k j := fun _ _ _ => rfl
  have hI := hmM.gi
  have hTb := q_b1 hmM
  have hLv := hmM.lv
  have hC := hmM.cin
  have hL := hC.1
  obtain ⟨hn0, hn1, hLs, hLf⟩ := id hL
  obtain ⟨-, hC1, hC2, hC3, hC4, hC5, hC6, hC7⟩ := id hC
  have hTs := q_ts hmM (by omega)
  refine g_iload_n hc dX13_valueOf_0 rfl ?_
  refine g_bipush hc dX13_valueOf_1 (by decide +kernel) ?_
  refine g_icmp_ge (tgt := 17) hc dX13_valueOf_3 (by decide) (by first | exact hI _ _ | exact hxI2 _ _ | exact hIa _ _ | exact hIb _ _ | exact g_b32 | exact g_and32 | assumption | exact ⟨by omega, by omega⟩) (by first | exact hI _ _ | exact hxI2 _ _ | exact hIa _ _ | exact hIb _ _ | exact g_b32 | exact g_and32 | assumption | exact ⟨by omega, by omega⟩) (fun c1 => ?_) (fun c1 => ?_)
  · exfalso; omega
  · skip
    refine g_ldc2 (k := 100) hc dX13_valueOf_6 _ lc_X13_377 (by decide +kernel) ?_
    refine g_aldn hc dX13_valueOf_9 rfl ?_
    refine g_iload_n hc dX13_valueOf_10 rfl ?_
    refine g_V1 hc (c_X13_worthOf w hR hmM (by omega)) my_X13_worthOf mv_X13_worthOf ca_703 rfl rfl lm_X13_373 rfl (by omega) (Nat.le_of_ble_eq_true rfl) hm dX13_valueOf_11 (fun r3 n3 I3 J3 R3 hp3 => ?_)
    obtain ⟨rfl, rfl, hK3, hX3, rfl, t3, hR⟩ := hp3
    have hmI3 : q_rel I lb I3 := q_cg hK3 hX3 hmM
    have hfI3 : ∀ (k : Nat) (j : Int), ¬ x_a k j → I3 k j = M k j := fun k j hk => (hK3 k j hk).trans (hfM k j hk)
    refine g_i2l hc dX13_valueOf_14 (by have := g_lkd_in hC (s := nd) (by omega); exact ⟨by omega, by omega⟩) ?_
    refine g_lmul hc dX13_valueOf_15 ?_
    refine g_lret hc hm dX13_valueOf_16 ?_
    exact x_endL (by rw [q_val, if_pos (by omega)]) hfI3 hmI3.g hR
set_option maxHeartbeats 4000000 in
set_option maxRecDepth 100000 in
/-- X13_valueOf -/
theorem y_valS (w : g_W) {I : g_I} {J : g_J} {R : g_R} {lb tx : Nat} (hR : g_rf w R lb tx) {M : g_I} (hmM : q_rel I lb M) {n : Nat} (hN : C_val w n) {nd : Int} (h1 : (0 ≤ nd ∧ nd < I lb 0) ∨ (100 ≤ nd ∧ nd < 100 + I lb 1 ∧ 100 + I lb 1 - nd ≤ ((n + 1 : Nat) : Int))) : g_Met w g_n M J R yX13_valueOf cX13_valueOf 10 (some .long) (36 + (n + 1)) 0 0 [(gvr w 703), (gvI nd)] (x_rel w (some (gvL (q_val I lb nd))) x_a M J lb) := by
  refine g_intro (own := RX13) [some (gvr w 703), some (gvI nd), none, none, none, none, none, none, none, none] (by decide +kernel) rfl (by decide) (Nat.le_of_ble_eq_true rfl) rfl (fun i v hv => g_args 8 i v hv rfl) (fun x hc hm => ?_)
  have hfM : ∀ (k : Nat) (j : Int), ¬ x_a k j → M k j = M k j := fun _ _ _ => rfl
  have hI := hmM.gi
  have hTb := q_b1 hmM
  have hLv := hmM.lv
  have hC := hmM.cin
  have hL := hC.1
  obtain ⟨hn0, hn1, hLs, hLf⟩ := id hL
  obtain ⟨-, hC1, hC2, hC3, hC4, hC5, hC6, hC7⟩ := id hC
  have hTs := q_ts hmM (by omega)
  refine g_iload_n hc dX13_valueOf_0 rfl ?_
  refine g_bipush hc dX13_valueOf_1 (by decide +kernel) ?_
  refine g_icmp_ge (tgt := 17) hc dX13_valueOf_3 (by decide) (by first | exact hI _ _ | exact hxI2 _ _ | exact hIa _ _ | exact hIb _ _ | exact g_b32 | exact g_and32 | assumption | exact ⟨by omega, by omega⟩) (by first | exact hI _ _ | exact hxI2 _ _ | exact hIa _ _ | exact hIb _ _ | exact g_b32 | exact g_and32 | assumption | exact ⟨by omega, by omega⟩) (fun c1 => ?_) (fun c1 => ?_)
  · skip
    have hf1 : 0 ≤ nd - 100 ∧ nd - 100 < I lb 1 := by omega
    obtain ⟨hk2, hk1, hy, hit⟩ := hLf _ hf1.1 hf1.2
    refine g_iload_n hc dX13_valueOf_17 rfl ?_
    refine g_bipush hc dX13_valueOf_18 (by decide +kernel) ?_
    refine g_isub hc dX13_valueOf_20 ?_
    refine g_istore_2 hc dX13_valueOf_21 rfl ?_
    refine g_aldn hc dX13_valueOf_22 rfl ?_
    refine g_getRk hc lk_X13_40 ca_703 (rc_703_19 hR) dX13_valueOf_23 ?_
    refine g_aldn hc dX13_valueOf_26 rfl ?_
    refine g_aldn hc dX13_valueOf_27 rfl ?_
    refine g_getIe hc lk_X13_52 ca_703 24 rfl (show M 703 24 = I 0 12 from hmM.tab) dX13_valueOf_28 ?_
    refine g_iload_n hc dX13_valueOf_31 rfl ?_
    refine g_V2r hc (c_X13_forkAt w) my_X13_forkAt mv_X13_forkAt ca_703 rfl rfl lm_X13_249 rfl (by omega) (Nat.le_of_ble_eq_true rfl) hm dX13_valueOf_32 ?_
    refine g_iconst hc dX13_valueOf_35 ?_
    refine g_iadd hc dX13_valueOf_36 ?_
    refine g_ialde hc ca_709 (by decide) (by omega) (by omega) (show M 709 ((((I 0 12) * 18 + (nd - 100)) * 5) + 1) = I (lb + 42) (nd - 100) from q_kd hmM (by omega)) dX13_valueOf_37 ?_
    refine g_iconst hc dX13_valueOf_38 ?_
    refine g_icmp_ne (tgt := 46) hc dX13_valueOf_39 (by decide) (by first | exact hI _ _ | exact hxI2 _ _ | exact hIa _ _ | exact hIb _ _ | exact g_b32 | exact g_and32 | assumption | exact ⟨by omega, by omega⟩) (by first | exact hI _ _ | exact hxI2 _ _ | exact hIa _ _ | exact hIb _ _ | exact g_b32 | exact g_and32 | assumption | exact ⟨by omega, by omega⟩) (fun c2 => ?_) (fun c2 => ?_)
    · skip
      have hkd := c2
      refine g_iconst hc dX13_valueOf_46 ?_
      refine g_istore_3 hc dX13_valueOf_47 rfl ?_
      refine g_lconst hc dX13_valueOf_48 0 (by decide +kernel) ?_
      refine g_lstore_4 hc dX13_valueOf_49 rfl ?_
      refine g_iconst hc dX13_valueOf_51 ?_
      refine g_istore_6 hc dX13_valueOf_52 rfl ?_
      refine g_iconst hc dX13_valueOf_54 ?_
      refine g_istore_7 hc dX13_valueOf_55 rfl ?_
      have lp_57 : ∀ (fu : Nat) (S hs i : Int) (Mm : g_I) (Rm : g_R), 0 ≤ i ∧ i ≤ I (lb + 43) (nd - 100) → q_vs I lb (nd - 100) i S hs → (∃ tm, g_rf w Rm lb tm) → q_rel I lb Mm → (∀ (k : Nat) (j : Int), ¬ x_a k j → Mm k j = M k j) → I (lb + 43) (nd - 100) - i < (fu : Int) → G w x (x_rel w (some (gvL (q_val I lb nd))) x_a M J lb) 0 0 g_n Mm J Rm 57 [some (gvr w 703), some (gvI nd), some (gvI (nd - 100)), some (gvI 0), some (gvL S), none, some (gvI hs), some (gvI i), none, none] [] := by
        intro fu
        induction fu with
        | zero => intro S hs i Mm Rm h3 hvs hR hmMm hfMm hfu; exfalso; omega
        | succ fu ih =>
          intro S hs i Mm Rm h3 hvs hR hmMm hfMm hfu
          obtain ⟨tm, hR⟩ := hR
          obtain ⟨-, -, hhs, hs1, hs2⟩ := id hvs
          have ih_57 := ih
          refine g_iload hc dX13_valueOf_57 rfl ?_
          refine g_aldn hc dX13_valueOf_59 rfl ?_
          refine g_getRk hc lk_X13_40 ca_703 (rc_703_19 hR) dX13_valueOf_60 ?_
          refine g_aldn hc dX13_valueOf_63 rfl ?_
          refine g_aldn hc dX13_valueOf_64 rfl ?_
          refine g_getIe hc lk_X13_52 ca_703 24 rfl (show Mm 703 24 = I 0 12 from hmMm.tab) dX13_valueOf_65 ?_
          refine g_iload_n hc dX13_valueOf_68 rfl ?_
          refine g_V2r hc (c_X13_forkAt w) my_X13_forkAt mv_X13_forkAt ca_703 rfl rfl lm_X13_249 rfl (by omega) (Nat.le_of_ble_eq_true rfl) hm dX13_valueOf_69 ?_
          refine g_iconst hc dX13_valueOf_72 ?_
          refine g_iadd hc dX13_valueOf_73 ?_
          refine g_ialde hc ca_709 (by decide) (by omega) (by omega) (show Mm 709 ((((I 0 12) * 18 + (nd - 100)) * 5) + 2) = I (lb + 43) (nd - 100) from q_bm hmMm (by omega)) dX13_valueOf_74 ?_
          refine g_icmp_ge (tgt := 179) hc dX13_valueOf_75 (by decide) (by first | exact hI _ _ | exact hxI2 _ _ | exact hIa _ _ | exact hIb _ _ | exact g_b32 | exact g_and32 | assumption | exact ⟨by omega, by omega⟩) (by first | exact hI _ _ | exact hxI2 _ _ | exact hIa _ _ | exact hIb _ _ | exact g_b32 | exact g_and32 | assumption | exact ⟨by omega, by omega⟩) (fun c3 => ?_) (fun c3 => ?_)
          · skip
            refine g_iload_n hc dX13_valueOf_179 rfl ?_
            refine g_if_eq (tgt := 195) hc dX13_valueOf_180 (by decide) (show g32 _ from ⟨by decide, by decide⟩) (fun c4 => ?_) (fun c4 => ?_)
            · skip
              refine g_lload hc dX13_valueOf_195 rfl ?_
              refine g_lret hc hm dX13_valueOf_197 ?_
              exact x_endL (by rw [q_val, if_neg (by omega), g_w5_eq hL hf1.1 hf1.2, g_st5, if_neg hkd]; unfold g_bst; by_cases y : g_bsn I lb (g_w5 I lb) (nd - 100) i.toNat = -1; (rw [show I (lb + 43) (nd - 100) = i by omega, y, ((hvs.2.1 hkd).1 y).2]; unfold g_bhd; rw [if_neg (by omega)]); (rw [show I (lb + 43) (nd - 100) = i by omega]; exact ((hvs.2.1 hkd).2 y).2)) hfMm hmMm.g hR
            · exfalso; omega
          · skip
            refine g_aldn hc dX13_valueOf_78 rfl ?_
            refine g_getRk hc lk_X13_56 ca_703 (rc_703_25 hR) dX13_valueOf_79 ?_
            refine g_iconst hc dX13_valueOf_82 ?_
            refine g_iload_n hc dX13_valueOf_83 rfl ?_
            refine g_imul hc dX13_valueOf_84 ?_
            refine g_iload hc dX13_valueOf_85 rfl ?_
            refine g_iadd hc dX13_valueOf_87 ?_
            refine g_zalde hc ca_713 (by decide) (by omega) (by omega) (show Mm 713 ((4 * (nd - 100)) + i) = g_b (g_bit (I 550 (4 + (nd - 100))) i) from hmMm.opn (by omega) (by omega)) dX13_valueOf_88 ?_
            refine g_ifb_ne (tgt := 95) hc dX13_valueOf_89 (by decide)  (fun c5 => ?_) (fun c5 => ?_)
            · skip
              have hop := c5
              obtain ⟨hb0, hb1, hb2, hb3, hb4, htg⟩ := hit i h3.1 (by omega)
              have hbv := q_bhd (I := I) (b := lb) (f := (nd - 100)) (r := i) (by omega) (by omega)
              have hvb := q_val_in hC (nd := I (lb + 127) ((nd - 100) * 4 + i)) (by omega)
              refine g_aldn hc dX13_valueOf_95 rfl ?_
              refine g_aldn hc dX13_valueOf_96 rfl ?_
              refine g_getRk hc lk_X13_43 ca_703 (rc_703_20 hR) dX13_valueOf_97 ?_
              refine g_aldn hc dX13_valueOf_100 rfl ?_
              refine g_aldn hc dX13_valueOf_101 rfl ?_
              refine g_getIe hc lk_X13_52 ca_703 24 rfl (show Mm 703 24 = I 0 12 from hmMm.tab) dX13_valueOf_102 ?_
              refine g_iload_n hc dX13_valueOf_105 rfl ?_
              refine g_iload hc dX13_valueOf_106 rfl ?_
              refine g_V3r hc (c_X13_branchAt w) my_X13_branchAt mv_X13_branchAt ca_703 rfl rfl lm_X13_262 rfl (by omega) (Nat.le_of_ble_eq_true rfl) hm dX13_valueOf_108 ?_
              refine g_iconst hc dX13_valueOf_111 ?_
              refine g_iadd hc dX13_valueOf_112 ?_
              refine g_ialde hc ca_710 (by decide) (by omega) (by omega) (show Mm 710 (((((I 0 12) * 18 + (nd - 100)) * 4 + i) * 6) + 5) = I (lb + 127) ((nd - 100) * 4 + i) from q_tg hmMm (by omega) (by omega)) dX13_valueOf_113 ?_
              refine g_V1 hc (hN hR hmMm (by omega)) my_X13_valueOf mv_X13_valueOf ca_703 rfl rfl lm_X13_379 rfl (by omega) (Nat.le_of_ble_eq_true rfl) hm dX13_valueOf_114 (fun r3 n3 I3 J3 R3 hp3 => ?_)
              obtain ⟨rfl, rfl, hK3, hX3, rfl, t3, hR⟩ := hp3
              have hmI3 : q_rel I lb I3 := q_cg hK3 hX3 hmMm
              have hfI3 : ∀ (k : Nat) (j : Int), ¬ x_a k j → I3 k j = M k j := fun k j hk => (hK3 k j hk).trans (hfMm k j hk)
              refine g_lstore_8 hc dX13_valueOf_117 rfl ?_
              refine g_iload_n hc dX13_valueOf_119 rfl ?_
              refine g_if_eq (tgt := 151) hc dX13_valueOf_120 (by decide) (show g32 _ from ⟨by decide, by decide⟩) (fun c6 => ?_) (fun c6 => ?_)
              · skip
                refine g_iload hc dX13_valueOf_151 rfl ?_
                refine g_if_eq (tgt := 166) hc dX13_valueOf_153 (by decide) (by first | exact hI _ _ | exact hxI2 _ _ | exact hIa _ _ | exact hIb _ _ | exact g_b32 | exact g_and32 | assumption | exact ⟨by omega, by omega⟩) (fun c7 => ?_) (fun c7 => ?_)
                · skip
                  refine g_lload hc dX13_valueOf_166 rfl ?_
                  refine g_lstore_4 hc dX13_valueOf_168 rfl ?_
                  refine g_iconst hc dX13_valueOf_170 ?_
                  refine g_istore_6 hc dX13_valueOf_171 rfl ?_
                  refine g_iinc_7 hc dX13_valueOf_173 rfl ?_
                  refine g_goto (tgt := 57) hc dX13_valueOf_176 (by decide) ?_
                  refine G_sub (L' := [some (gvr w 703), some (gvI nd), some (gvI (nd - 100)), some (gvI 0), some (gvL (q_val I lb ((I (lb + 127) ((nd - 100) * 4 + i))))), none, some (gvI 1), some (gvI (i + 1)), none, none]) (show g_le _ _ from ⟨rfl, ⟨rfl, ⟨rfl, ⟨rfl, ⟨rfl, ⟨rfl, ⟨rfl, trivial⟩⟩⟩⟩⟩⟩⟩) ?_
                  refine ih_57 _ _ _ _ _ ?_ ?_ ?_ ?_ ?_ ?_
                  · omega
                  · exact (show q_vs I lb (nd - 100) i S 0 from (show hs = 0 by omega) ▸ hvs).first h3.1 hop hkd hbv hvb
                  · exact ⟨_, hR⟩
                  · exact hmI3
                  · exact hfI3
                  · omega
                · skip
                  refine g_lload hc dX13_valueOf_156 rfl ?_
                  refine g_lload hc dX13_valueOf_158 rfl ?_
                  refine g_mmaxL hc (by exact ⟨by omega, by omega⟩) (by exact ⟨by omega, by omega⟩) rfl mm_mmaxL_X13_157 mm_sta_mmaxL mm_ini mm_cod_mmaxL (by omega) (Nat.le_of_ble_eq_true rfl) hm dX13_valueOf_160 ?_
                  refine g_goto (tgt := 168) hc dX13_valueOf_163 (by decide) ?_
                  refine g_lstore_4 hc dX13_valueOf_168 rfl ?_
                  refine g_iconst hc dX13_valueOf_170 ?_
                  refine g_istore_6 hc dX13_valueOf_171 rfl ?_
                  refine g_iinc_7 hc dX13_valueOf_173 rfl ?_
                  refine g_goto (tgt := 57) hc dX13_valueOf_176 (by decide) ?_
                  refine G_sub (L' := [some (gvr w 703), some (gvI nd), some (gvI (nd - 100)), some (gvI 0), some (gvL (max S (q_val I lb ((I (lb + 127) ((nd - 100) * 4 + i)))))), none, some (gvI 1), some (gvI (i + 1)), none, none]) (show g_le _ _ from ⟨rfl, ⟨rfl, ⟨rfl, ⟨rfl, ⟨rfl, ⟨rfl, ⟨rfl, trivial⟩⟩⟩⟩⟩⟩⟩) ?_
                  refine ih_57 _ _ _ _ _ ?_ ?_ ?_ ?_ ?_ ?_
                  · omega
                  · exact hvs.more h3.1 hop hkd hbv hvb (by omega)
                  · exact ⟨_, hR⟩
                  · exact hmI3
                  · exact hfI3
                  · omega
              · exfalso; omega
            · skip
              have hno := c5
              refine g_goto (tgt := 173) hc dX13_valueOf_92 (by decide) ?_
              refine g_iinc_7 hc dX13_valueOf_173 rfl ?_
              refine g_goto (tgt := 57) hc dX13_valueOf_176 (by decide) ?_
              refine ih_57 _ _ _ _ _ ?_ ?_ ?_ ?_ ?_ ?_
              · omega
              · exact hvs.skip h3.1 hno
              · exact ⟨_, hR⟩
              · exact hmMm
              · exact hfMm
              · omega
      refine lp_57 5 _ _ _ _ _ ?_ ?_ ?_ ?_ ?_ (?_)
      · omega
      · exact ⟨fun _ => rfl, fun _ => ⟨fun _ => ⟨rfl, rfl⟩, fun y => absurd rfl y⟩, Or.inl rfl, by omega, by omega⟩
      · exact ⟨_, hR⟩
      · exact hmM
      · exact hfM
      · omega
    · skip
      have hkd := c2
      refine g_iconst hc dX13_valueOf_42 ?_
      refine g_goto (tgt := 47) hc dX13_valueOf_43 (by decide) ?_
      refine g_istore_3 hc dX13_valueOf_47 rfl ?_
      refine g_lconst hc dX13_valueOf_48 0 (by decide +kernel) ?_
      refine g_lstore_4 hc dX13_valueOf_49 rfl ?_
      refine g_iconst hc dX13_valueOf_51 ?_
      refine g_istore_6 hc dX13_valueOf_52 rfl ?_
      refine g_iconst hc dX13_valueOf_54 ?_
      refine g_istore_7 hc dX13_valueOf_55 rfl ?_
      have lp_57 : ∀ (fu : Nat) (S hs i : Int) (Mm : g_I) (Rm : g_R), 0 ≤ i ∧ i ≤ I (lb + 43) (nd - 100) → q_vs I lb (nd - 100) i S hs → (∃ tm, g_rf w Rm lb tm) → q_rel I lb Mm → (∀ (k : Nat) (j : Int), ¬ x_a k j → Mm k j = M k j) → I (lb + 43) (nd - 100) - i < (fu : Int) → G w x (x_rel w (some (gvL (q_val I lb nd))) x_a M J lb) 0 0 g_n Mm J Rm 57 [some (gvr w 703), some (gvI nd), some (gvI (nd - 100)), some (gvI 1), some (gvL S), none, some (gvI hs), some (gvI i), none, none] [] := by
        intro fu
        induction fu with
        | zero => intro S hs i Mm Rm h3 hvs hR hmMm hfMm hfu; exfalso; omega
        | succ fu ih =>
          intro S hs i Mm Rm h3 hvs hR hmMm hfMm hfu
          obtain ⟨tm, hR⟩ := hR
          obtain ⟨-, -, hhs, hs1, hs2⟩ := id hvs
          have ih_57 := ih
          refine g_iload hc dX13_valueOf_57 rfl ?_
          refine g_aldn hc dX13_valueOf_59 rfl ?_
          refine g_getRk hc lk_X13_40 ca_703 (rc_703_19 hR) dX13_valueOf_60 ?_
          refine g_aldn hc dX13_valueOf_63 rfl ?_
          refine g_aldn hc dX13_valueOf_64 rfl ?_
          refine g_getIe hc lk_X13_52 ca_703 24 rfl (show Mm 703 24 = I 0 12 from hmMm.tab) dX13_valueOf_65 ?_
          refine g_iload_n hc dX13_valueOf_68 rfl ?_
          refine g_V2r hc (c_X13_forkAt w) my_X13_forkAt mv_X13_forkAt ca_703 rfl rfl lm_X13_249 rfl (by omega) (Nat.le_of_ble_eq_true rfl) hm dX13_valueOf_69 ?_
          refine g_iconst hc dX13_valueOf_72 ?_
          refine g_iadd hc dX13_valueOf_73 ?_
          refine g_ialde hc ca_709 (by decide) (by omega) (by omega) (show Mm 709 ((((I 0 12) * 18 + (nd - 100)) * 5) + 2) = I (lb + 43) (nd - 100) from q_bm hmMm (by omega)) dX13_valueOf_74 ?_
          refine g_icmp_ge (tgt := 179) hc dX13_valueOf_75 (by decide) (by first | exact hI _ _ | exact hxI2 _ _ | exact hIa _ _ | exact hIb _ _ | exact g_b32 | exact g_and32 | assumption | exact ⟨by omega, by omega⟩) (by first | exact hI _ _ | exact hxI2 _ _ | exact hIa _ _ | exact hIb _ _ | exact g_b32 | exact g_and32 | assumption | exact ⟨by omega, by omega⟩) (fun c8 => ?_) (fun c8 => ?_)
          · skip
            refine g_iload_n hc dX13_valueOf_179 rfl ?_
            refine g_if_eq (tgt := 195) hc dX13_valueOf_180 (by decide) (show g32 _ from ⟨by decide, by decide⟩) (fun c9 => ?_) (fun c9 => ?_)
            · exfalso; omega
            · skip
              have hw1 := q_wt1 hmMm hf1
              have hw2 := g_wt_in (m := I 550 (4 + (nd - 100))) (fun r a c => (hit r a c).1) (I (lb + 43) (nd - 100)).toNat (by omega)
              refine g_lload hc dX13_valueOf_183 rfl ?_
              refine g_aldn hc dX13_valueOf_185 rfl ?_
              refine g_iload_n hc dX13_valueOf_186 rfl ?_
              refine g_V1r hc (c_X13_weights w hR hmMm (by omega)) my_X13_weights mv_X13_weights ca_703 rfl rfl lm_X13_358 rfl (by omega) (Nat.le_of_ble_eq_true rfl) hm dX13_valueOf_187 ?_
              refine g_i2l hc dX13_valueOf_190 (by have hw2 := g_wt_in (m := I 550 (4 + (nd - 100))) (fun r a c => (hit r a c).1) (I (lb + 43) (nd - 100)).toNat (by omega); exact ⟨by omega, by omega⟩) ?_
              refine g_ldiv hc dX13_valueOf_191 (by exact ⟨by omega, by omega⟩) (by exact ⟨by omega, by omega⟩) (by omega) ?_
              refine g_goto (tgt := 197) hc dX13_valueOf_192 (by decide) ?_
              refine g_lret hc hm dX13_valueOf_197 ?_
              exact x_endL (by rw [q_val, if_neg (by omega), g_w5_eq hL hf1.1 hf1.2, g_st5, if_pos hkd, g_chv, if_neg (by omega), hvs.1 hkd, show I (lb + 43) (nd - 100) = i by omega]) hfMm hmMm.g hR
          · skip
            refine g_aldn hc dX13_valueOf_78 rfl ?_
            refine g_getRk hc lk_X13_56 ca_703 (rc_703_25 hR) dX13_valueOf_79 ?_
            refine g_iconst hc dX13_valueOf_82 ?_
            refine g_iload_n hc dX13_valueOf_83 rfl ?_
            refine g_imul hc dX13_valueOf_84 ?_
            refine g_iload hc dX13_valueOf_85 rfl ?_
            refine g_iadd hc dX13_valueOf_87 ?_
            refine g_zalde hc ca_713 (by decide) (by omega) (by omega) (show Mm 713 ((4 * (nd - 100)) + i) = g_b (g_bit (I 550 (4 + (nd - 100))) i) from hmMm.opn (by omega) (by omega)) dX13_valueOf_88 ?_
            refine g_ifb_ne (tgt := 95) hc dX13_valueOf_89 (by decide)  (fun c10 => ?_) (fun c10 => ?_)
            · skip
              have hop := c10
              obtain ⟨hb0, hb1, hb2, hb3, hb4, htg⟩ := hit i h3.1 (by omega)
              have hbv := q_bhd (I := I) (b := lb) (f := (nd - 100)) (r := i) (by omega) (by omega)
              have hvb := q_val_in hC (nd := I (lb + 127) ((nd - 100) * 4 + i)) (by omega)
              refine g_aldn hc dX13_valueOf_95 rfl ?_
              refine g_aldn hc dX13_valueOf_96 rfl ?_
              refine g_getRk hc lk_X13_43 ca_703 (rc_703_20 hR) dX13_valueOf_97 ?_
              refine g_aldn hc dX13_valueOf_100 rfl ?_
              refine g_aldn hc dX13_valueOf_101 rfl ?_
              refine g_getIe hc lk_X13_52 ca_703 24 rfl (show Mm 703 24 = I 0 12 from hmMm.tab) dX13_valueOf_102 ?_
              refine g_iload_n hc dX13_valueOf_105 rfl ?_
              refine g_iload hc dX13_valueOf_106 rfl ?_
              refine g_V3r hc (c_X13_branchAt w) my_X13_branchAt mv_X13_branchAt ca_703 rfl rfl lm_X13_262 rfl (by omega) (Nat.le_of_ble_eq_true rfl) hm dX13_valueOf_108 ?_
              refine g_iconst hc dX13_valueOf_111 ?_
              refine g_iadd hc dX13_valueOf_112 ?_
              refine g_ialde hc ca_710 (by decide) (by omega) (by omega) (show Mm 710 (((((I 0 12) * 18 + (nd - 100)) * 4 + i) * 6) + 5) = I (lb + 127) ((nd - 100) * 4 + i) from q_tg hmMm (by omega) (by omega)) dX13_valueOf_113 ?_
              refine g_V1 hc (hN hR hmMm (by omega)) my_X13_valueOf mv_X13_valueOf ca_703 rfl rfl lm_X13_379 rfl (by omega) (Nat.le_of_ble_eq_true rfl) hm dX13_valueOf_114 (fun r4 n4 I4 J4 R4 hp4 => ?_)
              obtain ⟨rfl, rfl, hK4, hX4, rfl, t4, hR⟩ := hp4
              have hmI4 : q_rel I lb I4 := q_cg hK4 hX4 hmMm
              have hfI4 : ∀ (k : Nat) (j : Int), ¬ x_a k j → I4 k j = M k j := fun k j hk => (hK4 k j hk).trans (hfMm k j hk)
              refine g_lstore_8 hc dX13_valueOf_117 rfl ?_
              refine g_iload_n hc dX13_valueOf_119 rfl ?_
              refine g_if_eq (tgt := 151) hc dX13_valueOf_120 (by decide) (show g32 _ from ⟨by decide, by decide⟩) (fun c11 => ?_) (fun c11 => ?_)
              · exfalso; omega
              · skip
                refine g_lload hc dX13_valueOf_123 rfl ?_
                refine g_lload hc dX13_valueOf_125 rfl ?_
                refine g_aldn hc dX13_valueOf_127 rfl ?_
                refine g_getRk hc lk_X13_43 ca_703 (rc_703_20 hR) dX13_valueOf_128 ?_
                refine g_aldn hc dX13_valueOf_131 rfl ?_
                refine g_aldn hc dX13_valueOf_132 rfl ?_
                refine g_getIe hc lk_X13_52 ca_703 24 rfl (show I4 703 24 = I 0 12 from hmI4.tab) dX13_valueOf_133 ?_
                refine g_iload_n hc dX13_valueOf_136 rfl ?_
                refine g_iload hc dX13_valueOf_137 rfl ?_
                refine g_V3r hc (c_X13_branchAt w) my_X13_branchAt mv_X13_branchAt ca_703 rfl rfl lm_X13_262 rfl (by omega) (Nat.le_of_ble_eq_true rfl) hm dX13_valueOf_139 ?_
                refine g_ialde hc ca_710 (by decide) (by omega) (by omega) (show I4 710 ((((I 0 12) * 18 + (nd - 100)) * 4 + i) * 6) = I (lb + 47 + ((nd - 100) * 4 + i).toNat) 0 from q_b0 hmI4 (by omega) (by omega)) dX13_valueOf_142 ?_
                refine g_i2l hc dX13_valueOf_143 (by first | exact hI _ _ | exact hxI2 _ _ | exact hIa _ _ | exact hIb _ _ | exact g_b32 | exact g_and32 | assumption | exact ⟨by omega, by omega⟩) ?_
                refine g_lmul hc dX13_valueOf_144 ?_
                refine g_ladd hc dX13_valueOf_145 ?_
                refine g_lstore_4 hc dX13_valueOf_146 rfl ?_
                refine g_goto (tgt := 170) hc dX13_valueOf_148 (by decide) ?_
                refine g_iconst hc dX13_valueOf_170 ?_
                refine g_istore_6 hc dX13_valueOf_171 rfl ?_
                refine g_iinc_7 hc dX13_valueOf_173 rfl ?_
                refine g_goto (tgt := 57) hc dX13_valueOf_176 (by decide) ?_
                refine G_sub (L' := [some (gvr w 703), some (gvI nd), some (gvI (nd - 100)), some (gvI 1), some (gvL (S + ((q_val I lb ((I (lb + 127) ((nd - 100) * 4 + i)))) * (I (lb + 47 + ((nd - 100) * 4 + i).toNat) 0)))), none, some (gvI 1), some (gvI (i + 1)), none, none]) (show g_le _ _ from ⟨rfl, ⟨rfl, ⟨rfl, ⟨rfl, ⟨rfl, ⟨rfl, ⟨rfl, trivial⟩⟩⟩⟩⟩⟩⟩) ?_
                refine ih_57 _ _ _ _ _ ?_ ?_ ?_ ?_ ?_ ?_
                · omega
                · exact hvs.chance h3.1 hop hkd hbv hvb hb0
                · exact ⟨_, hR⟩
                · exact hmI4
                · exact hfI4
                · omega
            · skip
              have hno := c10
              refine g_goto (tgt := 173) hc dX13_valueOf_92 (by decide) ?_
              refine g_iinc_7 hc dX13_valueOf_173 rfl ?_
              refine g_goto (tgt := 57) hc dX13_valueOf_176 (by decide) ?_
              refine ih_57 _ _ _ _ _ ?_ ?_ ?_ ?_ ?_ ?_
              · omega
              · exact hvs.skip h3.1 hno
              · exact ⟨_, hR⟩
              · exact hmMm
              · exact hfMm
              · omega
      refine lp_57 5 _ _ _ _ _ ?_ ?_ ?_ ?_ ?_ (?_)
      · omega
      · exact ⟨fun _ => rfl, fun _ => ⟨fun _ => ⟨rfl, rfl⟩, fun y => absurd rfl y⟩, Or.inl rfl, by omega, by omega⟩
      · exact ⟨_, hR⟩
      · exact hmM
      · exact hfM
      · omega
  · skip
    refine g_ldc2 (k := 100) hc dX13_valueOf_6 _ lc_X13_377 (by decide +kernel) ?_
    refine g_aldn hc dX13_valueOf_9 rfl ?_
    refine g_iload_n hc dX13_valueOf_10 rfl ?_
    refine g_V1 hc (c_X13_worthOf w hR hmM (by omega)) my_X13_worthOf mv_X13_worthOf ca_703 rfl rfl lm_X13_373 rfl (by omega) (Nat.le_of_ble_eq_true rfl) hm dX13_valueOf_11 (fun r5 n5 I5 J5 R5 hp5 => ?_)
    obtain ⟨rfl, rfl, hK5, hX5, rfl, t5, hR⟩ := hp5
    have hmI5 : q_rel I lb I5 := q_cg hK5 hX5 hmM
    have hfI5 : ∀ (k : Nat) (j : Int), ¬ x_a k j → I5 k j = M k j := fun k j hk => (hK5 k j hk).trans (hfM k j hk)
    refine g_i2l hc dX13_valueOf_14 (by have := g_lkd_in hC (s := nd) (by omega); exact ⟨by omega, by omega⟩) ?_
    refine g_lmul hc dX13_valueOf_15 ?_
    refine g_lret hc hm dX13_valueOf_16 ?_
    exact x_endL (by rw [q_val, if_pos (by omega)]) hfI5 hmI5.g hR
theorem y_val (w : g_W) : ∀ n : Nat, C_val w n
  | 0 => fun hR hm h => y_val0 w hR hm h
  | n + 1 => fun hR hm h => y_valS w hR hm (y_val w n) h
set_option maxHeartbeats 4000000 in
set_option maxRecDepth 100000 in
/-- X13_behindOf -/
theorem c_X13_behindOf (w : g_W) {I : g_I} {J : g_J} {R : g_R} {lb tx : Nat} (hR : g_rf w R lb tx) {M : g_I} (hmM : q_rel I lb M) {f r : Int} (h1 : 0 ≤ f ∧ f < I lb 1) (h2 : 0 ≤ r ∧ r < I (lb + 43) f) : g_Met w g_n M J R yX13_behindOf cX13_behindOf 3 (some .long) 55 0 0 [(gvr w 703), (gvI f), (gvI r)] (x_rel w (some (gvL (g_bhd I lb (g_w5 I lb) f r))) x_a M J lb) := by
  refine g_intro (own := RX13) [some (gvr w 703), some (gvI f), some (gvI r)] (by decide +kernel) rfl (by decide) (Nat.le_of_ble_eq_true rfl) rfl (fun i v hv => g_args 0 i v hv rfl) (fun x hc hm => ?_)
  have hfM : ∀ (k : Nat) (j : Int), ¬ x_a k j → M k j = M k j := fun _ _ _ => rfl
  have hI := hmM.gi
  have hTb := q_b1 hmM
  have hLv := hmM.lv
  have hC := hmM.cin
  have hL := hC.1
  obtain ⟨hn0, hn1, hLs, hLf⟩ := id hL
  obtain ⟨-, hC1, hC2, hC3, hC4, hC5, hC6, hC7⟩ := id hC
  have hTs := q_ts hmM (by omega)
  obtain ⟨hk2, hk1, hy, hit⟩ := hLf f h1.1 h1.2
  obtain ⟨hb0, hb1, hb2, hb3, hb4, htg⟩ := hit r h2.1 h2.2
  refine g_aldn hc dX13_behindOf_0 rfl ?_
  refine g_aldn hc dX13_behindOf_1 rfl ?_
  refine g_getRk hc lk_X13_43 ca_703 (rc_703_20 hR) dX13_behindOf_2 ?_
  refine g_aldn hc dX13_behindOf_5 rfl ?_
  refine g_aldn hc dX13_behindOf_6 rfl ?_
  refine g_getIe hc lk_X13_52 ca_703 24 rfl (show M 703 24 = I 0 12 from hmM.tab) dX13_behindOf_7 ?_
  refine g_iload_n hc dX13_behindOf_10 rfl ?_
  refine g_iload_n hc dX13_behindOf_11 rfl ?_
  refine g_V3r hc (c_X13_branchAt w) my_X13_branchAt mv_X13_branchAt ca_703 rfl rfl lm_X13_262 rfl (by decide) (Nat.le_of_ble_eq_true rfl) hm dX13_behindOf_12 ?_
  refine g_iconst hc dX13_behindOf_15 ?_
  refine g_iadd hc dX13_behindOf_16 ?_
  refine g_ialde hc ca_710 (by decide) (by omega) (by omega) (show M 710 (((((I 0 12) * 18 + f) * 4 + r) * 6) + 5) = I (lb + 127) (f * 4 + r) from q_tg hmM (by omega) (by omega)) dX13_behindOf_17 ?_
  refine g_V1 hc (y_val w 18 hR hmM (by omega)) my_X13_valueOf mv_X13_valueOf ca_703 rfl rfl lm_X13_379 rfl (by decide) (Nat.le_of_ble_eq_true rfl) hm dX13_behindOf_18 (fun r3 n3 I3 J3 R3 hp3 => ?_)
  obtain ⟨rfl, rfl, hK3, hX3, rfl, t3, hR⟩ := hp3
  have hmI3 : q_rel I lb I3 := q_cg hK3 hX3 hmM
  have hfI3 : ∀ (k : Nat) (j : Int), ¬ x_a k j → I3 k j = M k j := fun k j hk => (hK3 k j hk).trans (hfM k j hk)
  refine g_lret hc hm dX13_behindOf_21 ?_
  exact x_endL (by rw [q_bhd h1 h2]) hfI3 hmI3.g hR
set_option maxHeartbeats 4000000 in
set_option maxRecDepth 100000 in
/-- X13_regretOf -/
theorem c_X13_regretOf (w : g_W) {I : g_I} {J : g_J} {R : g_R} {lb tx : Nat} (hR : g_rf w R lb tx) {M : g_I} (hmM : q_rel I lb M) {f r : Int} (h1 : 0 ≤ f ∧ f < I lb 1) (h2 : 0 ≤ r ∧ r < I (lb + 43) f) : g_Met w g_n M J R yX13_regretOf cX13_regretOf 3 (some .long) 56 0 0 [(gvr w 703), (gvI f), (gvI r)] (x_rel w (some (gvL (q_rg I lb f r))) x_a M J lb) := by
  refine g_intro (own := RX13) [some (gvr w 703), some (gvI f), some (gvI r)] (by decide +kernel) rfl (by decide) (Nat.le_of_ble_eq_true rfl) rfl (fun i v hv => g_args 0 i v hv rfl) (fun x hc hm => ?_)
  have hfM : ∀ (k : Nat) (j : Int), ¬ x_a k j → M k j = M k j := fun _ _ _ => rfl
  have hI := hmM.gi
  have hTb := q_b1 hmM
  have hLv := hmM.lv
  have hC := hmM.cin
  have hL := hC.1
  obtain ⟨hn0, hn1, hLs, hLf⟩ := id hL
  obtain ⟨-, hC1, hC2, hC3, hC4, hC5, hC6, hC7⟩ := id hC
  have hTs := q_ts hmM (by omega)
  obtain ⟨hk2, hk1, hy, hit⟩ := hLf f h1.1 h1.2
  obtain ⟨hb0, hb1, hb2, hb3, hb4, htg⟩ := hit r h2.1 h2.2
  have hbv := q_bhd (I := I) (b := lb) (f := f) (r := r) h1 h2
  have hvb := q_val_in hC (nd := I (lb + 127) (f * 4 + r)) (by omega)
  have hvf := q_val_in hC (nd := 100 + f) (by omega)
  refine g_aldn hc dX13_regretOf_0 rfl ?_
  refine g_getRk hc lk_X13_40 ca_703 (rc_703_19 hR) dX13_regretOf_1 ?_
  refine g_aldn hc dX13_regretOf_4 rfl ?_
  refine g_aldn hc dX13_regretOf_5 rfl ?_
  refine g_getIe hc lk_X13_52 ca_703 24 rfl (show M 703 24 = I 0 12 from hmM.tab) dX13_regretOf_6 ?_
  refine g_iload_n hc dX13_regretOf_9 rfl ?_
  refine g_V2r hc (c_X13_forkAt w) my_X13_forkAt mv_X13_forkAt ca_703 rfl rfl lm_X13_249 rfl (by decide) (Nat.le_of_ble_eq_true rfl) hm dX13_regretOf_10 ?_
  refine g_iconst hc dX13_regretOf_13 ?_
  refine g_iadd hc dX13_regretOf_14 ?_
  refine g_ialde hc ca_709 (by decide) (by omega) (by omega) (show M 709 ((((I 0 12) * 18 + f) * 5) + 1) = I (lb + 42) f from q_kd hmM (by omega)) dX13_regretOf_15 ?_
  refine g_iconst hc dX13_regretOf_16 ?_
  refine g_icmp_ne (tgt := 24) hc dX13_regretOf_17 (by decide) (by first | exact hI _ _ | exact hxI2 _ _ | exact hIa _ _ | exact hIb _ _ | exact g_b32 | exact g_and32 | assumption | exact ⟨by omega, by omega⟩) (by first | exact hI _ _ | exact hxI2 _ _ | exact hIa _ _ | exact hIb _ _ | exact g_b32 | exact g_and32 | assumption | exact ⟨by omega, by omega⟩) (fun c1 => ?_) (fun c1 => ?_)
  · skip
    refine g_lconst hc dX13_regretOf_24 0 (by decide +kernel) ?_
    refine g_aldn hc dX13_regretOf_25 rfl ?_
    refine g_bipush hc dX13_regretOf_26 (by decide +kernel) ?_
    refine g_iload_n hc dX13_regretOf_28 rfl ?_
    refine g_iadd hc dX13_regretOf_29 ?_
    refine g_V1 hc (y_val w 18 hR hmM (by omega)) my_X13_valueOf mv_X13_valueOf ca_703 rfl rfl lm_X13_379 rfl (by decide) (Nat.le_of_ble_eq_true rfl) hm dX13_regretOf_30 (fun r3 n3 I3 J3 R3 hp3 => ?_)
    obtain ⟨rfl, rfl, hK3, hX3, rfl, t3, hR⟩ := hp3
    have hmI3 : q_rel I lb I3 := q_cg hK3 hX3 hmM
    have hfI3 : ∀ (k : Nat) (j : Int), ¬ x_a k j → I3 k j = M k j := fun k j hk => (hK3 k j hk).trans (hfM k j hk)
    refine g_aldn hc dX13_regretOf_33 rfl ?_
    refine g_iload_n hc dX13_regretOf_34 rfl ?_
    refine g_iload_n hc dX13_regretOf_35 rfl ?_
    refine g_V2 hc (c_X13_behindOf w hR hmI3 (by omega) (by omega)) my_X13_behindOf mv_X13_behindOf ca_703 rfl rfl lm_X13_383 rfl (by decide) (Nat.le_of_ble_eq_true rfl) hm dX13_regretOf_36 (fun r4 n4 I4 J4 R4 hp4 => ?_)
    obtain ⟨rfl, rfl, hK4, hX4, rfl, t4, hR⟩ := hp4
    have hmI4 : q_rel I lb I4 := q_cg hK4 hX4 hmI3
    have hfI4 : ∀ (k : Nat) (j : Int), ¬ x_a k j → I4 k j = M k j := fun k j hk => (hK4 k j hk).trans (hfI3 k j hk)
    refine g_lsub hc dX13_regretOf_39 ?_
    refine g_mmaxL hc (by exact ⟨by omega, by omega⟩) (by exact ⟨by omega, by omega⟩) rfl mm_mmaxL_X13_157 mm_sta_mmaxL mm_ini mm_cod_mmaxL (by decide) (Nat.le_of_ble_eq_true rfl) hm dX13_regretOf_40 ?_
    refine g_lret hc hm dX13_regretOf_43 ?_
    exact x_endL (by rw [q_rg, if_neg (by assumption), q_val, if_neg (by omega), show 100 + f - 100 = f by omega]) hfI4 hmI4.g hR
  · skip
    refine g_lconst hc dX13_regretOf_20 0 (by decide +kernel) ?_
    refine g_goto (tgt := 43) hc dX13_regretOf_21 (by decide) ?_
    refine g_lret hc hm dX13_regretOf_43 ?_
    exact x_endL (by rw [q_rg, if_pos (by assumption)]) hfM hmM.g hR
