/-- the end of what moves cells: all told but for the frame -/
def x_pl (rv : Option Value) (Sc : Nat → Int → Prop) (M : g_I) (J : g_J) (R : g_R) : g_P := fun r n' I' J' R' => r = rv ∧ n' = g_n ∧ J' = J ∧ R' = R ∧ (∀ (k : Nat) (j : Int), ¬ Sc k j → I' k j = M k j) ∧ ∀ k j, g32 (I' k j)
theorem x_and255 {x : Int32} : (x &&& 255).toInt = x.toInt % 256 := by
  have h := x.toBitVec.isLt
  rw [pk_and x 8 (by decide +kernel), nI_toInt (by omega), g_i32, BitVec.toInt_eq_toNat_cond]
  split <;> omega
theorem x_i2b (x : Int32) : x.toInt8.toInt32 &&& 255 = x &&& 255 := by
  apply Int32.toBitVec_inj.mp
  rw [Int32.toBitVec_and, Int32.toBitVec_and, Int8.toBitVec_toInt32, Int32.toBitVec_toInt8]
  apply BitVec.eq_of_getLsbD_eq
  intro i hi
  rw [BitVec.getLsbD_and, BitVec.getLsbD_and]
  have hm : ∀ i < 32, 8 ≤ i → (255 : Int32).toBitVec.getLsbD i = false := by decide
  rcases Nat.lt_or_ge i 8 with z | z
  · rw [BitVec.getLsbD_signExtend, BitVec.getLsbD_signExtend, if_pos z, if_pos hi]
    simp only [z, hi, decide_true, Bool.true_and]
  · rw [hm i hi z]; simp
/-- a byte of a number, as the reference takes it -/
theorem x_by {v sh : Int} (hs : sh = 0 ∨ sh = 8 ∨ sh = 16 ∨ sh = 24) : g_and (g_shr v sh) 255 = g_by v sh ∧ g_and (g_i2b' (g_shr v sh)) 255 = g_by v sh ∧ -128 ≤ g_i2b' (g_shr v sh) ∧ g_i2b' (g_shr v sh) ≤ 127 := by
  have e255 : Int32.ofInt 255 = 255 := rfl
  have h1 : g_and (g_shr v sh) 255 = g_by v sh := by
    have hx := (Int32.ofInt v).toBitVec.isLt
    have hc := @BitVec.toInt_eq_toNat_cond 32 (Int32.ofInt v).toBitVec
    unfold g_by g_and g_shr g_ushr
    rw [Int32.ofInt_toInt, Int32.ofInt_toInt, e255, x_and255, x_and255]
    rcases hs with rfl | rfl | rfl | rfl
    · have h5 := pk_ushr (Int32.ofInt v) (Int32.ofInt 0) 0 (by decide +kernel)
      have h6 := @BitVec.toInt_eq_toNat_cond 32 (((Int32.ofInt v).toUInt32 >>> ((Int32.ofInt 0).toUInt32 &&& Int32.toUInt32 31)).toInt32).toBitVec
      rw [h5] at h6
      rw [pk_shr _ _ 0 (by decide +kernel), Int.shiftRight_eq_div_pow, g_i32, hc, g_i32, h6, show ((2 ^ 0 : Nat) : Int) = 1 from rfl, show (2 : Nat) ^ 0 = 1 from rfl]
      split <;> split <;> omega
    · have h5 := pk_ushr (Int32.ofInt v) (Int32.ofInt 8) 8 (by decide +kernel)
      have h6 := @BitVec.toInt_eq_toNat_cond 32 (((Int32.ofInt v).toUInt32 >>> ((Int32.ofInt 8).toUInt32 &&& Int32.toUInt32 31)).toInt32).toBitVec
      rw [h5] at h6
      rw [pk_shr _ _ 8 (by decide +kernel), Int.shiftRight_eq_div_pow, g_i32, hc, g_i32, h6, show ((2 ^ 8 : Nat) : Int) = 256 from rfl, show (2 : Nat) ^ 8 = 256 from rfl]
      split <;> split <;> omega
    · have h5 := pk_ushr (Int32.ofInt v) (Int32.ofInt 16) 16 (by decide +kernel)
      have h6 := @BitVec.toInt_eq_toNat_cond 32 (((Int32.ofInt v).toUInt32 >>> ((Int32.ofInt 16).toUInt32 &&& Int32.toUInt32 31)).toInt32).toBitVec
      rw [h5] at h6
      rw [pk_shr _ _ 16 (by decide +kernel), Int.shiftRight_eq_div_pow, g_i32, hc, g_i32, h6, show ((2 ^ 16 : Nat) : Int) = 65536 from rfl, show (2 : Nat) ^ 16 = 65536 from rfl]
      split <;> split <;> omega
    · have h5 := pk_ushr (Int32.ofInt v) (Int32.ofInt 24) 24 (by decide +kernel)
      have h6 := @BitVec.toInt_eq_toNat_cond 32 (((Int32.ofInt v).toUInt32 >>> ((Int32.ofInt 24).toUInt32 &&& Int32.toUInt32 31)).toInt32).toBitVec
      rw [h5] at h6
      rw [pk_shr _ _ 24 (by decide +kernel), Int.shiftRight_eq_div_pow, g_i32, hc, g_i32, h6, show ((2 ^ 24 : Nat) : Int) = 16777216 from rfl, show (2 : Nat) ^ 24 = 16777216 from rfl]
      split <;> split <;> omega
  refine ⟨h1, ?_, ?_⟩
  · rw [← h1]
    unfold g_i2b' g_and
    rw [Int32.ofInt_toInt, e255, x_i2b]
  · unfold g_i2b'
    rw [Int8.toInt_toInt32]
    exact ⟨Int8.le_toInt _, by have := Int8.toInt_lt (Int32.ofInt (g_shr v sh)).toInt8; omega⟩
/-- the TAPE -/
def q_tap (I M : g_I) : Prop := M 703 6 = I 1 1 ∧ (0 ≤ I 1 1 ∧ I 1 1 ≤ 240) ∧ (∀ j : Int, I 2 j = g_and (M 704 j) 255) ∧ ∀ j : Int, -128 ≤ M 704 j ∧ M 704 j ≤ 127
abbrev x_tp (k : Nat) (j : Int) : Prop := k = 704 ∨ (k = 703 ∧ (j = 6 ∨ j = 0))
abbrev x_bF (v : Int) : Int → Int := fun i => if g_by v (24 - 8 * i) = 0 then 0 else 1
theorem x_sum_mono {F : Int → Int} (hF : ∀ i, 0 ≤ F i) (n : Nat) : ∀ d : Nat, g_sum F n ≤ g_sum F (n + d)
  | 0 => Int.le_refl _
  | d + 1 => by
    have := x_sum_mono hF n d
    have h2 := hF ((n + d : Nat) : Int)
    rw [← Nat.add_assoc, g_sum]
    omega
theorem x_bF0 {v : Int} : ∀ i, 0 ≤ x_bF v i := fun i => by
  show 0 ≤ if g_by v (24 - 8 * i) = 0 then (0 : Int) else 1
  split <;> omega
theorem x_apn {I : g_I} {v : Int} : ∀ n : Nat, I 1 1 + g_sum (x_bF v) n ≤ 240 → g_apn I v n 1 1 = I 1 1 + g_sum (x_bF v) n
  | 0, _ => by rw [g_apn]; show _ = I 1 1 + 0; omega
  | n + 1, h => by
    rw [g_sum] at h ⊢
    have h0 := @x_bF0 v n
    have ih := x_apn (I := I) (v := v) n (by omega)
    rw [g_apn, g_ap1]
    by_cases z : g_by v (24 - 8 * (n : Int)) = 0
    · have e : x_bF v n = 0 := if_pos z
      rw [if_neg (fun y => y.1 z), ih, e]; omega
    · have e : x_bF v n = 1 := if_neg z
      rw [if_pos ⟨z, by omega⟩, g_up_s, ih, e]; omega
theorem x_apd {I : g_I} {v : Int} (h : I 1 1 + g_bin v ≤ 240) : g_apd I v 1 1 = I 1 1 + g_bin v := x_apn 4 h
theorem g_bin0 {v : Int} : 0 ≤ g_bin v ∧ g_bin v ≤ 4 := by
  have h := g_sum_in (f := x_bF v) (m := 1) 4 (fun i _ _ => by
    show 0 ≤ (if g_by v (24 - 8 * i) = 0 then (0 : Int) else 1) ∧ (if g_by v (24 - 8 * i) = 0 then (0 : Int) else 1) ≤ 1
    split <;> omega)
  show 0 ≤ g_sum (x_bF v) 4 ∧ g_sum (x_bF v) 4 ≤ 4
  omega
theorem x_nb {a : Int} : vp_nar FieldType.byte (Int32.ofInt (g_i2b' a)) = Int32.ofInt (g_i2b' a) := by
  unfold g_i2b'
  rw [Int32.ofInt_toInt]
  exact pk_vb _
theorem q_ap1 {X M M' : g_I} {z b : Int} (h : q_tap X M) (hz : ¬ z = 0) (hl : X 1 1 < 240) (hb : g_and b 255 = z) (hr : -128 ≤ b ∧ b ≤ 127) (e : M' = g_up (g_up M 704 (X 1 1) b) 703 6 (X 1 1 + 1)) : q_tap (g_ap1 X z) M' := by
  obtain ⟨h1, h2, h3, h4⟩ := h
  rw [g_ap1, if_pos ⟨hz, hl⟩]
  refine ⟨by rw [e, g_up_s, g_up_s], by rw [g_up_s]; omega, fun j => ?_, fun j => ?_⟩
  · rw [e, g_up_k (k := 1) (a := 2) (by decide), g_up_k (k := 703) (a := 704) (by decide)]
    by_cases y : j = X 1 1
    · rw [y, g_up_s, g_up_s, hb]
    · rw [g_up_i y, g_up_i y]; exact h3 j
  · rw [e, g_up_k (by decide)]
    by_cases y : j = X 1 1
    · rw [y, g_up_s]; exact hr
    · rw [g_up_i y]; exact h4 j
set_option maxHeartbeats 4000000 in
set_option maxRecDepth 100000 in
/-- X13_bytesIn -/
theorem c_X13_bytesIn (w : g_W) {J : g_J} {R : g_R} {lb tx : Nat} (hR : g_rf w R lb tx) {M : g_I} (hg : ∀ k j, g32 (M k j)) {v : Int} (g1 : g32 v) : g_Met w g_n M J R yX13_bytesIn cX13_bytesIn 3 (some .int) 0 0 0 [(gvI v)] (g_post (some (gvI (g_bin v))) g_n M J R) := by
  refine g_intro (own := RX13) [some (gvI v), none, none] (by decide +kernel) rfl (by decide) (Nat.le_of_ble_eq_true rfl) rfl (fun i v hv => g_args 2 i v hv rfl) (fun x hc hm => ?_)
  have hfM : ∀ (k : Nat) (j : Int), ¬ x_tp k j → M k j = M k j := fun _ _ _ => rfl
  have hgM := hg
  have hI := hg
  refine g_iconst hc dX13_bytesIn_0 ?_
  refine g_istore_1 hc dX13_bytesIn_1 rfl ?_
  refine g_bipush hc dX13_bytesIn_2 (by decide +kernel) ?_
  refine g_istore_2 hc dX13_bytesIn_4 rfl ?_
  have lp_5 : ∀ (fu : Nat) (a i h : Int), (0 ≤ i ∧ i ≤ 4) ∧ h = 24 - 8 * i → a = g_sum (x_bF v) i.toNat → 4 - i < (fu : Int) → G w x (g_post (some (gvI (g_bin v))) g_n M J R) 0 0 g_n M J R 5 [some (gvI v), some (gvI a), some (gvI h)] [] := by
    intro fu
    induction fu with
    | zero => intro a i h h3 h4 hfu; exfalso; omega
    | succ fu ih =>
      intro a i h h3 h4 hfu
      have ih_5 := ih
      refine g_iload_n hc dX13_bytesIn_5 rfl ?_
      refine g_if_lt (tgt := 33) hc dX13_bytesIn_6 (by decide) (by first | exact hI _ _ | exact hxI2 _ _ | exact hIa _ _ | exact hIb _ _ | exact g_b32 | exact g_and32 | assumption | exact ⟨by omega, by omega⟩) (fun c1 => ?_) (fun c1 => ?_)
      · skip
        refine g_iload_n hc dX13_bytesIn_33 rfl ?_
        refine g_iret hc hm dX13_bytesIn_34 ?_
        exact g_postE (by rw [h4, show i = 4 by omega]; rfl)
      · skip
        refine g_iload_n hc dX13_bytesIn_9 rfl ?_
        refine g_iload_n hc dX13_bytesIn_10 rfl ?_
        refine g_iload_n hc dX13_bytesIn_11 rfl ?_
        refine g_ishr hc dX13_bytesIn_12 ?_
        refine g_sipush hc dX13_bytesIn_13 (by decide +kernel) ?_
        refine g_iand hc dX13_bytesIn_16 ?_
        refine g_if_eq (tgt := 24) hc dX13_bytesIn_17 (by decide) (by first | exact hI _ _ | exact hxI2 _ _ | exact hIa _ _ | exact hIb _ _ | exact g_b32 | exact g_and32 | assumption | exact ⟨by omega, by omega⟩) (fun c2 => ?_) (fun c2 => ?_)
        · skip
          refine g_iconst hc dX13_bytesIn_24 ?_
          refine g_iadd hc dX13_bytesIn_25 ?_
          refine g_istore_1 hc dX13_bytesIn_26 rfl ?_
          refine g_iinc_2 hc dX13_bytesIn_27 rfl ?_
          refine g_goto (tgt := 5) hc dX13_bytesIn_30 (by decide) ?_
          refine ih_5 _ (i + 1) _ ?_ ?_ ?_
          · show (0 ≤ i + 1 ∧ i + 1 ≤ 4) ∧ _ = 24 - 8 * (i + 1); omega
          · rw [g_sum_i h3.1.1, h4]; show _ = _ + (if g_by v (24 - 8 * i) = 0 then (0 : Int) else 1); rw [← h3.2, ← (x_by (v := v) (sh := h) (by omega)).1]; first | rw [if_pos (by assumption)] | rw [if_neg (by assumption)]
          · omega
        · skip
          refine g_iconst hc dX13_bytesIn_20 ?_
          refine g_goto (tgt := 25) hc dX13_bytesIn_21 (by decide) ?_
          refine g_iadd hc dX13_bytesIn_25 ?_
          refine g_istore_1 hc dX13_bytesIn_26 rfl ?_
          refine g_iinc_2 hc dX13_bytesIn_27 rfl ?_
          refine g_goto (tgt := 5) hc dX13_bytesIn_30 (by decide) ?_
          refine ih_5 _ (i + 1) _ ?_ ?_ ?_
          · show (0 ≤ i + 1 ∧ i + 1 ≤ 4) ∧ _ = 24 - 8 * (i + 1); omega
          · rw [g_sum_i h3.1.1, h4]; show _ = _ + (if g_by v (24 - 8 * i) = 0 then (0 : Int) else 1); rw [← h3.2, ← (x_by (v := v) (sh := h) (by omega)).1]; first | rw [if_pos (by assumption)] | rw [if_neg (by assumption)]
          · omega
  refine lp_5 5 _ 0 _ ?_ ?_ (?_)
  · exact ⟨⟨by decide, by decide⟩, by decide⟩
  · rfl
  · omega
set_option maxHeartbeats 4000000 in
set_option maxRecDepth 100000 in
/-- X13_put -/
theorem c_X13_put (w : g_W) {I : g_I} {J : g_J} {R : g_R} {lb tx : Nat} (hR : g_rf w R lb tx) {M : g_I} (hg : ∀ k j, g32 (M k j)) {v : Int} (g1 : g32 v) (hq : q_tap I M) (hr : I 1 1 + g_bin v ≤ 240) : g_Met w g_n M J R yX13_put cX13_put 3 none 0 0 0 [(gvr w 703), (gvI v)] (fun rr nn II JJ RR => x_pl none x_tp M J R rr nn II JJ RR ∧ q_tap (g_apd I v) II) := by
  refine g_intro (own := RX13) [some (gvr w 703), some (gvI v), none] (by decide +kernel) rfl (by decide) (Nat.le_of_ble_eq_true rfl) rfl (fun i v hv => g_args 1 i v hv rfl) (fun x hc hm => ?_)
  have hfM : ∀ (k : Nat) (j : Int), ¬ x_tp k j → M k j = M k j := fun _ _ _ => rfl
  have hgM := hg
  have hI := hg
  refine g_bipush hc dX13_put_0 (by decide +kernel) ?_
  refine g_istore_2 hc dX13_put_2 rfl ?_
  have lp_3 : ∀ (fu : Nat) (i h : Int) (X : g_I) (Mk : g_I), (0 ≤ i ∧ i ≤ 4) ∧ h = 24 - 8 * i → X = g_apn I v i.toNat → q_tap X Mk → (∀ (k : Nat) (j : Int), g32 (Mk k j)) → (∀ (k : Nat) (j : Int), ¬ x_tp k j → Mk k j = M k j) → 4 - i < (fu : Int) → G w x (fun rr nn II JJ RR => x_pl none x_tp M J R rr nn II JJ RR ∧ q_tap (g_apd I v) II) 0 0 g_n Mk J R 3 [some (gvr w 703), some (gvI v), some (gvI h)] [] := by
    intro fu
    induction fu with
    | zero => intro i h X Mk h3 h4 hqX hgMk hfMk hfu; exfalso; omega
    | succ fu ih =>
      intro i h X Mk h3 h4 hqX hgMk hfMk hfu
      have hby := x_by (v := v) (sh := h)
      have ih_3 := ih
      refine g_iload_n hc dX13_put_3 rfl ?_
      refine g_if_lt (tgt := 49) hc dX13_put_4 (by decide) (by first | exact hI _ _ | exact hxI2 _ _ | exact hIa _ _ | exact hIb _ _ | exact g_b32 | exact g_and32 | assumption | exact ⟨by omega, by omega⟩) (fun c1 => ?_) (fun c1 => ?_)
      · skip
        refine g_vret hc hm dX13_put_49 ?_
        exact ⟨⟨rfl, rfl, rfl, rfl, hfMk, hgMk⟩, by rw [g_apd, show (4 : Nat) = i.toNat by omega, ← h4]; exact hqX⟩
      · skip
        refine g_iload_n hc dX13_put_7 rfl ?_
        refine g_iload_n hc dX13_put_8 rfl ?_
        refine g_ishr hc dX13_put_9 ?_
        refine g_sipush hc dX13_put_10 (by decide +kernel) ?_
        refine g_iand hc dX13_put_13 ?_
        refine g_if_ne (tgt := 20) hc dX13_put_14 (by decide) (by first | exact hI _ _ | exact hxI2 _ _ | exact hIa _ _ | exact hIb _ _ | exact g_b32 | exact g_and32 | assumption | exact ⟨by omega, by omega⟩) (fun c2 => ?_) (fun c2 => ?_)
        · skip
          have hbh := hby (by omega)
          have hnz : ¬ g_by v h = 0 := by rw [← hbh.1]; exact c2
          have hm0 := x_sum_mono (@x_bF0 v) i.toNat (4 - i.toNat)
          rw [show i.toNat + (4 - i.toNat) = 4 by omega] at hm0
          have hm1 := x_sum_mono (@x_bF0 v) (i + 1).toNat (4 - (i + 1).toNat)
          rw [show (i + 1).toNat + (4 - (i + 1).toNat) = 4 by omega, g_sum_i h3.1.1, show x_bF v i = 1 from if_neg (by rw [← h3.2]; exact hnz)] at hm1
          have hr2 : I 1 1 + g_sum (x_bF v) 4 ≤ 240 := hr
          have hX1 : X 1 1 = I 1 1 + g_sum (x_bF v) i.toNat := by rw [h4]; exact x_apn i.toNat (by omega)
          have hX2 := hqX.2.1
          refine g_aldn hc dX13_put_20 rfl ?_
          refine g_getRk hc lk_X13_9 ca_703 (rc_703_1 hR) dX13_put_21 ?_
          refine g_aldn hc dX13_put_24 rfl ?_
          refine g_getIe hc lk_X13_115 ca_703 6 rfl (show Mk 703 6 = X 1 1 from hqX.1) dX13_put_25 ?_
          refine g_iload_n hc dX13_put_28 rfl ?_
          refine g_iload_n hc dX13_put_29 rfl ?_
          refine g_ishr hc dX13_put_30 ?_
          refine g_i2b hc dX13_put_31 ?_
          refine g_bast' hc ca_704 (by decide) (by omega) (by omega) x_nb dX13_put_32 (fun I3 hI3 => ?_)
          have hgI3 : ∀ (a : Nat) (c : Int), g32 (I3 a c) := by rw [hI3]; exact x_up32 hgMk (show g32 _ from ⟨by omega, by omega⟩)
          have hfI3 : ∀ (a : Nat) (c : Int), ¬ x_tp a c → I3 a c = M a c := fun a c hk => by rw [hI3]; exact (g_up_n (by unfold x_tp at hk; omega)).trans (hfMk a c hk)
          refine g_aldn hc dX13_put_33 rfl ?_
          refine g_dup hc dX13_put_34 rfl ?_
          refine g_getIe hc lk_X13_115 ca_703 6 rfl (show I3 703 6 = X 1 1 from by rw [hI3, g_up_k (by decide)]; exact hqX.1) dX13_put_35 ?_
          refine g_iconst hc dX13_put_38 ?_
          refine g_iadd hc dX13_put_39 ?_
          refine g_putI' hc lk_X13_115 ca_703 6 rfl dX13_put_40 (fun I4 hI4 => ?_)
          have hgI4 : ∀ (a : Nat) (c : Int), g32 (I4 a c) := by rw [hI4]; exact x_up32 hgI3 (show g32 _ from ⟨by omega, by omega⟩)
          have hfI4 : ∀ (a : Nat) (c : Int), ¬ x_tp a c → I4 a c = M a c := fun a c hk => by rw [hI4]; exact (g_up_n (by unfold x_tp at hk; omega)).trans (hfI3 a c hk)
          have hq2 : q_tap (g_ap1 X (g_by v h)) I4 := q_ap1 hqX hnz (by omega) hbh.2.1 hbh.2.2 (by rw [hI4, hI3])
          refine g_iinc_2 hc dX13_put_43 rfl ?_
          refine g_goto (tgt := 3) hc dX13_put_46 (by decide) ?_
          refine ih_3 (i + 1) _ (g_apn I v (i + 1).toNat) _ ?_ ?_ ?_ ?_ ?_ ?_
          · show (0 ≤ i + 1 ∧ i + 1 ≤ 4) ∧ _ = 24 - 8 * (i + 1); omega
          · rfl
          · rw [g_apn_i h3.1.1, ← h4, ← h3.2]; exact hq2
          · exact hgI4
          · exact hfI4
          · omega
        · skip
          have hz0 : g_by v h = 0 := by rw [← (hby (by omega)).1]; omega
          refine g_goto (tgt := 43) hc dX13_put_17 (by decide) ?_
          refine g_iinc_2 hc dX13_put_43 rfl ?_
          refine g_goto (tgt := 3) hc dX13_put_46 (by decide) ?_
          refine ih_3 (i + 1) _ (g_apn I v (i + 1).toNat) _ ?_ ?_ ?_ ?_ ?_ ?_
          · show (0 ≤ i + 1 ∧ i + 1 ≤ 4) ∧ _ = 24 - 8 * (i + 1); omega
          · rfl
          · rw [g_apn_i h3.1.1, ← h4, ← h3.2, g_ap1, if_neg (fun z => z.1 hz0)]; exact hqX
          · exact hgMk
          · exact hfMk
          · omega
  refine lp_3 5 0 _ I _ ?_ ?_ ?_ ?_ ?_ (?_)
  · exact ⟨⟨by decide, by decide⟩, by decide⟩
  · rfl
  · exact hq
  · exact hgM
  · exact hfM
  · omega
/-- five numbers fed -/
def x_fdn (I : g_I) (a b c d e : Int) : Int := I 1 1 + g_bin a + g_bin b + g_bin c + g_bin d + g_bin e
def x_fed (I : g_I) (a b c d e : Int) : g_I := g_apd (g_apd (g_apd (g_apd (g_apd I a) b) c) d) e
set_option maxHeartbeats 4000000 in
set_option maxRecDepth 100000 in
/-- X13_feed -/
theorem c_X13_feed (w : g_W) {I : g_I} {J : g_J} {R : g_R} {lb tx : Nat} (hR : g_rf w R lb tx) {M : g_I} (hg : ∀ k j, g32 (M k j)) {a b c d e : Int} (ga : g32 a) (gb : g32 b) (gc : g32 c) (gd : g32 d) (ge : g32 e) (hq : q_tap I M) : g_Met w g_n M J R yX13_feed cX13_feed 6 (some .int) 1 0 0 [(gvr w 703), (gvI a), (gvI b), (gvI c), (gvI d), (gvI e)] (fun rr nn II JJ RR => x_pl (some (gvI (if 240 < x_fdn I a b c d e then -1 else x_fdn I a b c d e))) x_tp M J R rr nn II JJ RR ∧ q_tap (if 240 < x_fdn I a b c d e then I else x_fed I a b c d e) II) := by
  refine g_intro (own := RX13) [some (gvr w 703), some (gvI a), some (gvI b), some (gvI c), some (gvI d), some (gvI e)] (by decide +kernel) rfl (by decide) (Nat.le_of_ble_eq_true rfl) rfl (fun i v hv => g_args 0 i v hv rfl) (fun x hc hm => ?_)
  have hfM : ∀ (k : Nat) (j : Int), ¬ x_tp k j → M k j = M k j := fun _ _ _ => rfl
  have hgM := hg
  have hI := hg
  have hn9 := hq.2.1
  have ba := @g_bin0 a
  have bb := @g_bin0 b
  have bc := @g_bin0 c
  have bd := @g_bin0 d
  have be := @g_bin0 e
  refine g_aldn hc dX13_feed_0 rfl ?_
  refine g_iconst hc dX13_feed_1 ?_
  refine g_putI' hc lk_X13_102 ca_703 0 rfl dX13_feed_2 (fun I3 hI3 => ?_)
  have hgI3 : ∀ (a : Nat) (c : Int), g32 (I3 a c) := by rw [hI3]; exact x_up32 hgM (show g32 _ from ⟨by decide, by decide⟩)
  have hfI3 : ∀ (a : Nat) (c : Int), ¬ x_tp a c → I3 a c = M a c := fun a c hk => by rw [hI3]; exact (g_up_n (by unfold x_tp at hk; omega)).trans (hfM a c hk)
  have hq0 : q_tap I I3 := ⟨by rw [hI3, g_up_i (by decide)]; exact hq.1, hq.2.1, fun j => by rw [hI3, g_up_k (by decide)]; exact hq.2.2.1 j, fun j => by rw [hI3, g_up_k (by decide)]; exact hq.2.2.2 j⟩
  refine g_aldn hc dX13_feed_5 rfl ?_
  refine g_getIe hc lk_X13_115 ca_703 6 rfl (show I3 703 6 = I 1 1 from hq0.1) dX13_feed_6 ?_
  refine g_iload_n hc dX13_feed_9 rfl ?_
  refine g_S1r hc (c_X13_bytesIn w hR hgI3 (by first | assumption | exact hI _ _ | exact hxI2 _ _ | exact hIa _ _ | exact hIb _ _ | exact g_b32 | exact g_and32 | assumption | exact ⟨by omega, by omega⟩)) my_X13_bytesIn ms_X13_bytesIn lm_X13_117 rfl (by decide) (Nat.le_of_ble_eq_true rfl) hm dX13_feed_10 ?_
  refine g_iadd hc dX13_feed_13 ?_
  refine g_iload_n hc dX13_feed_14 rfl ?_
  refine g_S1r hc (c_X13_bytesIn w hR hgI3 (by first | assumption | exact hI _ _ | exact hxI2 _ _ | exact hIa _ _ | exact hIb _ _ | exact g_b32 | exact g_and32 | assumption | exact ⟨by omega, by omega⟩)) my_X13_bytesIn ms_X13_bytesIn lm_X13_117 rfl (by decide) (Nat.le_of_ble_eq_true rfl) hm dX13_feed_15 ?_
  refine g_iadd hc dX13_feed_18 ?_
  refine g_iload_n hc dX13_feed_19 rfl ?_
  refine g_S1r hc (c_X13_bytesIn w hR hgI3 (by first | assumption | exact hI _ _ | exact hxI2 _ _ | exact hIa _ _ | exact hIb _ _ | exact g_b32 | exact g_and32 | assumption | exact ⟨by omega, by omega⟩)) my_X13_bytesIn ms_X13_bytesIn lm_X13_117 rfl (by decide) (Nat.le_of_ble_eq_true rfl) hm dX13_feed_20 ?_
  refine g_iadd hc dX13_feed_23 ?_
  refine g_iload hc dX13_feed_24 rfl ?_
  refine g_S1r hc (c_X13_bytesIn w hR hgI3 (by first | assumption | exact hI _ _ | exact hxI2 _ _ | exact hIa _ _ | exact hIb _ _ | exact g_b32 | exact g_and32 | assumption | exact ⟨by omega, by omega⟩)) my_X13_bytesIn ms_X13_bytesIn lm_X13_117 rfl (by decide) (Nat.le_of_ble_eq_true rfl) hm dX13_feed_26 ?_
  refine g_iadd hc dX13_feed_29 ?_
  refine g_iload hc dX13_feed_30 rfl ?_
  refine g_S1r hc (c_X13_bytesIn w hR hgI3 (by first | assumption | exact hI _ _ | exact hxI2 _ _ | exact hIa _ _ | exact hIb _ _ | exact g_b32 | exact g_and32 | assumption | exact ⟨by omega, by omega⟩)) my_X13_bytesIn ms_X13_bytesIn lm_X13_117 rfl (by decide) (Nat.le_of_ble_eq_true rfl) hm dX13_feed_32 ?_
  refine g_iadd hc dX13_feed_35 ?_
  refine g_sipush hc dX13_feed_36 (by decide +kernel) ?_
  refine g_icmp_le (tgt := 44) hc dX13_feed_39 (by decide) (by first | exact hI _ _ | exact hxI2 _ _ | exact hIa _ _ | exact hIb _ _ | exact g_b32 | exact g_and32 | assumption | exact ⟨by omega, by omega⟩) (by first | exact hI _ _ | exact hxI2 _ _ | exact hIa _ _ | exact hIb _ _ | exact g_b32 | exact g_and32 | assumption | exact ⟨by omega, by omega⟩) (fun c1 => ?_) (fun c1 => ?_)
  · skip
    have hov : ¬ 240 < x_fdn I a b c d e := by unfold x_fdn; omega
    have xa := @x_apd I a (by omega)
    refine g_aldn hc dX13_feed_44 rfl ?_
    refine g_iload_n hc dX13_feed_45 rfl ?_
    refine g_V1 hc (c_X13_put w hR hgI3 ga hq0 (by omega)) my_X13_put mv_X13_put ca_703 rfl rfl lm_X13_121 rfl (by decide) (Nat.le_of_ble_eq_true rfl) hm dX13_feed_46 (fun r4 n4 I4 J4 R4 hp4 => ?_)
    obtain ⟨⟨rfl, rfl, rfl, rfl, hK4, hgI4⟩, hq4⟩ := hp4
    have hfI4 : ∀ (k : Nat) (j : Int), ¬ x_tp k j → I4 k j = M k j := fun k j hk => (hK4 k j hk).trans (hfI3 k j hk)
    have hqA := hq4
    have xb := @x_apd (g_apd I a) b (by rw [xa]; omega)
    rw [xa] at xb
    refine g_aldn hc dX13_feed_49 rfl ?_
    refine g_iload_n hc dX13_feed_50 rfl ?_
    refine g_V1 hc (c_X13_put w hR hgI4 gb hqA (by rw [xa]; omega)) my_X13_put mv_X13_put ca_703 rfl rfl lm_X13_121 rfl (by decide) (Nat.le_of_ble_eq_true rfl) hm dX13_feed_51 (fun r5 n5 I5 J5 R5 hp5 => ?_)
    obtain ⟨⟨rfl, rfl, rfl, rfl, hK5, hgI5⟩, hq5⟩ := hp5
    have hfI5 : ∀ (k : Nat) (j : Int), ¬ x_tp k j → I5 k j = M k j := fun k j hk => (hK5 k j hk).trans (hfI4 k j hk)
    have hqB := hq5
    have xc := @x_apd (g_apd (g_apd I a) b) c (by rw [xb]; omega)
    rw [xb] at xc
    refine g_aldn hc dX13_feed_54 rfl ?_
    refine g_iload_n hc dX13_feed_55 rfl ?_
    refine g_V1 hc (c_X13_put w hR hgI5 gc hqB (by rw [xb]; omega)) my_X13_put mv_X13_put ca_703 rfl rfl lm_X13_121 rfl (by decide) (Nat.le_of_ble_eq_true rfl) hm dX13_feed_56 (fun r6 n6 I6 J6 R6 hp6 => ?_)
    obtain ⟨⟨rfl, rfl, rfl, rfl, hK6, hgI6⟩, hq6⟩ := hp6
    have hfI6 : ∀ (k : Nat) (j : Int), ¬ x_tp k j → I6 k j = M k j := fun k j hk => (hK6 k j hk).trans (hfI5 k j hk)
    have hqC := hq6
    have xd := @x_apd (g_apd (g_apd (g_apd I a) b) c) d (by rw [xc]; omega)
    rw [xc] at xd
    refine g_aldn hc dX13_feed_59 rfl ?_
    refine g_iload hc dX13_feed_60 rfl ?_
    refine g_V1 hc (c_X13_put w hR hgI6 gd hqC (by rw [xc]; omega)) my_X13_put mv_X13_put ca_703 rfl rfl lm_X13_121 rfl (by decide) (Nat.le_of_ble_eq_true rfl) hm dX13_feed_62 (fun r7 n7 I7 J7 R7 hp7 => ?_)
    obtain ⟨⟨rfl, rfl, rfl, rfl, hK7, hgI7⟩, hq7⟩ := hp7
    have hfI7 : ∀ (k : Nat) (j : Int), ¬ x_tp k j → I7 k j = M k j := fun k j hk => (hK7 k j hk).trans (hfI6 k j hk)
    have hqD := hq7
    have xe := @x_apd (g_apd (g_apd (g_apd (g_apd I a) b) c) d) e (by rw [xd]; omega)
    rw [xd] at xe
    refine g_aldn hc dX13_feed_65 rfl ?_
    refine g_iload hc dX13_feed_66 rfl ?_
    refine g_V1 hc (c_X13_put w hR hgI7 ge hqD (by rw [xd]; omega)) my_X13_put mv_X13_put ca_703 rfl rfl lm_X13_121 rfl (by decide) (Nat.le_of_ble_eq_true rfl) hm dX13_feed_68 (fun r8 n8 I8 J8 R8 hp8 => ?_)
    obtain ⟨⟨rfl, rfl, rfl, rfl, hK8, hgI8⟩, hq8⟩ := hp8
    have hfI8 : ∀ (k : Nat) (j : Int), ¬ x_tp k j → I8 k j = M k j := fun k j hk => (hK8 k j hk).trans (hfI7 k j hk)
    have hqE := hq8
    refine g_aldn hc dX13_feed_71 rfl ?_
    refine g_getIe hc lk_X13_115 ca_703 6 rfl (show I8 703 6 = x_fdn I a b c d e from by rw [hqE.1, xe]; rfl) dX13_feed_72 ?_
    refine g_iret hc hm dX13_feed_75 ?_
    exact ⟨⟨by rw [if_neg hov], rfl, rfl, rfl, hfI8, hgI8⟩, by rw [if_neg hov]; exact hqE⟩
  · skip
    have hov : 240 < x_fdn I a b c d e := by unfold x_fdn; omega
    refine g_iconst hc dX13_feed_42 ?_
    refine g_iret hc hm dX13_feed_43 ?_
    exact ⟨⟨by rw [if_pos hov], rfl, rfl, rfl, hfI3, hgI3⟩, by rw [if_pos hov]; exact hq0⟩
set_option maxHeartbeats 4000000 in
set_option maxRecDepth 100000 in
/-- X13_end -/
theorem c_X13_end (w : g_W) {I : g_I} {J : g_J} {R : g_R} {lb tx : Nat} (hR : g_rf w R lb tx) {M : g_I} (hg : ∀ k j, g32 (M k j)) {n : Int} (g1 : g32 n) (hq : q_tap I M) : g_Met w g_n M J R yX13_end cX13_end 2 (some .boolean) 0 0 0 [(gvr w 703), (gvI n)] (fun rr nn II JJ RR => x_pl (some (gvI (g_b (0 ≤ n ∧ n ≤ I 1 1)))) x_tp M J R rr nn II JJ RR ∧ q_tap (if (0 ≤ n ∧ n ≤ I 1 1) then g_up I 1 1 n else I) II) := by
  refine g_intro (own := RX13) [some (gvr w 703), some (gvI n)] (by decide +kernel) rfl (by decide) (Nat.le_of_ble_eq_true rfl) rfl (fun i v hv => g_args 0 i v hv rfl) (fun x hc hm => ?_)
  have hfM : ∀ (k : Nat) (j : Int), ¬ x_tp k j → M k j = M k j := fun _ _ _ => rfl
  have hgM := hg
  have hI := hg
  have hn9 := hq.2.1
  refine g_aldn hc dX13_end_0 rfl ?_
  refine g_iconst hc dX13_end_1 ?_
  refine g_putI' hc lk_X13_102 ca_703 0 rfl dX13_end_2 (fun I3 hI3 => ?_)
  have hgI3 : ∀ (a : Nat) (c : Int), g32 (I3 a c) := by rw [hI3]; exact x_up32 hgM (show g32 _ from ⟨by decide, by decide⟩)
  have hfI3 : ∀ (a : Nat) (c : Int), ¬ x_tp a c → I3 a c = M a c := fun a c hk => by rw [hI3]; exact (g_up_n (by unfold x_tp at hk; omega)).trans (hfM a c hk)
  have hq0 : q_tap I I3 := ⟨by rw [hI3, g_up_i (by decide)]; exact hq.1, hq.2.1, fun j => by rw [hI3, g_up_k (by decide)]; exact hq.2.2.1 j, fun j => by rw [hI3, g_up_k (by decide)]; exact hq.2.2.2 j⟩
  refine g_iload_n hc dX13_end_5 rfl ?_
  refine g_if_lt (tgt := 17) hc dX13_end_6 (by decide) (by first | exact hI _ _ | exact hxI2 _ _ | exact hIa _ _ | exact hIb _ _ | exact g_b32 | exact g_and32 | assumption | exact ⟨by omega, by omega⟩) (fun c1 => ?_) (fun c1 => ?_)
  · skip
    refine g_iconst hc dX13_end_17 ?_
    refine g_zret hc hm (by first | exact g_b01 | omega) dX13_end_18 ?_
    exact ⟨⟨by rw [g_b0 (by omega)], rfl, rfl, rfl, hfI3, hgI3⟩, by rw [if_neg (by omega)]; exact hq0⟩
  · skip
    refine g_iload_n hc dX13_end_9 rfl ?_
    refine g_aldn hc dX13_end_10 rfl ?_
    refine g_getIe hc lk_X13_115 ca_703 6 rfl (show I3 703 6 = I 1 1 from hq0.1) dX13_end_11 ?_
    refine g_icmp_le (tgt := 19) hc dX13_end_14 (by decide) (by first | exact hI _ _ | exact hxI2 _ _ | exact hIa _ _ | exact hIb _ _ | exact g_b32 | exact g_and32 | assumption | exact ⟨by omega, by omega⟩) (by first | exact hI _ _ | exact hxI2 _ _ | exact hIa _ _ | exact hIb _ _ | exact g_b32 | exact g_and32 | assumption | exact ⟨by omega, by omega⟩) (fun c2 => ?_) (fun c2 => ?_)
    · skip
      refine g_aldn hc dX13_end_19 rfl ?_
      refine g_iload_n hc dX13_end_20 rfl ?_
      refine g_putI' hc lk_X13_115 ca_703 6 rfl dX13_end_21 (fun I4 hI4 => ?_)
      have hgI4 : ∀ (a : Nat) (c : Int), g32 (I4 a c) := by rw [hI4]; exact x_up32 hgI3 (g1)
      have hfI4 : ∀ (a : Nat) (c : Int), ¬ x_tp a c → I4 a c = M a c := fun a c hk => by rw [hI4]; exact (g_up_n (by unfold x_tp at hk; omega)).trans (hfI3 a c hk)
      have hq0 : q_tap (g_up I 1 1 n) I4 := ⟨by rw [hI4, g_up_s, g_up_s], by rw [g_up_s]; omega, fun j => by rw [hI4, g_up_k (by decide), g_up_k (by decide)]; exact hq0.2.2.1 j, fun j => by rw [hI4, g_up_k (by decide)]; exact hq0.2.2.2 j⟩
      refine g_iconst hc dX13_end_24 ?_
      refine g_zret hc hm (by first | exact g_b01 | omega) dX13_end_25 ?_
      exact ⟨⟨by rw [g_b1 (by omega)], rfl, rfl, rfl, hfI4, hgI4⟩, by rw [if_pos (by omega)]; exact hq0⟩
    · skip
      refine g_iconst hc dX13_end_17 ?_
      refine g_zret hc hm (by first | exact g_b01 | omega) dX13_end_18 ?_
      exact ⟨⟨by rw [g_b0 (by omega)], rfl, rfl, rfl, hfI3, hgI3⟩, by rw [if_neg (by omega)]; exact hq0⟩
