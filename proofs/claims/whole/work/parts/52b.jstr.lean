theorem g_tl0 {i : Nat} (hi : i < 12) : g_shr (g_tln i) 0 = g_tln i := by
  have h : ∀ i : Fin 12, g_shr (g_tln i.val) 0 = g_tln i.val := by decide +kernel
  exact h ⟨i, hi⟩
set_option maxHeartbeats 4000000 in
set_option maxRecDepth 100000 in
/-- J0_isLatin1_aae02 -/
theorem c_J0_isLatin1_aae02 (w : g_W) {I : g_I} {J : g_J} {R : g_R} {i : Nat} (hi : i < 12) : g_Met w g_n I J R yJ0_isLatin1_aae02 cJ0_isLatin1_aae02 1 (some .boolean) 0 0 0 [(.ref (w.2.2.2.2 (100 + i)))] (g_post (some (gvI (1))) g_n I J R) := by
  refine g_intro (own := RJ0) [some (.ref (w.2.2.2.2 (100 + i)))] (by decide +kernel) rfl (by decide) (Nat.le_of_ble_eq_true rfl) rfl (fun i v hv => g_args 0 i v hv rfl) (fun x hc hm => ?_)
  have htl := g_tln_in (i := i)
  refine g_sCS hc jl_J0_38 dJ0_isLatin1_aae02_0 ?_
  refine g_if_eq (tgt := 17) hc dJ0_isLatin1_aae02_3 (by decide) (show g32 _ from ⟨by decide, by decide⟩) (fun c1 => ?_) (fun c1 => ?_)
  · exfalso; omega
  · skip
    refine g_aload_n hc dJ0_isLatin1_aae02_6 rfl ?_
    refine g_sCod (i := i) hc hi jl_J0_15 dJ0_isLatin1_aae02_7 ?_
    refine g_if_ne (tgt := 17) hc dJ0_isLatin1_aae02_10 (by decide) (show g32 _ from ⟨by decide, by decide⟩) (fun c2 => ?_) (fun c2 => ?_)
    · exfalso; omega
    · skip
      refine g_iconst hc dJ0_isLatin1_aae02_13 ?_
      refine g_goto (tgt := 18) hc dJ0_isLatin1_aae02_14 (by decide) ?_
      refine g_zret hc hm (by first | exact Or.inr rfl | exact Or.inl rfl) dJ0_isLatin1_aae02_18 ?_
      exact ⟨rfl, rfl, rfl, rfl, rfl⟩
set_option maxHeartbeats 4000000 in
set_option maxRecDepth 100000 in
/-- J0_coder_7d493 -/
theorem c_J0_coder_7d493 (w : g_W) {I : g_I} {J : g_J} {R : g_R} {i : Nat} (hi : i < 12) : g_Met w g_n I J R yJ0_coder_7d493 cJ0_coder_7d493 1 (some .byte) 0 0 0 [(.ref (w.2.2.2.2 (100 + i)))] (g_post (some (gvI (0))) g_n I J R) := by
  refine g_intro (own := RJ0) [some (.ref (w.2.2.2.2 (100 + i)))] (by decide +kernel) rfl (by decide) (Nat.le_of_ble_eq_true rfl) rfl (fun i v hv => g_args 0 i v hv rfl) (fun x hc hm => ?_)
  have htl := g_tln_in (i := i)
  refine g_sCS hc jl_J0_38 dJ0_coder_7d493_0 ?_
  refine g_if_eq (tgt := 13) hc dJ0_coder_7d493_3 (by decide) (show g32 _ from ⟨by decide, by decide⟩) (fun c1 => ?_) (fun c1 => ?_)
  · exfalso; omega
  · skip
    refine g_aload_n hc dJ0_coder_7d493_6 rfl ?_
    refine g_sCod (i := i) hc hi jl_J0_15 dJ0_coder_7d493_7 ?_
    refine g_goto (tgt := 14) hc dJ0_coder_7d493_10 (by decide) ?_
    refine g_nret hc hm (by decide +kernel) dJ0_coder_7d493_14 ?_
    exact ⟨rfl, rfl, rfl, rfl, rfl⟩
set_option maxHeartbeats 4000000 in
set_option maxRecDepth 100000 in
/-- J0_length_8abf5 -/
theorem c_J0_length_8abf5 (w : g_W) {I : g_I} {J : g_J} {R : g_R} {i : Nat} (hi : i < 12) : g_Met w g_n I J R yJ0_length_8abf5 cJ0_length_8abf5 1 (some .int) 1 0 0 [(.ref (w.2.2.2.2 (100 + i)))] (g_post (some (gvI (g_tln i))) g_n I J R) := by
  refine g_intro (own := RJ0) [some (.ref (w.2.2.2.2 (100 + i)))] (by decide +kernel) rfl (by decide) (Nat.le_of_ble_eq_true rfl) rfl (fun i v hv => g_args 0 i v hv rfl) (fun x hc hm => ?_)
  have htl := g_tln_in (i := i)
  refine g_aload_n hc dJ0_length_8abf5_0 rfl ?_
  refine g_sVal (i := i) hc hi jl_J0_9 dJ0_length_8abf5_1 ?_
  refine g_sLen (i := i) hc hi dJ0_length_8abf5_4 ?_
  refine g_aload_n hc dJ0_length_8abf5_5 rfl ?_
  refine g_T0r (i := i) hi hc (c_J0_coder_7d493 w hi) my_J0_coder_7d493 mv_J0_coder_7d493 rfl lm_J0_335 rfl (by decide) (Nat.le_of_ble_eq_true rfl) hm dJ0_length_8abf5_6 ?_
  refine g_ishr hc dJ0_length_8abf5_9 ?_
  refine g_iret hc hm dJ0_length_8abf5_10 ?_
  exact ⟨by rw [g_tl0 hi], rfl, rfl, rfl, rfl⟩
set_option maxHeartbeats 4000000 in
set_option maxRecDepth 100000 in
/-- J1_canEncode_9a6ad -/
theorem c_J1_canEncode_9a6ad (w : g_W) {I : g_I} {J : g_J} {R : g_R} {c : Int} (h1 : g32 c) : g_Met w g_n I J R yJ1_canEncode_9a6ad cJ1_canEncode_9a6ad 1 (some .boolean) 0 0 0 [(gvI c)] (g_post (some (gvI (g_b (0 ≤ c ∧ c ≤ 255)))) g_n I J R) := by
  refine g_intro (own := RJ1) [some (gvI c)] (by decide +kernel) rfl (by decide) (Nat.le_of_ble_eq_true rfl) rfl (fun i v hv => g_args 0 i v hv rfl) (fun x hc hm => ?_)
  refine g_iload_n hc dJ1_canEncode_9a6ad_0 rfl ?_
  refine g_if_lt (tgt := 15) hc dJ1_canEncode_9a6ad_1 (by decide) (by first | exact hI _ _ | exact hxI2 _ _ | exact hIa _ _ | exact hIb _ _ | exact g_b32 | exact g_and32 | assumption | exact ⟨by omega, by omega⟩) (fun c1 => ?_) (fun c1 => ?_)
  · skip
    refine g_iconst hc dJ1_canEncode_9a6ad_15 ?_
    refine g_zret hc hm (by first | exact g_b01 | omega) dJ1_canEncode_9a6ad_16 ?_
    first | (exfalso; omega) | exact ⟨rfl, rfl, rfl, rfl, rfl⟩ | exact ⟨by rw [g_b1 (by omega)], rfl, rfl, rfl, rfl⟩ | exact ⟨by rw [g_b0 (by omega)], rfl, rfl, rfl, rfl⟩
  · skip
    refine g_iload_n hc dJ1_canEncode_9a6ad_4 rfl ?_
    refine g_sipush hc dJ1_canEncode_9a6ad_5 (by decide +kernel) ?_
    refine g_icmp_gt (tgt := 15) hc dJ1_canEncode_9a6ad_8 (by decide) (by first | exact hI _ _ | exact hxI2 _ _ | exact hIa _ _ | exact hIb _ _ | exact g_b32 | exact g_and32 | assumption | exact ⟨by omega, by omega⟩) (by first | exact hI _ _ | exact hxI2 _ _ | exact hIa _ _ | exact hIb _ _ | exact g_b32 | exact g_and32 | assumption | exact ⟨by omega, by omega⟩) (fun c2 => ?_) (fun c2 => ?_)
    · skip
      refine g_iconst hc dJ1_canEncode_9a6ad_15 ?_
      refine g_zret hc hm (by first | exact g_b01 | omega) dJ1_canEncode_9a6ad_16 ?_
      first | (exfalso; omega) | exact ⟨rfl, rfl, rfl, rfl, rfl⟩ | exact ⟨by rw [g_b1 (by omega)], rfl, rfl, rfl, rfl⟩ | exact ⟨by rw [g_b0 (by omega)], rfl, rfl, rfl, rfl⟩
    · skip
      refine g_iconst hc dJ1_canEncode_9a6ad_11 ?_
      refine g_goto (tgt := 16) hc dJ1_canEncode_9a6ad_12 (by decide) ?_
      refine g_zret hc hm (by first | exact g_b01 | omega) dJ1_canEncode_9a6ad_16 ?_
      first | (exfalso; omega) | exact ⟨rfl, rfl, rfl, rfl, rfl⟩ | exact ⟨by rw [g_b1 (by omega)], rfl, rfl, rfl, rfl⟩ | exact ⟨by rw [g_b0 (by omega)], rfl, rfl, rfl, rfl⟩
set_option maxHeartbeats 4000000 in
set_option maxRecDepth 100000 in
/-- J1_indexOfChar_4cfef -/
theorem c_J1_indexOfChar_4cfef (w : g_W) {I : g_I} {J : g_J} {R : g_R} {i : Nat} (hi : i < 12) {c a e : Int} (h1 : 0 ≤ c ∧ c ≤ 255) (h2 : a = 0) (h3 : e = g_tln i) : g_Met w g_n I J R yJ1_indexOfChar_4cfef cJ1_indexOfChar_4cfef 6 (some .int) 0 0 0 [(.ref (w.2.2.2.2 (200 + i))), (gvI c), (gvI a), (gvI e)] (g_post (some (gvI (g_inx i c))) g_n I J R) := by
  refine g_intro (own := RJ1) [some (.ref (w.2.2.2.2 (200 + i))), some (gvI c), some (gvI a), some (gvI e), none, none] (by decide +kernel) rfl (by decide) (Nat.le_of_ble_eq_true rfl) rfl (fun i v hv => g_args 2 i v hv rfl) (fun x hc hm => ?_)
  have htl := g_tln_in (i := i)
  refine g_iload_n hc dJ1_indexOfChar_4cfef_0 rfl ?_
  refine g_i2b hc dJ1_indexOfChar_4cfef_1 ?_
  refine g_istore_4 hc dJ1_indexOfChar_4cfef_2 rfl ?_
  refine g_iload_n hc dJ1_indexOfChar_4cfef_4 rfl ?_
  refine g_istore_5 hc dJ1_indexOfChar_4cfef_5 rfl ?_
  have lp_7 : ∀ (fu : Nat) (k : Int), 0 ≤ k ∧ k ≤ g_tln i → g_inx i c = g_first (fun j => decide (g_tx i j = c)) (g_tln i - k).toNat k → g_tln i - k < (fu : Int) → G w x (g_post (some (gvI (g_inx i c))) g_n I J R) 0 0 g_n I J R 7 [some (.ref (w.2.2.2.2 (200 + i))), some (gvI c), some (gvI a), some (gvI e), some (gvI (g_i2b' c)), some (gvI k)] [] := by
    intro fu
    induction fu with
    | zero => intro k h4 h5 hfu; exfalso; omega
    | succ fu ih =>
      intro k h4 h5 hfu
      have ih_7 := ih
      refine g_iload hc dJ1_indexOfChar_4cfef_7 rfl ?_
      refine g_iload_n hc dJ1_indexOfChar_4cfef_9 rfl ?_
      refine g_icmp_ge (tgt := 31) hc dJ1_indexOfChar_4cfef_10 (by decide) (by first | exact hI _ _ | exact hxI2 _ _ | exact hIa _ _ | exact hIb _ _ | exact g_b32 | exact g_and32 | assumption | exact ⟨by omega, by omega⟩) (by first | exact hI _ _ | exact hxI2 _ _ | exact hIa _ _ | exact hIb _ _ | exact g_b32 | exact g_and32 | assumption | exact ⟨by omega, by omega⟩) (fun c1 => ?_) (fun c1 => ?_)
      · skip
        refine g_iconst hc dJ1_indexOfChar_4cfef_31 ?_
        refine g_iret hc hm dJ1_indexOfChar_4cfef_32 ?_
        exact ⟨by rw [h5, g_first_e (by omega)], rfl, rfl, rfl, rfl⟩
      · skip
        obtain ⟨-, -, htx⟩ := g_txc hi h4.1 (show k < g_tln i by omega)
        refine g_aload_n hc dJ1_indexOfChar_4cfef_13 rfl ?_
        refine g_iload hc dJ1_indexOfChar_4cfef_14 rfl ?_
        refine g_sByt (i := i) hc hi (by omega) (by omega) dJ1_indexOfChar_4cfef_16 ?_
        refine g_iload hc dJ1_indexOfChar_4cfef_17 rfl ?_
        refine g_icmp_ne (tgt := 25) hc dJ1_indexOfChar_4cfef_19 (by decide) g_tx32 (g32_of _) (fun c2 => ?_) (fun c2 => ?_)
        · skip
          refine g_iinc_5 hc dJ1_indexOfChar_4cfef_25 rfl ?_
          refine g_goto (tgt := 7) hc dJ1_indexOfChar_4cfef_28 (by decide) ?_
          refine ih_7 _ ?_ ?_ ?_
          · omega
          · rw [h5, g_first_f (by omega) (by simp only [decide_eq_true_eq]; exact fun z => c2 ((g_i2bc h1 ⟨htx.1, htx.2⟩).mpr z))]
          · omega
        · skip
          refine g_iload hc dJ1_indexOfChar_4cfef_22 rfl ?_
          refine g_iret hc hm dJ1_indexOfChar_4cfef_24 ?_
          exact ⟨by rw [h5, g_first_t (by omega) (by simp only [decide_eq_true_eq]; exact (g_i2bc h1 ⟨htx.1, htx.2⟩).mp c2)], rfl, rfl, rfl, rfl⟩
  refine lp_7 (g_tln i + 1).toNat _ ?_ ?_ (?_)
  · omega
  · rw [h2, Int.sub_zero]; rfl
  · omega
set_option maxHeartbeats 4000000 in
set_option maxRecDepth 100000 in
/-- J1_indexOf_4cfef -/
theorem c_J1_indexOf_4cfef (w : g_W) {I : g_I} {J : g_J} {R : g_R} {i : Nat} (hi : i < 12) {c a e : Int} (h1 : g32 c) (h2 : a = 0) (h3 : e = g_tln i) (h6 : 0 ≤ c) (h7 : 0 < g_tln i) : g_Met w g_n I J R yJ1_indexOf_4cfef cJ1_indexOf_4cfef 4 (some .int) 1 0 0 [(.ref (w.2.2.2.2 (200 + i))), (gvI c), (gvI a), (gvI e)] (g_post (some (gvI (g_inx i c))) g_n I J R) := by
  refine g_intro (own := RJ1) [some (.ref (w.2.2.2.2 (200 + i))), some (gvI c), some (gvI a), some (gvI e)] (by decide +kernel) rfl (by decide) (Nat.le_of_ble_eq_true rfl) rfl (fun i v hv => g_args 0 i v hv rfl) (fun x hc hm => ?_)
  have htl := g_tln_in (i := i)
  refine g_iload_n hc dJ1_indexOf_4cfef_0 rfl ?_
  refine g_S1r hc (c_J1_canEncode_9a6ad w (by first | exact hI _ _ | exact hxI2 _ _ | exact hIa _ _ | exact hIb _ _ | exact g_b32 | exact g_and32 | assumption | exact ⟨by omega, by omega⟩)) my_J1_canEncode_9a6ad ms_J1_canEncode_9a6ad lm_J1_88 rfl (by decide) (Nat.le_of_ble_eq_true rfl) hm dJ1_indexOf_4cfef_1 ?_
  refine g_ifb_ne (tgt := 9) hc dJ1_indexOf_4cfef_4 (by decide)  (fun c1 => ?_) (fun c1 => ?_)
  · skip
    refine g_iload_n hc dJ1_indexOf_4cfef_9 rfl ?_
    refine g_iconst hc dJ1_indexOf_4cfef_10 ?_
    refine g_mmaxI hc (by first | exact hI _ _ | exact hxI2 _ _ | exact hIa _ _ | exact hIb _ _ | exact g_b32 | exact g_and32 | assumption | exact ⟨by omega, by omega⟩) (by first | exact hI _ _ | exact hxI2 _ _ | exact hIa _ _ | exact hIb _ _ | exact g_b32 | exact g_and32 | assumption | exact ⟨by omega, by omega⟩) rfl mm_mmaxI_J1_92 mm_sta_mmaxI mm_ini mm_cod_mmaxI (by decide) (Nat.le_of_ble_eq_true rfl) hm dJ1_indexOf_4cfef_11 ?_
    refine g_istore_2 hc dJ1_indexOf_4cfef_14 rfl ?_
    refine g_iload_n hc dJ1_indexOf_4cfef_15 rfl ?_
    refine g_aload_n hc dJ1_indexOf_4cfef_16 rfl ?_
    refine g_sLen (i := i) hc hi dJ1_indexOf_4cfef_17 ?_
    refine g_mminI hc (by first | exact hI _ _ | exact hxI2 _ _ | exact hIa _ _ | exact hIb _ _ | exact g_b32 | exact g_and32 | assumption | exact ⟨by omega, by omega⟩) (by first | exact hI _ _ | exact hxI2 _ _ | exact hIa _ _ | exact hIb _ _ | exact g_b32 | exact g_and32 | assumption | exact ⟨by omega, by omega⟩) rfl mm_mminI_J1_38 mm_sta_mminI mm_ini mm_cod_mminI (by decide) (Nat.le_of_ble_eq_true rfl) hm dJ1_indexOf_4cfef_18 ?_
    refine g_istore_3 hc dJ1_indexOf_4cfef_21 rfl ?_
    refine g_iload_n hc dJ1_indexOf_4cfef_22 rfl ?_
    refine g_iload_n hc dJ1_indexOf_4cfef_23 rfl ?_
    refine g_icmp_lt (tgt := 29) hc dJ1_indexOf_4cfef_24 (by decide) (by first | exact hI _ _ | exact hxI2 _ _ | exact hIa _ _ | exact hIb _ _ | exact g_b32 | exact g_and32 | assumption | exact ⟨by omega, by omega⟩) (by first | exact hI _ _ | exact hxI2 _ _ | exact hIa _ _ | exact hIb _ _ | exact g_b32 | exact g_and32 | assumption | exact ⟨by omega, by omega⟩) (fun c2 => ?_) (fun c2 => ?_)
    · skip
      refine g_aload_n hc dJ1_indexOf_4cfef_29 rfl ?_
      refine g_iload_n hc dJ1_indexOf_4cfef_30 rfl ?_
      refine g_iload_n hc dJ1_indexOf_4cfef_31 rfl ?_
      refine g_iload_n hc dJ1_indexOf_4cfef_32 rfl ?_
      refine g_S4r hc (c_J1_indexOfChar_4cfef w hi (by omega) (by omega) (by omega)) my_J1_indexOfChar_4cfef ms_J1_indexOfChar_4cfef lm_J1_95 rfl (by decide) (Nat.le_of_ble_eq_true rfl) hm dJ1_indexOf_4cfef_33 ?_
      refine g_iret hc hm dJ1_indexOf_4cfef_36 ?_
      exact ⟨rfl, rfl, rfl, rfl, rfl⟩
    · skip
      refine g_iconst hc dJ1_indexOf_4cfef_27 ?_
      refine g_iret hc hm dJ1_indexOf_4cfef_28 ?_
      exfalso; omega
  · skip
    refine g_iconst hc dJ1_indexOf_4cfef_7 ?_
    refine g_iret hc hm dJ1_indexOf_4cfef_8 ?_
    exact ⟨by rw [g_inx_no hi (by omega)], rfl, rfl, rfl, rfl⟩
set_option maxHeartbeats 4000000 in
set_option maxRecDepth 100000 in
/-- J0_indexOf_7cf53 -/
theorem c_J0_indexOf_7cf53 (w : g_W) {I : g_I} {J : g_J} {R : g_R} {i : Nat} (hi : i < 12) {c a : Int} (h1 : g32 c) (h2 : a = 0) (h6 : 0 ≤ c) (h7 : 0 < g_tln i) : g_Met w g_n I J R yJ0_indexOf_7cf53 cJ0_indexOf_7cf53 3 (some .int) 2 0 0 [(.ref (w.2.2.2.2 (100 + i))), (gvI c), (gvI a)] (g_post (some (gvI (g_inx i c))) g_n I J R) := by
  refine g_intro (own := RJ0) [some (.ref (w.2.2.2.2 (100 + i))), some (gvI c), some (gvI a)] (by decide +kernel) rfl (by decide) (Nat.le_of_ble_eq_true rfl) rfl (fun i v hv => g_args 0 i v hv rfl) (fun x hc hm => ?_)
  have htl := g_tln_in (i := i)
  refine g_aload_n hc dJ0_indexOf_7cf53_0 rfl ?_
  refine g_T0r (i := i) hi hc (c_J0_isLatin1_aae02 w hi) my_J0_isLatin1_aae02 mv_J0_isLatin1_aae02 rfl lm_J0_492 rfl (by decide) (Nat.le_of_ble_eq_true rfl) hm dJ0_indexOf_7cf53_1 ?_
  refine g_if_eq (tgt := 23) hc dJ0_indexOf_7cf53_4 (by decide) (show g32 _ from ⟨by decide, by decide⟩) (fun c1 => ?_) (fun c1 => ?_)
  · exfalso; omega
  · skip
    refine g_aload_n hc dJ0_indexOf_7cf53_7 rfl ?_
    refine g_sVal (i := i) hc hi jl_J0_9 dJ0_indexOf_7cf53_8 ?_
    refine g_iload_n hc dJ0_indexOf_7cf53_11 rfl ?_
    refine g_iload_n hc dJ0_indexOf_7cf53_12 rfl ?_
    refine g_aload_n hc dJ0_indexOf_7cf53_13 rfl ?_
    refine g_T0r (i := i) hi hc (c_J0_length_8abf5 w hi) my_J0_length_8abf5 mv_J0_length_8abf5 rfl lm_J0_505 rfl (by decide) (Nat.le_of_ble_eq_true rfl) hm dJ0_indexOf_7cf53_14 ?_
    refine g_S4r hc (c_J1_indexOf_4cfef w hi (by first | exact hI _ _ | exact hxI2 _ _ | exact hIa _ _ | exact hIb _ _ | exact g_b32 | exact g_and32 | assumption | exact ⟨by omega, by omega⟩) (by omega) (by omega) (by omega) (by omega)) my_J1_indexOf_4cfef ms_J1_indexOf_4cfef lm_J0_637 rfl (by decide) (Nat.le_of_ble_eq_true rfl) hm dJ0_indexOf_7cf53_17 ?_
    refine g_goto (tgt := 36) hc dJ0_indexOf_7cf53_20 (by decide) ?_
    refine g_iret hc hm dJ0_indexOf_7cf53_36 ?_
    exact ⟨rfl, rfl, rfl, rfl, rfl⟩
set_option maxHeartbeats 4000000 in
set_option maxRecDepth 100000 in
/-- J0_indexOf_0f7a4 -/
theorem c_J0_indexOf_0f7a4 (w : g_W) {I : g_I} {J : g_J} {R : g_R} {i : Nat} (hi : i < 12) {c : Int} (h1 : g32 c) (h6 : 0 ≤ c) (h7 : 0 < g_tln i) : g_Met w g_n I J R yJ0_indexOf_0f7a4 cJ0_indexOf_0f7a4 2 (some .int) 3 0 0 [(.ref (w.2.2.2.2 (100 + i))), (gvI c)] (g_post (some (gvI (g_inx i c))) g_n I J R) := by
  refine g_intro (own := RJ0) [some (.ref (w.2.2.2.2 (100 + i))), some (gvI c)] (by decide +kernel) rfl (by decide) (Nat.le_of_ble_eq_true rfl) rfl (fun i v hv => g_args 0 i v hv rfl) (fun x hc hm => ?_)
  have htl := g_tln_in (i := i)
  refine g_aload_n hc dJ0_indexOf_0f7a4_0 rfl ?_
  refine g_iload_n hc dJ0_indexOf_0f7a4_1 rfl ?_
  refine g_iconst hc dJ0_indexOf_0f7a4_2 ?_
  refine g_T2r (i := i) hi hc (c_J0_indexOf_7cf53 w hi (by first | exact hI _ _ | exact hxI2 _ _ | exact hIa _ _ | exact hIb _ _ | exact g_b32 | exact g_and32 | assumption | exact ⟨by omega, by omega⟩) (by omega) (by omega) (by assumption)) my_J0_indexOf_7cf53 mv_J0_indexOf_7cf53 rfl lm_J0_633 rfl (by decide) (Nat.le_of_ble_eq_true rfl) hm dJ0_indexOf_0f7a4_3 ?_
  refine g_iret hc hm dJ0_indexOf_0f7a4_6 ?_
  exact ⟨rfl, rfl, rfl, rfl, rfl⟩
set_option maxHeartbeats 4000000 in
set_option maxRecDepth 100000 in
/-- J3_checkIndex_8e157 -/
theorem c_J3_checkIndex_8e157 (w : g_W) {I : g_I} {J : g_J} {R : g_R} {a e : Int} (h1 : 0 ≤ a ∧ a < e) (h2 : e ≤ 2000) {z : Value} (hz : z = .null ∨ ∃ a : Nat, z = .ref a) : g_Met w g_n I J R yJ3_checkIndex_8e157 cJ3_checkIndex_8e157 3 (some .int) 0 0 0 [(gvI a), (gvI e), z] (g_post (some (gvI (a))) g_n I J R) := by
  rcases hz with rfl | ⟨t, rfl⟩
  · refine g_intro (own := RJ3) [some (gvI a), some (gvI e), some .null] (by decide +kernel) rfl (by decide) (Nat.le_of_ble_eq_true rfl) rfl (fun i v hv => g_args 0 i v hv rfl) (fun x hc hm => ?_)
    refine g_iload_n hc dJ3_checkIndex_8e157_0 rfl ?_
    refine g_if_lt (tgt := 9) hc dJ3_checkIndex_8e157_1 (by decide) (by first | exact hI _ _ | exact hxI2 _ _ | exact hIa _ _ | exact hIb _ _ | exact g_b32 | exact g_and32 | assumption | exact ⟨by omega, by omega⟩) (fun c1 => ?_) (fun c1 => ?_)
    · exfalso; omega
    · skip
      refine g_iload_n hc dJ3_checkIndex_8e157_4 rfl ?_
      refine g_iload_n hc dJ3_checkIndex_8e157_5 rfl ?_
      refine g_icmp_lt (tgt := 16) hc dJ3_checkIndex_8e157_6 (by decide) (by first | exact hI _ _ | exact hxI2 _ _ | exact hIa _ _ | exact hIb _ _ | exact g_b32 | exact g_and32 | assumption | exact ⟨by omega, by omega⟩) (by first | exact hI _ _ | exact hxI2 _ _ | exact hIa _ _ | exact hIb _ _ | exact g_b32 | exact g_and32 | assumption | exact ⟨by omega, by omega⟩) (fun c2 => ?_) (fun c2 => ?_)
      · skip
        refine g_iload_n hc dJ3_checkIndex_8e157_16 rfl ?_
        refine g_iret hc hm dJ3_checkIndex_8e157_17 ?_
        exact ⟨rfl, rfl, rfl, rfl, rfl⟩
      · exfalso; omega
  · refine g_intro (own := RJ3) [some (gvI a), some (gvI e), some (.ref t)] (by decide +kernel) rfl (by decide) (Nat.le_of_ble_eq_true rfl) rfl (fun i v hv => g_args 0 i v hv rfl) (fun x hc hm => ?_)
    refine g_iload_n hc dJ3_checkIndex_8e157_0 rfl ?_
    refine g_if_lt (tgt := 9) hc dJ3_checkIndex_8e157_1 (by decide) (by first | exact hI _ _ | exact hxI2 _ _ | exact hIa _ _ | exact hIb _ _ | exact g_b32 | exact g_and32 | assumption | exact ⟨by omega, by omega⟩) (fun c1 => ?_) (fun c1 => ?_)
    · exfalso; omega
    · skip
      refine g_iload_n hc dJ3_checkIndex_8e157_4 rfl ?_
      refine g_iload_n hc dJ3_checkIndex_8e157_5 rfl ?_
      refine g_icmp_lt (tgt := 16) hc dJ3_checkIndex_8e157_6 (by decide) (by first | exact hI _ _ | exact hxI2 _ _ | exact hIa _ _ | exact hIb _ _ | exact g_b32 | exact g_and32 | assumption | exact ⟨by omega, by omega⟩) (by first | exact hI _ _ | exact hxI2 _ _ | exact hIa _ _ | exact hIb _ _ | exact g_b32 | exact g_and32 | assumption | exact ⟨by omega, by omega⟩) (fun c2 => ?_) (fun c2 => ?_)
      · skip
        refine g_iload_n hc dJ3_checkIndex_8e157_16 rfl ?_
        refine g_iret hc hm dJ3_checkIndex_8e157_17 ?_
        exact ⟨rfl, rfl, rfl, rfl, rfl⟩
      · exfalso; omega
set_option maxHeartbeats 4000000 in
set_option maxRecDepth 100000 in
/-- J0_checkIndex_df160 -/
theorem c_J0_checkIndex_df160 (w : g_W) {I : g_I} {J : g_J} {R : g_R} {a e : Int} (h1 : 0 ≤ a ∧ a < e) (h2 : e ≤ 2000) : g_Met w g_n I J R yJ0_checkIndex_df160 cJ0_checkIndex_df160 2 none 1 0 0 [(gvI a), (gvI e)] (g_post none g_n I J R) := by
  refine g_intro (own := RJ0) [some (gvI a), some (gvI e)] (by decide +kernel) rfl (by decide) (Nat.le_of_ble_eq_true rfl) rfl (fun i v hv => g_args 0 i v hv rfl) (fun x hc hm => ?_)
  refine g_iload_n hc dJ0_checkIndex_df160_0 rfl ?_
  refine g_iload_n hc dJ0_checkIndex_df160_1 rfl ?_
  refine g_sFM hc jl_J0_1053 dJ0_checkIndex_df160_2 (fun z hz => ?_)
  have hz2 := hz
  rcases hz with rfl | ⟨t, rfl⟩
  · refine g_S3r hc (c_J3_checkIndex_8e157 w (by omega) (by omega) hz2) my_J3_checkIndex_8e157 ms_J3_checkIndex_8e157 lm_J0_1059 rfl (by decide) (Nat.le_of_ble_eq_true rfl) hm dJ0_checkIndex_df160_5 ?_
    refine g_pop hc dJ0_checkIndex_df160_8 rfl ?_
    refine g_vret hc hm dJ0_checkIndex_df160_9 ?_
    exact ⟨rfl, rfl, rfl, rfl, rfl⟩
  · refine g_S3r hc (c_J3_checkIndex_8e157 w (by omega) (by omega) hz2) my_J3_checkIndex_8e157 ms_J3_checkIndex_8e157 lm_J0_1059 rfl (by decide) (Nat.le_of_ble_eq_true rfl) hm dJ0_checkIndex_df160_5 ?_
    refine g_pop hc dJ0_checkIndex_df160_8 rfl ?_
    refine g_vret hc hm dJ0_checkIndex_df160_9 ?_
    exact ⟨rfl, rfl, rfl, rfl, rfl⟩
set_option maxHeartbeats 4000000 in
set_option maxRecDepth 100000 in
/-- J1_charAt_3b067 -/
theorem c_J1_charAt_3b067 (w : g_W) {I : g_I} {J : g_J} {R : g_R} {i : Nat} (hi : i < 12) {a : Int} (h1 : 0 ≤ a ∧ a < g_tln i) : g_Met w g_n I J R yJ1_charAt_3b067 cJ1_charAt_3b067 2 (some .char) 2 0 0 [(.ref (w.2.2.2.2 (200 + i))), (gvI a)] (g_post (some (gvI (g_tx i a))) g_n I J R) := by
  refine g_intro (own := RJ1) [some (.ref (w.2.2.2.2 (200 + i))), some (gvI a)] (by decide +kernel) rfl (by decide) (Nat.le_of_ble_eq_true rfl) rfl (fun i v hv => g_args 0 i v hv rfl) (fun x hc hm => ?_)
  have htl := g_tln_in (i := i)
  refine g_iload_n hc dJ1_charAt_3b067_0 rfl ?_
  refine g_aload_n hc dJ1_charAt_3b067_1 rfl ?_
  refine g_sLen (i := i) hc hi dJ1_charAt_3b067_2 ?_
  refine g_S2v hc (c_J0_checkIndex_df160 w (by omega) (by omega)) my_J0_checkIndex_df160 ms_J0_checkIndex_df160 lm_J1_9 rfl (by decide) (Nat.le_of_ble_eq_true rfl) hm dJ1_charAt_3b067_3 ?_
  refine g_aload_n hc dJ1_charAt_3b067_6 rfl ?_
  refine g_iload_n hc dJ1_charAt_3b067_7 rfl ?_
  refine g_sByt (i := i) hc hi (by omega) (by omega) dJ1_charAt_3b067_8 ?_
  refine g_sipush hc dJ1_charAt_3b067_9 (by decide +kernel) ?_
  refine g_iand hc dJ1_charAt_3b067_12 ?_
  refine g_i2c hc dJ1_charAt_3b067_13 ?_
  obtain ⟨htx, htn, -⟩ := g_txc hi h1.1 h1.2
  rw [htx]
  refine g_nret hc hm htn dJ1_charAt_3b067_14 ?_
  exact ⟨rfl, rfl, rfl, rfl, rfl⟩
set_option maxHeartbeats 4000000 in
set_option maxRecDepth 100000 in
/-- J0_charAt_5068e -/
theorem c_J0_charAt_5068e (w : g_W) {I : g_I} {J : g_J} {R : g_R} {i : Nat} (hi : i < 12) {a : Int} (h1 : 0 ≤ a ∧ a < g_tln i) : g_Met w g_n I J R yJ0_charAt_5068e cJ0_charAt_5068e 2 (some .char) 3 0 0 [(.ref (w.2.2.2.2 (100 + i))), (gvI a)] (g_post (some (gvI (g_tx i a))) g_n I J R) := by
  refine g_intro (own := RJ0) [some (.ref (w.2.2.2.2 (100 + i))), some (gvI a)] (by decide +kernel) rfl (by decide) (Nat.le_of_ble_eq_true rfl) rfl (fun i v hv => g_args 0 i v hv rfl) (fun x hc hm => ?_)
  have htl := g_tln_in (i := i)
  refine g_aload_n hc dJ0_charAt_5068e_0 rfl ?_
  refine g_T0r (i := i) hi hc (c_J0_isLatin1_aae02 w hi) my_J0_isLatin1_aae02 mv_J0_isLatin1_aae02 rfl lm_J0_492 rfl (by decide) (Nat.le_of_ble_eq_true rfl) hm dJ0_charAt_5068e_1 ?_
  refine g_if_eq (tgt := 16) hc dJ0_charAt_5068e_4 (by decide) (show g32 _ from ⟨by decide, by decide⟩) (fun c1 => ?_) (fun c1 => ?_)
  · exfalso; omega
  · skip
    refine g_aload_n hc dJ0_charAt_5068e_7 rfl ?_
    refine g_sVal (i := i) hc hi jl_J0_9 dJ0_charAt_5068e_8 ?_
    refine g_iload_n hc dJ0_charAt_5068e_11 rfl ?_
    refine g_S2r hc (c_J1_charAt_3b067 w hi (by omega)) my_J1_charAt_3b067 ms_J1_charAt_3b067 lm_J0_495 rfl (by decide) (Nat.le_of_ble_eq_true rfl) hm dJ0_charAt_5068e_12 ?_
    obtain ⟨htx, htn, -⟩ := g_txc hi h1.1 h1.2
    refine g_nret hc hm htn dJ0_charAt_5068e_15 ?_
    exact ⟨rfl, rfl, rfl, rfl, rfl⟩
