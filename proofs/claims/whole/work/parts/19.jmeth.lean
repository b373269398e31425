/-- Integer.bitCount, as the machine reckons it -/
def g_bc1 (x : Int) : Int := x - g_and (g_ushr x 1) 1431655765
def g_bc2 (x : Int) : Int := g_and (g_bc1 x) 858993459 + g_and (g_ushr (g_bc1 x) 2) 858993459
def g_bc3 (x : Int) : Int := g_and (g_bc2 x + g_ushr (g_bc2 x) 4) 252645135
def g_bc4 (x : Int) : Int := g_bc3 x + g_ushr (g_bc3 x) 8
def g_bc (x : Int) : Int := g_and (g_bc4 x + g_ushr (g_bc4 x) 16) 63
theorem g_bc32 {x : Int} : g32 (g_bc x) := g_and32
set_option maxHeartbeats 4000000 in
set_option maxRecDepth 100000 in
/-- J6_bitCount_0f7a4 -/
theorem c_J6_bitCount_0f7a4 (w : g_W) {I : g_I} {J : g_J} {R : g_R} {a : Int} : g_Met w g_n I J R yJ6_bitCount_0f7a4 cJ6_bitCount_0f7a4 1 (some .int) 0 0 0 [(gvI a)] (g_post (some (gvI (g_bc a))) g_n I J R) := by
  refine g_intro (own := RJ6) [some (gvI a)] (by decide +kernel) rfl (by decide) (Nat.le_of_ble_eq_true rfl) rfl (fun i v hv => g_args 0 i v hv rfl) (fun x hc hm => ?_)
  refine g_iload_n hc dJ6_bitCount_0f7a4_0 rfl ?_
  refine g_iload_n hc dJ6_bitCount_0f7a4_1 rfl ?_
  refine g_iconst hc dJ6_bitCount_0f7a4_2 ?_
  refine g_iushr hc dJ6_bitCount_0f7a4_3 ?_
  refine g_ldcw (k := 1431655765) hc dJ6_bitCount_0f7a4_4 _ lc_J6_265 (by decide +kernel) ?_
  refine g_iand hc dJ6_bitCount_0f7a4_7 ?_
  refine g_isub hc dJ6_bitCount_0f7a4_8 ?_
  refine g_istore_0 hc dJ6_bitCount_0f7a4_9 ?_
  refine g_iload_n hc dJ6_bitCount_0f7a4_10 rfl ?_
  refine g_ldcw (k := 858993459) hc dJ6_bitCount_0f7a4_11 _ lc_J6_266 (by decide +kernel) ?_
  refine g_iand hc dJ6_bitCount_0f7a4_14 ?_
  refine g_iload_n hc dJ6_bitCount_0f7a4_15 rfl ?_
  refine g_iconst hc dJ6_bitCount_0f7a4_16 ?_
  refine g_iushr hc dJ6_bitCount_0f7a4_17 ?_
  refine g_ldcw (k := 858993459) hc dJ6_bitCount_0f7a4_18 _ lc_J6_266 (by decide +kernel) ?_
  refine g_iand hc dJ6_bitCount_0f7a4_21 ?_
  refine g_iadd hc dJ6_bitCount_0f7a4_22 ?_
  refine g_istore_0 hc dJ6_bitCount_0f7a4_23 ?_
  refine g_iload_n hc dJ6_bitCount_0f7a4_24 rfl ?_
  refine g_iload_n hc dJ6_bitCount_0f7a4_25 rfl ?_
  refine g_iconst hc dJ6_bitCount_0f7a4_26 ?_
  refine g_iushr hc dJ6_bitCount_0f7a4_27 ?_
  refine g_iadd hc dJ6_bitCount_0f7a4_28 ?_
  refine g_ldcw (k := 252645135) hc dJ6_bitCount_0f7a4_29 _ lc_J6_267 (by decide +kernel) ?_
  refine g_iand hc dJ6_bitCount_0f7a4_32 ?_
  refine g_istore_0 hc dJ6_bitCount_0f7a4_33 ?_
  refine g_iload_n hc dJ6_bitCount_0f7a4_34 rfl ?_
  refine g_iload_n hc dJ6_bitCount_0f7a4_35 rfl ?_
  refine g_bipush hc dJ6_bitCount_0f7a4_36 (by decide +kernel) ?_
  refine g_iushr hc dJ6_bitCount_0f7a4_38 ?_
  refine g_iadd hc dJ6_bitCount_0f7a4_39 ?_
  refine g_istore_0 hc dJ6_bitCount_0f7a4_40 ?_
  refine g_iload_n hc dJ6_bitCount_0f7a4_41 rfl ?_
  refine g_iload_n hc dJ6_bitCount_0f7a4_42 rfl ?_
  refine g_bipush hc dJ6_bitCount_0f7a4_43 (by decide +kernel) ?_
  refine g_iushr hc dJ6_bitCount_0f7a4_45 ?_
  refine g_iadd hc dJ6_bitCount_0f7a4_46 ?_
  refine g_istore_0 hc dJ6_bitCount_0f7a4_47 ?_
  refine g_iload_n hc dJ6_bitCount_0f7a4_48 rfl ?_
  refine g_bipush hc dJ6_bitCount_0f7a4_49 (by decide +kernel) ?_
  refine g_iand hc dJ6_bitCount_0f7a4_51 ?_
  refine g_iret hc hm dJ6_bitCount_0f7a4_52 ?_
  exact ⟨rfl, rfl, rfl, rfl, rfl⟩
set_option maxHeartbeats 4000000 in
set_option maxRecDepth 100000 in
/-- J6_compare_7cf53 -/
theorem c_J6_compare_7cf53 (w : g_W) {I : g_I} {J : g_J} {R : g_R} {a b : Int} (h1 : g32 a) (h2 : g32 b) : g_Met w g_n I J R yJ6_compare_7cf53 cJ6_compare_7cf53 2 (some .int) 0 0 0 [(gvI a), (gvI b)] (g_post (some (gvI (if a < b then -1 else if a = b then 0 else 1))) g_n I J R) := by
  refine g_intro (own := RJ6) [some (gvI a), some (gvI b)] (by decide +kernel) rfl (by decide) (Nat.le_of_ble_eq_true rfl) rfl (fun i v hv => g_args 0 i v hv rfl) (fun x hc hm => ?_)
  refine g_iload_n hc dJ6_compare_7cf53_0 rfl ?_
  refine g_iload_n hc dJ6_compare_7cf53_1 rfl ?_
  refine g_icmp_ge (tgt := 9) hc dJ6_compare_7cf53_2 (by decide) (by first | exact hI _ _ | exact hxI2 _ _ | exact hIa _ _ | exact hIb _ _ | exact g_b32 | exact g_and32 | assumption | exact ⟨by omega, by omega⟩) (by first | exact hI _ _ | exact hxI2 _ _ | exact hIa _ _ | exact hIb _ _ | exact g_b32 | exact g_and32 | assumption | exact ⟨by omega, by omega⟩) (fun c1 => ?_) (fun c1 => ?_)
  · skip
    refine g_iload_n hc dJ6_compare_7cf53_9 rfl ?_
    refine g_iload_n hc dJ6_compare_7cf53_10 rfl ?_
    refine g_icmp_ne (tgt := 18) hc dJ6_compare_7cf53_11 (by decide) (by first | exact hI _ _ | exact hxI2 _ _ | exact hIa _ _ | exact hIb _ _ | exact g_b32 | exact g_and32 | assumption | exact ⟨by omega, by omega⟩) (by first | exact hI _ _ | exact hxI2 _ _ | exact hIa _ _ | exact hIb _ _ | exact g_b32 | exact g_and32 | assumption | exact ⟨by omega, by omega⟩) (fun c2 => ?_) (fun c2 => ?_)
    · skip
      refine g_iconst hc dJ6_compare_7cf53_18 ?_
      refine g_iret hc hm dJ6_compare_7cf53_19 ?_
      exact ⟨by first | rw [if_pos (by omega)] | rw [if_neg (by omega), if_pos (by omega)] | rw [if_neg (by omega), if_neg (by omega)], rfl, rfl, rfl, rfl⟩
    · skip
      refine g_iconst hc dJ6_compare_7cf53_14 ?_
      refine g_goto (tgt := 19) hc dJ6_compare_7cf53_15 (by decide) ?_
      refine g_iret hc hm dJ6_compare_7cf53_19 ?_
      exact ⟨by first | rw [if_pos (by omega)] | rw [if_neg (by omega), if_pos (by omega)] | rw [if_neg (by omega), if_neg (by omega)], rfl, rfl, rfl, rfl⟩
  · skip
    refine g_iconst hc dJ6_compare_7cf53_5 ?_
    refine g_goto (tgt := 19) hc dJ6_compare_7cf53_6 (by decide) ?_
    refine g_iret hc hm dJ6_compare_7cf53_19 ?_
    exact ⟨by first | rw [if_pos (by omega)] | rw [if_neg (by omega), if_pos (by omega)] | rw [if_neg (by omega), if_neg (by omega)], rfl, rfl, rfl, rfl⟩
