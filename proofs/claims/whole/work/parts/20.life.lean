set_option maxHeartbeats 4000000 in
set_option maxRecDepth 100000 in
/-- X4_hasLeaf -/
theorem c_X4_hasLeaf (w : g_W) {I : g_I} {J : g_J} {R : g_R} {lb tx : Nat} (hR : g_rf w R lb tx) (hI : ∀ k j, g32 (I k j)) {b : Nat} (hb : g_life b) {leaf : Int} (h1 : g32 leaf) : g_Met w g_n I J R yX4_hasLeaf cX4_hasLeaf 2 (some .boolean) 0 0 0 [(gvr w b), (gvI leaf)] (g_post (some (gvI (g_b (0 ≤ leaf ∧ leaf < I b 0)))) g_n I J R) := by
  refine g_intro (own := RX4) [some (gvr w b), some (gvI leaf)] (by decide +kernel) rfl (by decide) (Nat.le_of_ble_eq_true rfl) rfl (fun i v hv => g_args 0 i v hv rfl) (fun x hc hm => ?_)
  refine g_iload_n hc dX4_hasLeaf_0 rfl ?_
  refine g_if_lt (tgt := 16) hc dX4_hasLeaf_1 (by decide) (by first | exact hI _ _ | exact hxI2 _ _ | exact hIa _ _ | exact hIb _ _ | exact g_b32 | exact g_and32 | assumption | exact ⟨by omega, by omega⟩) (fun c1 => ?_) (fun c1 => ?_)
  · skip
    refine g_iconst hc dX4_hasLeaf_16 ?_
    refine g_zret hc hm (by first | exact g_b01 | omega) dX4_hasLeaf_17 ?_
    first | (exfalso; omega) | exact ⟨rfl, rfl, rfl, rfl, rfl⟩ | exact ⟨by rw [g_b1 (by omega)], rfl, rfl, rfl, rfl⟩ | exact ⟨by rw [g_b0 (by omega)], rfl, rfl, rfl, rfl⟩
  · skip
    refine g_iload_n hc dX4_hasLeaf_4 rfl ?_
    refine g_aldn hc dX4_hasLeaf_5 rfl ?_
    refine g_getI' hc lk_X4_47 (la_0 hb) 0 rfl dX4_hasLeaf_6 ?_
    refine g_icmp_ge (tgt := 16) hc dX4_hasLeaf_9 (by decide) (by first | exact hI _ _ | exact hxI2 _ _ | exact hIa _ _ | exact hIb _ _ | exact g_b32 | exact g_and32 | assumption | exact ⟨by omega, by omega⟩) (by first | exact hI _ _ | exact hxI2 _ _ | exact hIa _ _ | exact hIb _ _ | exact g_b32 | exact g_and32 | assumption | exact ⟨by omega, by omega⟩) (fun c2 => ?_) (fun c2 => ?_)
    · skip
      refine g_iconst hc dX4_hasLeaf_16 ?_
      refine g_zret hc hm (by first | exact g_b01 | omega) dX4_hasLeaf_17 ?_
      first | (exfalso; omega) | exact ⟨rfl, rfl, rfl, rfl, rfl⟩ | exact ⟨by rw [g_b1 (by omega)], rfl, rfl, rfl, rfl⟩ | exact ⟨by rw [g_b0 (by omega)], rfl, rfl, rfl, rfl⟩
    · skip
      refine g_iconst hc dX4_hasLeaf_12 ?_
      refine g_goto (tgt := 17) hc dX4_hasLeaf_13 (by decide) ?_
      refine g_zret hc hm (by first | exact g_b01 | omega) dX4_hasLeaf_17 ?_
      first | (exfalso; omega) | exact ⟨rfl, rfl, rfl, rfl, rfl⟩ | exact ⟨by rw [g_b1 (by omega)], rfl, rfl, rfl, rfl⟩ | exact ⟨by rw [g_b0 (by omega)], rfl, rfl, rfl, rfl⟩
set_option maxHeartbeats 4000000 in
set_option maxRecDepth 100000 in
/-- X4_hasFork -/
theorem c_X4_hasFork (w : g_W) {I : g_I} {J : g_J} {R : g_R} {lb tx : Nat} (hR : g_rf w R lb tx) (hI : ∀ k j, g32 (I k j)) {b : Nat} (hb : g_life b) {fork : Int} (h1 : g32 fork) : g_Met w g_n I J R yX4_hasFork cX4_hasFork 2 (some .boolean) 0 0 0 [(gvr w b), (gvI fork)] (g_post (some (gvI (g_b (0 ≤ fork ∧ fork < I b 1)))) g_n I J R) := by
  refine g_intro (own := RX4) [some (gvr w b), some (gvI fork)] (by decide +kernel) rfl (by decide) (Nat.le_of_ble_eq_true rfl) rfl (fun i v hv => g_args 0 i v hv rfl) (fun x hc hm => ?_)
  refine g_iload_n hc dX4_hasFork_0 rfl ?_
  refine g_if_lt (tgt := 16) hc dX4_hasFork_1 (by decide) (by first | exact hI _ _ | exact hxI2 _ _ | exact hIa _ _ | exact hIb _ _ | exact g_b32 | exact g_and32 | assumption | exact ⟨by omega, by omega⟩) (fun c1 => ?_) (fun c1 => ?_)
  · skip
    refine g_iconst hc dX4_hasFork_16 ?_
    refine g_zret hc hm (by first | exact g_b01 | omega) dX4_hasFork_17 ?_
    first | (exfalso; omega) | exact ⟨rfl, rfl, rfl, rfl, rfl⟩ | exact ⟨by rw [g_b1 (by omega)], rfl, rfl, rfl, rfl⟩ | exact ⟨by rw [g_b0 (by omega)], rfl, rfl, rfl, rfl⟩
  · skip
    refine g_iload_n hc dX4_hasFork_4 rfl ?_
    refine g_aldn hc dX4_hasFork_5 rfl ?_
    refine g_getI' hc lk_X4_51 (la_0 hb) 1 rfl dX4_hasFork_6 ?_
    refine g_icmp_ge (tgt := 16) hc dX4_hasFork_9 (by decide) (by first | exact hI _ _ | exact hxI2 _ _ | exact hIa _ _ | exact hIb _ _ | exact g_b32 | exact g_and32 | assumption | exact ⟨by omega, by omega⟩) (by first | exact hI _ _ | exact hxI2 _ _ | exact hIa _ _ | exact hIb _ _ | exact g_b32 | exact g_and32 | assumption | exact ⟨by omega, by omega⟩) (fun c2 => ?_) (fun c2 => ?_)
    · skip
      refine g_iconst hc dX4_hasFork_16 ?_
      refine g_zret hc hm (by first | exact g_b01 | omega) dX4_hasFork_17 ?_
      first | (exfalso; omega) | exact ⟨rfl, rfl, rfl, rfl, rfl⟩ | exact ⟨by rw [g_b1 (by omega)], rfl, rfl, rfl, rfl⟩ | exact ⟨by rw [g_b0 (by omega)], rfl, rfl, rfl, rfl⟩
    · skip
      refine g_iconst hc dX4_hasFork_12 ?_
      refine g_goto (tgt := 17) hc dX4_hasFork_13 (by decide) ?_
      refine g_zret hc hm (by first | exact g_b01 | omega) dX4_hasFork_17 ?_
      first | (exfalso; omega) | exact ⟨rfl, rfl, rfl, rfl, rfl⟩ | exact ⟨by rw [g_b1 (by omega)], rfl, rfl, rfl, rfl⟩ | exact ⟨by rw [g_b0 (by omega)], rfl, rfl, rfl, rfl⟩
set_option maxHeartbeats 4000000 in
set_option maxRecDepth 100000 in
/-- X4_hasBranch -/
theorem c_X4_hasBranch (w : g_W) {I : g_I} {J : g_J} {R : g_R} {lb tx : Nat} (hR : g_rf w R lb tx) (hI : ∀ k j, g32 (I k j)) {b : Nat} (hb : g_life b) {fork branch : Int} (h1 : g32 fork) (h2 : g32 branch) (h3 : I b 1 ≤ 20) : g_Met w g_n I J R yX4_hasBranch cX4_hasBranch 3 (some .boolean) 1 0 0 [(gvr w b), (gvI fork), (gvI branch)] (g_post (some (gvI (g_b ((0 ≤ fork ∧ fork < I b 1) ∧ 0 ≤ branch ∧ branch < I (b + 43) fork)))) g_n I J R) := by
  refine g_intro (own := RX4) [some (gvr w b), some (gvI fork), some (gvI branch)] (by decide +kernel) rfl (by decide) (Nat.le_of_ble_eq_true rfl) rfl (fun i v hv => g_args 0 i v hv rfl) (fun x hc hm => ?_)
  refine g_aldn hc dX4_hasBranch_0 rfl ?_
  refine g_iload_n hc dX4_hasBranch_1 rfl ?_
  refine g_V1r hc (c_X4_hasFork w hR hI hb (by first | exact hI _ _ | exact hxI2 _ _ | exact hIa _ _ | exact hIb _ _ | exact g_b32 | exact g_and32 | assumption | exact ⟨by omega, by omega⟩)) my_X4_hasFork mv_X4_hasFork (la_0 hb) rfl rfl lm_X4_54 rfl (by decide) (Nat.le_of_ble_eq_true rfl) hm dX4_hasBranch_2 ?_
  refine g_ifb_eq (tgt := 26) hc dX4_hasBranch_5 (by decide)  (fun c1 => ?_) (fun c1 => ?_)
  · skip
    refine g_iconst hc dX4_hasBranch_26 ?_
    refine g_zret hc hm (by first | exact g_b01 | omega) dX4_hasBranch_27 ?_
    first | (exfalso; omega) | exact ⟨rfl, rfl, rfl, rfl, rfl⟩ | exact ⟨by rw [g_b1 (by omega)], rfl, rfl, rfl, rfl⟩ | exact ⟨by rw [g_b0 (by omega)], rfl, rfl, rfl, rfl⟩
  · skip
    refine g_iload_n hc dX4_hasBranch_8 rfl ?_
    refine g_if_lt (tgt := 26) hc dX4_hasBranch_9 (by decide) (by first | exact hI _ _ | exact hxI2 _ _ | exact hIa _ _ | exact hIb _ _ | exact g_b32 | exact g_and32 | assumption | exact ⟨by omega, by omega⟩) (fun c2 => ?_) (fun c2 => ?_)
    · skip
      refine g_iconst hc dX4_hasBranch_26 ?_
      refine g_zret hc hm (by first | exact g_b01 | omega) dX4_hasBranch_27 ?_
      first | (exfalso; omega) | exact ⟨rfl, rfl, rfl, rfl, rfl⟩ | exact ⟨by rw [g_b1 (by omega)], rfl, rfl, rfl, rfl⟩ | exact ⟨by rw [g_b0 (by omega)], rfl, rfl, rfl, rfl⟩
    · skip
      refine g_iload_n hc dX4_hasBranch_12 rfl ?_
      refine g_aldn hc dX4_hasBranch_13 rfl ?_
      refine g_getRk hc lk_X4_32 (la_0 hb) (rl_8 hR hb) dX4_hasBranch_14 ?_
      refine g_iload_n hc dX4_hasBranch_17 rfl ?_
      refine g_iald hc (la_43 hb) (by decide) (by omega) (by omega) dX4_hasBranch_18 ?_
      refine g_icmp_ge (tgt := 26) hc dX4_hasBranch_19 (by decide) (by first | exact hI _ _ | exact hxI2 _ _ | exact hIa _ _ | exact hIb _ _ | exact g_b32 | exact g_and32 | assumption | exact ⟨by omega, by omega⟩) (by first | exact hI _ _ | exact hxI2 _ _ | exact hIa _ _ | exact hIb _ _ | exact g_b32 | exact g_and32 | assumption | exact ⟨by omega, by omega⟩) (fun c3 => ?_) (fun c3 => ?_)
      · skip
        refine g_iconst hc dX4_hasBranch_26 ?_
        refine g_zret hc hm (by first | exact g_b01 | omega) dX4_hasBranch_27 ?_
        first | (exfalso; omega) | exact ⟨rfl, rfl, rfl, rfl, rfl⟩ | exact ⟨by rw [g_b1 (by omega)], rfl, rfl, rfl, rfl⟩ | exact ⟨by rw [g_b0 (by omega)], rfl, rfl, rfl, rfl⟩
      · skip
        refine g_iconst hc dX4_hasBranch_22 ?_
        refine g_goto (tgt := 27) hc dX4_hasBranch_23 (by decide) ?_
        refine g_zret hc hm (by first | exact g_b01 | omega) dX4_hasBranch_27 ?_
        first | (exfalso; omega) | exact ⟨rfl, rfl, rfl, rfl, rfl⟩ | exact ⟨by rw [g_b1 (by omega)], rfl, rfl, rfl, rfl⟩ | exact ⟨by rw [g_b0 (by omega)], rfl, rfl, rfl, rfl⟩
set_option maxHeartbeats 4000000 in
set_option maxRecDepth 100000 in
/-- X4_item -/
theorem c_X4_item (w : g_W) {I : g_I} {J : g_J} {R : g_R} {lb tx : Nat} (hR : g_rf w R lb tx) (hI : ∀ k j, g32 (I k j)) {b : Nat} (hb : g_life b) {fork branch what : Int} (h1 : 0 ≤ fork ∧ fork < 20) (h2 : 0 ≤ branch ∧ branch < 4) (h3 : 0 ≤ what ∧ what < 5) : g_Met w g_n I J R yX4_item cX4_item 4 (some .int) 0 0 0 [(gvr w b), (gvI fork), (gvI branch), (gvI what)] (g_post (some (gvI (I (b + 47 + (fork * 4 + branch).toNat) what))) g_n I J R) := by
  refine g_intro (own := RX4) [some (gvr w b), some (gvI fork), some (gvI branch), some (gvI what)] (by decide +kernel) rfl (by decide) (Nat.le_of_ble_eq_true rfl) rfl (fun i v hv => g_args 0 i v hv rfl) (fun x hc hm => ?_)
  refine g_aldn hc dX4_item_0 rfl ?_
  refine g_getRk hc lk_X4_41 (la_0 hb) (rl_11 hR hb) dX4_item_1 ?_
  refine g_iload_n hc dX4_item_4 rfl ?_
  refine g_iconst hc dX4_item_5 ?_
  refine g_imul hc dX4_item_6 ?_
  refine g_iload_n hc dX4_item_7 rfl ?_
  refine g_iadd hc dX4_item_8 ?_
  refine g_aaldk hc (la_46 hb) (by decide) rfl rfl (by decide) (by omega) (by omega) (rl_it hR hb (by omega) (by omega)) dX4_item_9 ?_
  refine g_iload_n hc dX4_item_10 rfl ?_
  refine g_iald hc (la_it hb (by omega) (by omega)) (by decide) (by omega) (by omega) dX4_item_11 ?_
  refine g_iret hc hm dX4_item_12 ?_
  first | (exfalso; omega) | exact ⟨rfl, rfl, rfl, rfl, rfl⟩ | exact ⟨by rw [g_b1 (by omega)], rfl, rfl, rfl, rfl⟩ | exact ⟨by rw [g_b0 (by omega)], rfl, rfl, rfl, rfl⟩
set_option maxHeartbeats 4000000 in
set_option maxRecDepth 100000 in
/-- X4_weight -/
theorem c_X4_weight (w : g_W) {I : g_I} {J : g_J} {R : g_R} {lb tx : Nat} (hR : g_rf w R lb tx) (hI : ∀ k j, g32 (I k j)) {b : Nat} (hb : g_life b) {fork branch : Int} (h1 : 0 ≤ fork ∧ fork < 20) (h2 : 0 ≤ branch ∧ branch < 4) : g_Met w g_n I J R yX4_weight cX4_weight 3 (some .int) 1 0 0 [(gvr w b), (gvI fork), (gvI branch)] (g_post (some (gvI (I (b + 47 + (fork * 4 + branch).toNat) 0))) g_n I J R) := by
  refine g_intro (own := RX4) [some (gvr w b), some (gvI fork), some (gvI branch)] (by decide +kernel) rfl (by decide) (Nat.le_of_ble_eq_true rfl) rfl (fun i v hv => g_args 0 i v hv rfl) (fun x hc hm => ?_)
  refine g_aldn hc dX4_weight_0 rfl ?_
  refine g_iload_n hc dX4_weight_1 rfl ?_
  refine g_iload_n hc dX4_weight_2 rfl ?_
  refine g_iconst hc dX4_weight_3 ?_
  refine g_V3r hc (c_X4_item w hR hI hb (by omega) (by omega) (by omega)) my_X4_item mv_X4_item (la_0 hb) rfl rfl lm_X4_58 rfl (by decide) (Nat.le_of_ble_eq_true rfl) hm dX4_weight_4 ?_
  refine g_iret hc hm dX4_weight_7 ?_
  first | (exfalso; omega) | exact ⟨rfl, rfl, rfl, rfl, rfl⟩ | exact ⟨by rw [g_b1 (by omega)], rfl, rfl, rfl, rfl⟩ | exact ⟨by rw [g_b0 (by omega)], rfl, rfl, rfl, rfl⟩
set_option maxHeartbeats 4000000 in
set_option maxRecDepth 100000 in
/-- X4_target -/
theorem c_X4_target (w : g_W) {I : g_I} {J : g_J} {R : g_R} {lb tx : Nat} (hR : g_rf w R lb tx) (hI : ∀ k j, g32 (I k j)) {b : Nat} (hb : g_life b) {fork branch : Int} (h1 : 0 ≤ fork ∧ fork < 20) (h2 : 0 ≤ branch ∧ branch < 4) : g_Met w g_n I J R yX4_target cX4_target 3 (some .int) 0 0 0 [(gvr w b), (gvI fork), (gvI branch)] (g_post (some (gvI (I (b + 127) (fork * 4 + branch)))) g_n I J R) := by
  refine g_intro (own := RX4) [some (gvr w b), some (gvI fork), some (gvI branch)] (by decide +kernel) rfl (by decide) (Nat.le_of_ble_eq_true rfl) rfl (fun i v hv => g_args 0 i v hv rfl) (fun x hc hm => ?_)
  refine g_aldn hc dX4_target_0 rfl ?_
  refine g_getRk hc lk_X4_44 (la_0 hb) (rl_12 hR hb) dX4_target_1 ?_
  refine g_iload_n hc dX4_target_4 rfl ?_
  refine g_iconst hc dX4_target_5 ?_
  refine g_imul hc dX4_target_6 ?_
  refine g_iload_n hc dX4_target_7 rfl ?_
  refine g_iadd hc dX4_target_8 ?_
  refine g_iald hc (la_127 hb) (by decide) (by omega) (by omega) dX4_target_9 ?_
  refine g_iret hc hm dX4_target_10 ?_
  first | (exfalso; omega) | exact ⟨rfl, rfl, rfl, rfl, rfl⟩ | exact ⟨by rw [g_b1 (by omega)], rfl, rfl, rfl, rfl⟩ | exact ⟨by rw [g_b0 (by omega)], rfl, rfl, rfl, rfl⟩
set_option maxHeartbeats 4000000 in
set_option maxRecDepth 100000 in
/-- X4_allMask -/
theorem c_X4_allMask (w : g_W) {I : g_I} {J : g_J} {R : g_R} {lb tx : Nat} (hR : g_rf w R lb tx) (hI : ∀ k j, g32 (I k j)) {b : Nat} (hb : g_life b) {fork : Int} (h1 : 0 ≤ fork ∧ fork < 20) : g_Met w g_n I J R yX4_allMask cX4_allMask 2 (some .int) 0 0 0 [(gvr w b), (gvI fork)] (g_post (some (gvI (g_shl 1 (I (b + 43) fork) - 1))) g_n I J R) := by
  refine g_intro (own := RX4) [some (gvr w b), some (gvI fork)] (by decide +kernel) rfl (by decide) (Nat.le_of_ble_eq_true rfl) rfl (fun i v hv => g_args 0 i v hv rfl) (fun x hc hm => ?_)
  refine g_iconst hc dX4_allMask_0 ?_
  refine g_aldn hc dX4_allMask_1 rfl ?_
  refine g_getRk hc lk_X4_32 (la_0 hb) (rl_8 hR hb) dX4_allMask_2 ?_
  refine g_iload_n hc dX4_allMask_5 rfl ?_
  refine g_iald hc (la_43 hb) (by decide) (by omega) (by omega) dX4_allMask_6 ?_
  refine g_ishl hc dX4_allMask_7 ?_
  refine g_iconst hc dX4_allMask_8 ?_
  refine g_isub hc dX4_allMask_9 ?_
  refine g_iret hc hm dX4_allMask_10 ?_
  first | (exfalso; omega) | exact ⟨rfl, rfl, rfl, rfl, rfl⟩ | exact ⟨by rw [g_b1 (by omega)], rfl, rfl, rfl, rfl⟩ | exact ⟨by rw [g_b0 (by omega)], rfl, rfl, rfl, rfl⟩
/-- the WEIGHTS of the first n BRANCHES that a mask has -/
def g_wt (I : g_I) (b : Nat) (fork mask : Int) : Nat → Int := g_sum (fun k => if g_and (g_shr mask k) 1 = 1 then I (b + 47 + (fork * 4 + k).toNat) 0 else 0)
set_option maxHeartbeats 4000000 in
set_option maxRecDepth 100000 in
/-- X4_weights -/
theorem c_X4_weights (w : g_W) {I : g_I} {J : g_J} {R : g_R} {lb tx : Nat} (hR : g_rf w R lb tx) (hI : ∀ k j, g32 (I k j)) {b : Nat} (hb : g_life b) {fork mask : Int} (h1 : 0 ≤ fork ∧ fork < 20) (h2 : 0 ≤ I (b + 43) fork ∧ I (b + 43) fork ≤ 4) : g_Met w g_n I J R yX4_weights cX4_weights 5 (some .int) 2 0 0 [(gvr w b), (gvI fork), (gvI mask)] (g_post (some (gvI (g_wt I b fork mask (I (b + 43) fork).toNat))) g_n I J R) := by
  refine g_intro (own := RX4) [some (gvr w b), some (gvI fork), some (gvI mask), none, none] (by decide +kernel) rfl (by decide) (Nat.le_of_ble_eq_true rfl) rfl (fun i v hv => g_args 2 i v hv rfl) (fun x hc hm => ?_)
  refine g_iconst hc dX4_weights_0 ?_
  refine g_istore_3 hc dX4_weights_1 rfl ?_
  refine g_iconst hc dX4_weights_2 ?_
  refine g_istore_4 hc dX4_weights_3 rfl ?_
  have lp_5 : ∀ (fu : Nat) (s i : Int), 0 ≤ i → i ≤ I (b + 43) fork → s = g_wt I b fork mask i.toNat → I (b + 43) fork - i < (fu : Int) → G w x (g_post (some (gvI (g_wt I b fork mask (I (b + 43) fork).toNat))) g_n I J R) 0 0 g_n I J R 5 [some (gvr w b), some (gvI fork), some (gvI mask), some (gvI s), some (gvI i)] [] := by
    intro fu
    induction fu with
    | zero => intro s i h3 h4 h5 hfu; exfalso; omega
    | succ fu ih =>
      intro s i h3 h4 h5 hfu
      have ih_5 := ih
      refine g_iload hc dX4_weights_5 rfl ?_
      refine g_aldn hc dX4_weights_7 rfl ?_
      refine g_getRk hc lk_X4_32 (la_0 hb) (rl_8 hR hb) dX4_weights_8 ?_
      refine g_iload_n hc dX4_weights_11 rfl ?_
      refine g_iald hc (la_43 hb) (by decide) (by omega) (by omega) dX4_weights_12 ?_
      refine g_icmp_ge (tgt := 46) hc dX4_weights_13 (by decide) (by first | exact hI _ _ | exact hxI2 _ _ | exact hIa _ _ | exact hIb _ _ | exact g_b32 | exact g_and32 | assumption | exact ⟨by omega, by omega⟩) (by first | exact hI _ _ | exact hxI2 _ _ | exact hIa _ _ | exact hIb _ _ | exact g_b32 | exact g_and32 | assumption | exact ⟨by omega, by omega⟩) (fun c1 => ?_) (fun c1 => ?_)
      · skip
        refine g_iload_n hc dX4_weights_46 rfl ?_
        refine g_iret hc hm dX4_weights_47 ?_
        exact ⟨by rw [h5, show i = I (b + 43) fork by omega], rfl, rfl, rfl, rfl⟩
      · skip
        refine g_iload_n hc dX4_weights_16 rfl ?_
        refine g_iload_n hc dX4_weights_17 rfl ?_
        refine g_iload hc dX4_weights_18 rfl ?_
        refine g_ishr hc dX4_weights_20 ?_
        refine g_iconst hc dX4_weights_21 ?_
        refine g_iand hc dX4_weights_22 ?_
        refine g_iconst hc dX4_weights_23 ?_
        refine g_icmp_ne (tgt := 37) hc dX4_weights_24 (by decide) (by first | exact hI _ _ | exact hxI2 _ _ | exact hIa _ _ | exact hIb _ _ | exact g_b32 | exact g_and32 | assumption | exact ⟨by omega, by omega⟩) (by first | exact hI _ _ | exact hxI2 _ _ | exact hIa _ _ | exact hIb _ _ | exact g_b32 | exact g_and32 | assumption | exact ⟨by omega, by omega⟩) (fun c2 => ?_) (fun c2 => ?_)
        · skip
          refine g_iconst hc dX4_weights_37 ?_
          refine g_iadd hc dX4_weights_38 ?_
          refine g_istore_3 hc dX4_weights_39 rfl ?_
          refine g_iinc_4 hc dX4_weights_40 rfl ?_
          refine g_goto (tgt := 5) hc dX4_weights_43 (by decide) ?_
          refine ih_5 _ _ ?_ ?_ ?_ ?_
          · omega
          · omega
          · rw [h5]; unfold g_wt; rw [g_sum_i h3]; first | rw [if_pos c2] | rw [if_neg c2]
          · omega
        · skip
          refine g_aldn hc dX4_weights_27 rfl ?_
          refine g_iload_n hc dX4_weights_28 rfl ?_
          refine g_iload hc dX4_weights_29 rfl ?_
          refine g_V2r hc (c_X4_weight w hR hI hb (by omega) (by omega)) my_X4_weight mv_X4_weight (la_0 hb) rfl rfl lm_X4_62 rfl (by decide) (Nat.le_of_ble_eq_true rfl) hm dX4_weights_31 ?_
          refine g_goto (tgt := 38) hc dX4_weights_34 (by decide) ?_
          refine g_iadd hc dX4_weights_38 ?_
          refine g_istore_3 hc dX4_weights_39 rfl ?_
          refine g_iinc_4 hc dX4_weights_40 rfl ?_
          refine g_goto (tgt := 5) hc dX4_weights_43 (by decide) ?_
          refine ih_5 _ _ ?_ ?_ ?_ ?_
          · omega
          · omega
          · rw [h5]; unfold g_wt; rw [g_sum_i h3]; first | rw [if_pos c2] | rw [if_neg c2]
          · omega
  refine lp_5 (I (b + 43) fork + 1).toNat _ _ ?_ ?_ ?_ (?_)
  · omega
  · omega
  · rfl
  · omega
/-- at which step of a WAY a FORK stands; -1: at none -/
def g_stp (I : g_I) (b : Nat) (leaf fork : Int) : Int := g_first (fun i => I (b + 16 + leaf.toNat) i == fork) (I (b + 14) leaf).toNat 0
set_option maxHeartbeats 4000000 in
set_option maxRecDepth 100000 in
/-- X4_stepAt -/
theorem c_X4_stepAt (w : g_W) {I : g_I} {J : g_J} {R : g_R} {lb tx : Nat} (hR : g_rf w R lb tx) (hI : ∀ k j, g32 (I k j)) {b : Nat} (hb : g_life b) {leaf fork : Int} (h1 : 0 ≤ leaf ∧ leaf < 12) (h2 : 0 ≤ I (b + 14) leaf ∧ I (b + 14) leaf ≤ 6) (h6 : g32 fork) : g_Met w g_n I J R yX4_stepAt cX4_stepAt 4 (some .int) 0 0 0 [(gvr w b), (gvI leaf), (gvI fork)] (g_post (some (gvI (g_stp I b leaf fork))) g_n I J R) := by
  refine g_intro (own := RX4) [some (gvr w b), some (gvI leaf), some (gvI fork), none] (by decide +kernel) rfl (by decide) (Nat.le_of_ble_eq_true rfl) rfl (fun i v hv => g_args 1 i v hv rfl) (fun x hc hm => ?_)
  refine g_iconst hc dX4_stepAt_0 ?_
  refine g_istore_3 hc dX4_stepAt_1 rfl ?_
  have lp_2 : ∀ (fu : Nat) (i : Int), 0 ≤ i → i ≤ I (b + 14) leaf → g_stp I b leaf fork = g_first (fun i => I (b + 16 + leaf.toNat) i == fork) (I (b + 14) leaf - i).toNat i → I (b + 14) leaf - i < (fu : Int) → G w x (g_post (some (gvI (g_stp I b leaf fork))) g_n I J R) 0 0 g_n I J R 2 [some (gvr w b), some (gvI leaf), some (gvI fork), some (gvI i)] [] := by
    intro fu
    induction fu with
    | zero => intro i h3 h4 h5 hfu; exfalso; omega
    | succ fu ih =>
      intro i h3 h4 h5 hfu
      have ih_2 := ih
      refine g_iload_n hc dX4_stepAt_2 rfl ?_
      refine g_aldn hc dX4_stepAt_3 rfl ?_
      refine g_getRk hc lk_X4_16 (la_0 hb) (rl_3 hR hb) dX4_stepAt_4 ?_
      refine g_iload_n hc dX4_stepAt_7 rfl ?_
      refine g_iald hc (la_14 hb) (by decide) (by omega) (by omega) dX4_stepAt_8 ?_
      refine g_icmp_ge (tgt := 32) hc dX4_stepAt_9 (by decide) (by first | exact hI _ _ | exact hxI2 _ _ | exact hIa _ _ | exact hIb _ _ | exact g_b32 | exact g_and32 | assumption | exact ⟨by omega, by omega⟩) (by first | exact hI _ _ | exact hxI2 _ _ | exact hIa _ _ | exact hIb _ _ | exact g_b32 | exact g_and32 | assumption | exact ⟨by omega, by omega⟩) (fun c1 => ?_) (fun c1 => ?_)
      · skip
        refine g_iconst hc dX4_stepAt_32 ?_
        refine g_iret hc hm dX4_stepAt_33 ?_
        first | (exfalso; omega) | exact ⟨by rw [h5, g_first_t (by omega) (by simpa using c2)], rfl, rfl, rfl, rfl⟩ | exact ⟨by rw [h5, g_first_e (by omega)], rfl, rfl, rfl, rfl⟩
      · skip
        refine g_aldn hc dX4_stepAt_12 rfl ?_
        refine g_getRk hc lk_X4_20 (la_0 hb) (rl_4 hR hb) dX4_stepAt_13 ?_
        refine g_iload_n hc dX4_stepAt_16 rfl ?_
        refine g_aaldk hc (la_15 hb) (by decide) rfl rfl (by decide) (by omega) (by omega) (rl_wf hR hb (by omega) (by omega)) dX4_stepAt_17 ?_
        refine g_iload_n hc dX4_stepAt_18 rfl ?_
        refine g_iald hc (la_wf hb (by omega) (by omega)) (by decide) (by omega) (by omega) dX4_stepAt_19 ?_
        refine g_iload_n hc dX4_stepAt_20 rfl ?_
        refine g_icmp_ne (tgt := 26) hc dX4_stepAt_21 (by decide) (by first | exact hI _ _ | exact hxI2 _ _ | exact hIa _ _ | exact hIb _ _ | exact g_b32 | exact g_and32 | assumption | exact ⟨by omega, by omega⟩) (by first | exact hI _ _ | exact hxI2 _ _ | exact hIa _ _ | exact hIb _ _ | exact g_b32 | exact g_and32 | assumption | exact ⟨by omega, by omega⟩) (fun c2 => ?_) (fun c2 => ?_)
        · skip
          refine g_iinc_3 hc dX4_stepAt_26 rfl ?_
          refine g_goto (tgt := 2) hc dX4_stepAt_29 (by decide) ?_
          refine ih_2 _ ?_ ?_ ?_ ?_
          · omega
          · omega
          · rw [h5, g_first_f (by omega) (by simpa using c2)]
          · omega
        · skip
          refine g_iload_n hc dX4_stepAt_24 rfl ?_
          refine g_iret hc hm dX4_stepAt_25 ?_
          first | (exfalso; omega) | exact ⟨by rw [h5, g_first_t (by omega) (by simpa using c2)], rfl, rfl, rfl, rfl⟩ | exact ⟨by rw [h5, g_first_e (by omega)], rfl, rfl, rfl, rfl⟩
  refine lp_2 (I (b + 14) leaf + 1).toNat _ ?_ ?_ ?_ (?_)
  · omega
  · omega
  · rw [Int.sub_zero]; rfl
  · omega
