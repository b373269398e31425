set_option maxHeartbeats 4000000 in
set_option maxRecDepth 100000 in
/-- X7_openMask -/
theorem c_X7_openMask (w : g_W) {I : g_I} {J : g_J} {R : g_R} {lb tx : Nat} (hR : g_rf w R lb tx) (hI : ∀ k j, g32 (I k j)) {fork : Int} (h1 : 0 ≤ fork ∧ fork < 20) : g_Met w g_n I J R yX7_openMask cX7_openMask 2 (some .int) 0 0 0 [(gvr w 548), (gvI fork)] (g_post (some (gvI (I 550 (4 + fork)))) g_n I J R) := by
  refine g_intro (own := RX7) [some (gvr w 548), some (gvI fork)] (by decide +kernel) rfl (by decide) (Nat.le_of_ble_eq_true rfl) rfl (fun i v hv => g_args 0 i v hv rfl) (fun x hc hm => ?_)
  refine g_aldn hc dX7_openMask_0 rfl ?_
  refine g_getRk hc lk_X7_12 ca_548 (rc_548_1 hR) dX7_openMask_1 ?_
  refine g_getRk hc lk_X7_33 ca_549 (rc_549_0 hR) dX7_openMask_4 ?_
  refine g_iconst hc dX7_openMask_7 ?_
  refine g_iload_n hc dX7_openMask_8 rfl ?_
  refine g_iadd hc dX7_openMask_9 ?_
  refine g_iald hc ca_550 (by decide) (by omega) (by omega) dX7_openMask_10 ?_
  refine g_iret hc hm dX7_openMask_11 ?_
  first | (exfalso; omega) | exact ⟨rfl, rfl, rfl, rfl, rfl⟩ | exact ⟨by rw [g_b1 (by omega)], rfl, rfl, rfl, rfl⟩ | exact ⟨by rw [g_b0 (by omega)], rfl, rfl, rfl, rfl⟩
set_option maxHeartbeats 4000000 in
set_option maxRecDepth 100000 in
/-- X7_isOpen -/
theorem c_X7_isOpen (w : g_W) {I : g_I} {J : g_J} {R : g_R} {lb tx : Nat} (hR : g_rf w R lb tx) (hI : ∀ k j, g32 (I k j)) {fork branch : Int} (h1 : 0 ≤ fork ∧ fork < 20) : g_Met w g_n I J R yX7_isOpen cX7_isOpen 3 (some .boolean) 1 0 0 [(gvr w 548), (gvI fork), (gvI branch)] (g_post (some (gvI (g_b (g_bit (I 550 (4 + fork)) branch)))) g_n I J R) := by
  refine g_intro (own := RX7) [some (gvr w 548), some (gvI fork), some (gvI branch)] (by decide +kernel) rfl (by decide) (Nat.le_of_ble_eq_true rfl) rfl (fun i v hv => g_args 0 i v hv rfl) (fun x hc hm => ?_)
  refine g_aldn hc dX7_isOpen_0 rfl ?_
  refine g_iload_n hc dX7_isOpen_1 rfl ?_
  refine g_V1r hc (c_X7_openMask w hR hI (by omega)) my_X7_openMask mv_X7_openMask ca_548 rfl rfl lm_X7_36 rfl (by decide) (Nat.le_of_ble_eq_true rfl) hm dX7_isOpen_2 ?_
  refine g_iload_n hc dX7_isOpen_5 rfl ?_
  refine g_ishr hc dX7_isOpen_6 ?_
  refine g_iconst hc dX7_isOpen_7 ?_
  refine g_iand hc dX7_isOpen_8 ?_
  refine g_iconst hc dX7_isOpen_9 ?_
  refine g_icmp_ne (tgt := 17) hc dX7_isOpen_10 (by decide) (by first | exact hI _ _ | exact hxI2 _ _ | exact hIa _ _ | exact hIb _ _ | exact g_b32 | exact g_and32 | assumption | exact ⟨by omega, by omega⟩) (by first | exact hI _ _ | exact hxI2 _ _ | exact hIa _ _ | exact hIb _ _ | exact g_b32 | exact g_and32 | assumption | exact ⟨by omega, by omega⟩) (fun c1 => ?_) (fun c1 => ?_)
  · skip
    refine g_iconst hc dX7_isOpen_17 ?_
    refine g_zret hc hm (by first | exact g_b01 | omega) dX7_isOpen_18 ?_
    first | (exfalso; omega) | exact ⟨by rw [g_b1 (by assumption)], rfl, rfl, rfl, rfl⟩ | exact ⟨by rw [g_b0 (by assumption)], rfl, rfl, rfl, rfl⟩
  · skip
    refine g_iconst hc dX7_isOpen_13 ?_
    refine g_goto (tgt := 18) hc dX7_isOpen_14 (by decide) ?_
    refine g_zret hc hm (by first | exact g_b01 | omega) dX7_isOpen_18 ?_
    first | (exfalso; omega) | exact ⟨by rw [g_b1 (by assumption)], rfl, rfl, rfl, rfl⟩ | exact ⟨by rw [g_b0 (by assumption)], rfl, rfl, rfl, rfl⟩
set_option maxHeartbeats 4000000 in
set_option maxRecDepth 100000 in
/-- X7_hasLaw -/
theorem c_X7_hasLaw (w : g_W) {I : g_I} {J : g_J} {R : g_R} {lb tx : Nat} (hR : g_rf w R lb tx) (hI : ∀ k j, g32 (I k j)) {law : Int} : g_Met w g_n I J R yX7_hasLaw cX7_hasLaw 2 (some .boolean) 0 0 0 [(gvr w 548), (gvI law)] (g_post (some (gvI (g_b (¬ g_and (I 550 3) law = 0)))) g_n I J R) := by
  refine g_intro (own := RX7) [some (gvr w 548), some (gvI law)] (by decide +kernel) rfl (by decide) (Nat.le_of_ble_eq_true rfl) rfl (fun i v hv => g_args 0 i v hv rfl) (fun x hc hm => ?_)
  refine g_aldn hc dX7_hasLaw_0 rfl ?_
  refine g_getRk hc lk_X7_12 ca_548 (rc_548_1 hR) dX7_hasLaw_1 ?_
  refine g_getRk hc lk_X7_33 ca_549 (rc_549_0 hR) dX7_hasLaw_4 ?_
  refine g_iconst hc dX7_hasLaw_7 ?_
  refine g_iald hc ca_550 (by decide) (by omega) (by omega) dX7_hasLaw_8 ?_
  refine g_iload_n hc dX7_hasLaw_9 rfl ?_
  refine g_iand hc dX7_hasLaw_10 ?_
  refine g_if_eq (tgt := 18) hc dX7_hasLaw_11 (by decide) (by first | exact hI _ _ | exact hxI2 _ _ | exact hIa _ _ | exact hIb _ _ | exact g_b32 | exact g_and32 | assumption | exact ⟨by omega, by omega⟩) (fun c1 => ?_) (fun c1 => ?_)
  · skip
    refine g_iconst hc dX7_hasLaw_18 ?_
    refine g_zret hc hm (by first | exact g_b01 | omega) dX7_hasLaw_19 ?_
    first | (exfalso; omega) | exact ⟨by rw [g_b1 (by assumption)], rfl, rfl, rfl, rfl⟩ | exact ⟨by rw [g_b0 (by simpa using c1)], rfl, rfl, rfl, rfl⟩
  · skip
    refine g_iconst hc dX7_hasLaw_14 ?_
    refine g_goto (tgt := 19) hc dX7_hasLaw_15 (by decide) ?_
    refine g_zret hc hm (by first | exact g_b01 | omega) dX7_hasLaw_19 ?_
    first | (exfalso; omega) | exact ⟨by rw [g_b1 (by assumption)], rfl, rfl, rfl, rfl⟩ | exact ⟨by rw [g_b0 (by simpa using c1)], rfl, rfl, rfl, rfl⟩
set_option maxHeartbeats 4000000 in
set_option maxRecDepth 100000 in
/-- X7_isDead -/
theorem c_X7_isDead (w : g_W) {I : g_I} {J : g_J} {R : g_R} {lb tx : Nat} (hR : g_rf w R lb tx) (hI : ∀ k j, g32 (I k j)) (hlb : g_life lb) (hL : g_lok I lb) {s : Int} (h1 : 0 ≤ s ∧ s < I lb 0) : g_Met w g_n I J R yX7_isDead cX7_isDead 2 (some .boolean) 0 0 0 [(gvr w 548), (gvI s)] (g_post (some (gvI (g_b (I (lb + 2 + s.toNat) 4 = 1)))) g_n I J R) := by
  refine g_intro (own := RX7) [some (gvr w 548), some (gvI s)] (by decide +kernel) rfl (by decide) (Nat.le_of_ble_eq_true rfl) rfl (fun i v hv => g_args 0 i v hv rfl) (fun x hc hm => ?_)
  have q := hL.1
  refine g_aldn hc dX7_isDead_0 rfl ?_
  refine g_getRvk hc lk_X7_25 ca_548 (rc_548_3 hR) dX7_isDead_1 ?_
  refine g_getRk hc lk_X7_62 (la_0 hlb) (rl_2 hR hlb) dX7_isDead_4 ?_
  refine g_iload_n hc dX7_isDead_7 rfl ?_
  refine g_aaldk hc (la_1 hlb) (by decide) rfl rfl (by decide) (by omega) (by omega) (rl_has hR hlb (by omega) (by omega)) dX7_isDead_8 ?_
  refine g_iconst hc dX7_isDead_9 ?_
  refine g_iald hc (la_has hlb (by omega) (by omega)) (by decide) (by omega) (by omega) dX7_isDead_10 ?_
  refine g_iconst hc dX7_isDead_11 ?_
  refine g_icmp_ne (tgt := 19) hc dX7_isDead_12 (by decide) (by first | exact hI _ _ | exact hxI2 _ _ | exact hIa _ _ | exact hIb _ _ | exact g_b32 | exact g_and32 | assumption | exact ⟨by omega, by omega⟩) (by first | exact hI _ _ | exact hxI2 _ _ | exact hIa _ _ | exact hIb _ _ | exact g_b32 | exact g_and32 | assumption | exact ⟨by omega, by omega⟩) (fun c1 => ?_) (fun c1 => ?_)
  · skip
    refine g_iconst hc dX7_isDead_19 ?_
    refine g_zret hc hm (by first | exact g_b01 | omega) dX7_isDead_20 ?_
    first | (exfalso; omega) | exact ⟨by rw [g_b1 (by assumption)], rfl, rfl, rfl, rfl⟩ | exact ⟨by rw [g_b0 (by assumption)], rfl, rfl, rfl, rfl⟩
  · skip
    refine g_iconst hc dX7_isDead_15 ?_
    refine g_goto (tgt := 20) hc dX7_isDead_16 (by decide) ?_
    refine g_zret hc hm (by first | exact g_b01 | omega) dX7_isDead_20 ?_
    first | (exfalso; omega) | exact ⟨by rw [g_b1 (by assumption)], rfl, rfl, rfl, rfl⟩ | exact ⟨by rw [g_b0 (by assumption)], rfl, rfl, rfl, rfl⟩
set_option maxHeartbeats 4000000 in
set_option maxRecDepth 100000 in
/-- X7_isThere -/
theorem c_X7_isThere (w : g_W) {I : g_I} {J : g_J} {R : g_R} {lb tx : Nat} (hR : g_rf w R lb tx) (hI : ∀ k j, g32 (I k j)) (hlb : g_life lb) (hL : g_lok I lb) {s : Int} (h1 : 0 ≤ s ∧ s < I lb 0) : g_Met w g_n I J R yX7_isThere cX7_isThere 3 (some .boolean) 2 0 0 [(gvr w 548), (gvI s)] (g_post (some (gvI (g_b (g_thr I lb s = true)))) g_n I J R) := by
  refine g_intro (own := RX7) [some (gvr w 548), some (gvI s), none] (by decide +kernel) rfl (by decide) (Nat.le_of_ble_eq_true rfl) rfl (fun i v hv => g_args 1 i v hv rfl) (fun x hc hm => ?_)
  have q := hL.1
  have qf := hL.2.1
  obtain ⟨q1, q2⟩ := g_lok_s hL h1
  refine g_iconst hc dX7_isThere_0 ?_
  refine g_istore_2 hc dX7_isThere_1 rfl ?_
  have lp_2 : ∀ (fu : Nat) (i : Int), 0 ≤ i → i ≤ I (lb + 14) s → g_thr I lb s = g_all (fun i => decide (g_bit (I 550 (4 + I (lb + 16 + s.toNat) i)) (I (lb + 29 + s.toNat) i))) (I (lb + 14) s - i).toNat i → I (lb + 14) s - i < (fu : Int) → G w x (g_post (some (gvI (g_b (g_thr I lb s = true)))) g_n I J R) 0 0 g_n I J R 2 [some (gvr w 548), some (gvI s), some (gvI i)] [] := by
    intro fu
    induction fu with
    | zero => intro i h3 h4 h5 hfu; exfalso; omega
    | succ fu ih =>
      intro i h3 h4 h5 hfu
      have ih_2 := ih
      refine g_iload_n hc dX7_isThere_2 rfl ?_
      refine g_aldn hc dX7_isThere_3 rfl ?_
      refine g_getRvk hc lk_X7_25 ca_548 (rc_548_3 hR) dX7_isThere_4 ?_
      refine g_getRk hc lk_X7_40 (la_0 hlb) (rl_3 hR hlb) dX7_isThere_7 ?_
      refine g_iload_n hc dX7_isThere_10 rfl ?_
      refine g_iald hc (la_14 hlb) (by decide) (by omega) (by omega) dX7_isThere_11 ?_
      refine g_icmp_ge (tgt := 52) hc dX7_isThere_12 (by decide) (by first | exact hI _ _ | exact hxI2 _ _ | exact hIa _ _ | exact hIb _ _ | exact g_b32 | exact g_and32 | assumption | exact ⟨by omega, by omega⟩) (by first | exact hI _ _ | exact hxI2 _ _ | exact hIa _ _ | exact hIb _ _ | exact g_b32 | exact g_and32 | assumption | exact ⟨by omega, by omega⟩) (fun c1 => ?_) (fun c1 => ?_)
      · skip
        refine g_iconst hc dX7_isThere_52 ?_
        refine g_zret hc hm (by first | exact g_b01 | omega) dX7_isThere_53 ?_
        first | (exfalso; omega) | exact ⟨by rw [g_b0 (by rw [h5, g_all_f (by omega) (by simpa using c2)]; decide)], rfl, rfl, rfl, rfl⟩ | exact ⟨by rw [g_b1 (by rw [h5, g_all_e (by omega)])], rfl, rfl, rfl, rfl⟩
      · skip
        refine g_aldn hc dX7_isThere_15 rfl ?_
        have q3 := q2 i h3 (by omega)
        refine g_aldn hc dX7_isThere_16 rfl ?_
        refine g_getRvk hc lk_X7_25 ca_548 (rc_548_3 hR) dX7_isThere_17 ?_
        refine g_getRk hc lk_X7_43 (la_0 hlb) (rl_4 hR hlb) dX7_isThere_20 ?_
        refine g_iload_n hc dX7_isThere_23 rfl ?_
        refine g_aaldk hc (la_15 hlb) (by decide) rfl rfl (by decide) (by omega) (by omega) (rl_wf hR hlb (by omega) (by omega)) dX7_isThere_24 ?_
        refine g_iload_n hc dX7_isThere_25 rfl ?_
        refine g_iald hc (la_wf hlb (by omega) (by omega)) (by decide) (by omega) (by omega) dX7_isThere_26 ?_
        refine g_aldn hc dX7_isThere_27 rfl ?_
        refine g_getRvk hc lk_X7_25 ca_548 (rc_548_3 hR) dX7_isThere_28 ?_
        refine g_getRk hc lk_X7_47 (la_0 hlb) (rl_5 hR hlb) dX7_isThere_31 ?_
        refine g_iload_n hc dX7_isThere_34 rfl ?_
        refine g_aaldk hc (la_28 hlb) (by decide) rfl rfl (by decide) (by omega) (by omega) (rl_wb hR hlb (by omega) (by omega)) dX7_isThere_35 ?_
        refine g_iload_n hc dX7_isThere_36 rfl ?_
        refine g_iald hc (la_wb hlb (by omega) (by omega)) (by decide) (by omega) (by omega) dX7_isThere_37 ?_
        refine g_V2r hc (c_X7_isOpen w hR hI (by omega)) my_X7_isOpen mv_X7_isOpen ca_548 rfl rfl lm_X7_50 rfl (by decide) (Nat.le_of_ble_eq_true rfl) hm dX7_isThere_38 ?_
        refine g_ifb_ne (tgt := 46) hc dX7_isThere_41 (by decide)  (fun c2 => ?_) (fun c2 => ?_)
        · skip
          refine g_iinc_2 hc dX7_isThere_46 rfl ?_
          refine g_goto (tgt := 2) hc dX7_isThere_49 (by decide) ?_
          refine ih_2 _ ?_ ?_ ?_ ?_
          · omega
          · omega
          · rw [h5, g_all_t (by omega) (decide_eq_true c2)]
          · omega
        · skip
          refine g_iconst hc dX7_isThere_44 ?_
          refine g_zret hc hm (by first | exact g_b01 | omega) dX7_isThere_45 ?_
          first | (exfalso; omega) | exact ⟨by rw [g_b0 (by rw [h5, g_all_f (by omega) (by simpa using c2)]; decide)], rfl, rfl, rfl, rfl⟩ | exact ⟨by rw [g_b1 (by rw [h5, g_all_e (by omega)])], rfl, rfl, rfl, rfl⟩
  refine lp_2 (I (lb + 14) s + 1).toNat _ ?_ ?_ ?_ (?_)
  · omega
  · omega
  · rw [Int.sub_zero]; rfl
  · omega
set_option maxHeartbeats 4000000 in
set_option maxRecDepth 100000 in
/-- X7_thereBits -/
theorem c_X7_thereBits (w : g_W) {I : g_I} {J : g_J} {R : g_R} {lb tx : Nat} (hR : g_rf w R lb tx) (hI : ∀ k j, g32 (I k j)) (hlb : g_life lb) (hL : g_lok I lb)  : g_Met w g_n I J R yX7_thereBits cX7_thereBits 3 (some .int) 3 0 0 [(gvr w 548)] (g_post (some (gvI (g_thb I lb))) g_n I J R) := by
  refine g_intro (own := RX7) [some (gvr w 548), none, none] (by decide +kernel) rfl (by decide) (Nat.le_of_ble_eq_true rfl) rfl (fun i v hv => g_args 2 i v hv rfl) (fun x hc hm => ?_)
  have q := hL.1
  refine g_iconst hc dX7_thereBits_0 ?_
  refine g_istore_1 hc dX7_thereBits_1 rfl ?_
  refine g_iconst hc dX7_thereBits_2 ?_
  refine g_istore_2 hc dX7_thereBits_3 rfl ?_
  have lp_4 : ∀ (fu : Nat) (a i : Int), 0 ≤ i → i ≤ I lb 0 → a = g_ors (fun s => if g_thr I lb s = true then g_shl 1 s else 0) i.toNat → I lb 0 - i < (fu : Int) → G w x (g_post (some (gvI (g_thb I lb))) g_n I J R) 0 0 g_n I J R 4 [some (gvr w 548), some (gvI a), some (gvI i)] [] := by
    intro fu
    induction fu with
    | zero => intro a i h3 h4 h5 hfu; exfalso; omega
    | succ fu ih =>
      intro a i h3 h4 h5 hfu
      have ih_4 := ih
      refine g_iload_n hc dX7_thereBits_4 rfl ?_
      refine g_aldn hc dX7_thereBits_5 rfl ?_
      refine g_getRvk hc lk_X7_25 ca_548 (rc_548_3 hR) dX7_thereBits_6 ?_
      refine g_getI' hc lk_X7_54 (la_0 hlb) 0 rfl dX7_thereBits_9 ?_
      refine g_icmp_ge (tgt := 39) hc dX7_thereBits_12 (by decide) (by first | exact hI _ _ | exact hxI2 _ _ | exact hIa _ _ | exact hIb _ _ | exact g_b32 | exact g_and32 | assumption | exact ⟨by omega, by omega⟩) (by first | exact hI _ _ | exact hxI2 _ _ | exact hIa _ _ | exact hIb _ _ | exact g_b32 | exact g_and32 | assumption | exact ⟨by omega, by omega⟩) (fun c1 => ?_) (fun c1 => ?_)
      · skip
        refine g_iload_n hc dX7_thereBits_39 rfl ?_
        refine g_iret hc hm dX7_thereBits_40 ?_
        exact ⟨by rw [h5, show i = I lb 0 by omega]; rfl, rfl, rfl, rfl, rfl⟩
      · skip
        refine g_iload_n hc dX7_thereBits_15 rfl ?_
        refine g_aldn hc dX7_thereBits_16 rfl ?_
        refine g_iload_n hc dX7_thereBits_17 rfl ?_
        refine g_V1r hc (c_X7_isThere w hR hI hlb hL (by first | omega | (rw [g_off_rf _ (g_nl hlb (by omega) (by omega))]; omega))) my_X7_isThere mv_X7_isThere ca_548 rfl rfl lm_X7_58 rfl (by decide) (Nat.le_of_ble_eq_true rfl) hm dX7_thereBits_18 ?_
        refine g_ifb_eq (tgt := 30) hc dX7_thereBits_21 (by decide)  (fun c2 => ?_) (fun c2 => ?_)
        · skip
          refine g_iconst hc dX7_thereBits_30 ?_
          refine g_ior hc dX7_thereBits_31 ?_
          refine g_istore_1 hc dX7_thereBits_32 rfl ?_
          refine g_iinc_2 hc dX7_thereBits_33 rfl ?_
          refine g_goto (tgt := 4) hc dX7_thereBits_36 (by decide) ?_
          refine ih_4 _ _ ?_ ?_ ?_ ?_
          · omega
          · omega
          · rw [h5, g_ors_i h3]; first | rw [if_pos c2] | rw [if_neg c2]
          · omega
        · skip
          refine g_iconst hc dX7_thereBits_24 ?_
          refine g_iload_n hc dX7_thereBits_25 rfl ?_
          refine g_ishl hc dX7_thereBits_26 ?_
          refine g_goto (tgt := 31) hc dX7_thereBits_27 (by decide) ?_
          refine g_ior hc dX7_thereBits_31 ?_
          refine g_istore_1 hc dX7_thereBits_32 rfl ?_
          refine g_iinc_2 hc dX7_thereBits_33 rfl ?_
          refine g_goto (tgt := 4) hc dX7_thereBits_36 (by decide) ?_
          refine ih_4 _ _ ?_ ?_ ?_ ?_
          · omega
          · omega
          · rw [h5, g_ors_i h3]; first | rw [if_pos c2] | rw [if_neg c2]
          · omega
  refine lp_4 (I lb 0 + 1).toNat _ _ ?_ ?_ ?_ (?_)
  · omega
  · omega
  · rfl
  · omega
