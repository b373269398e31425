set_option maxHeartbeats 4000000 in
set_option maxRecDepth 100000 in
/-- X7_rankOf -/
theorem c_X7_rankOf (w : g_W) {I : g_I} {J : g_J} {R : g_R} {lb tx : Nat} (hR : g_rf w R lb tx) (hlb : g_life lb) {I2 : g_I} (hI : ∀ k j, g32 (I k j)) (hsI2 : g_off I I2) (hxI2 : ∀ k j, g32 (I2 k j)) (hC : g_cin I lb) {f r o : Int} (h1 : 0 ≤ f ∧ f < I lb 1) (h2 : 0 ≤ r ∧ r < I (lb + 43) f) (h3 : 0 ≤ o ∧ o ≤ 1000) : g_Met w g_n I2 J R yX7_rankOf cX7_rankOf 4 (some .int) 3 0 0 [(gvr w 548), (gvI f), (gvI r), (gvI o)] (fun rr nn II JJ RR => g_rel w (some (gvI (g_rnk I lb f r o))) g_sT I2 J R rr nn II JJ RR ∧ -1000300 ≤ g_rnk I lb f r o ∧ g_rnk I lb f r o ≤ 1000300) := by
  refine g_intro (own := RX7) [some (gvr w 548), some (gvI f), some (gvI r), some (gvI o)] (by decide +kernel) rfl (by decide) (Nat.le_of_ble_eq_true rfl) rfl (fun i v hv => g_args 0 i v hv rfl) (fun x hc hm => ?_)
  have hL := hC.1
  obtain ⟨hn0, hn1, hLs, hLf⟩ := id hL
  obtain ⟨-, hC1, hC2, hC3, hC4, hC5, hC6, hC7⟩ := id hC
  have hlb5 := hlb
  unfold g_life at hlb5
  have hdI2 : ∀ k : Nat, ¬ g_sT k → I2 k = I2 k := fun _ _ => rfl
  obtain ⟨hk2, -, hy, hit⟩ := hLf f h1.1 h1.2
  obtain ⟨hi0, hi1, hi2, hi3, -, -⟩ := hit r h2.1 h2.2
  refine g_aldn hc dX7_rankOf_0 rfl ?_
  refine g_getRk hc lk_X7_12 ca_548 (rc_548_1 hR) dX7_rankOf_1 ?_
  refine g_getRk hc lk_X7_33 ca_549 (rc_549_0 hR) dX7_rankOf_4 ?_
  refine g_iconst hc dX7_rankOf_7 ?_
  refine g_ialde hc ca_550 (by decide) (by omega) (by omega) (congrFun (hsI2 _ (by decide)) _) dX7_rankOf_8 ?_
  refine g_iconst hc dX7_rankOf_9 ?_
  refine g_icmp_ne (tgt := 15) hc dX7_rankOf_10 (by decide) (by first | exact hI _ _ | exact hxI2 _ _ | exact hIa _ _ | exact hIb _ _ | exact g_b32 | exact g_and32 | assumption | exact ⟨by omega, by omega⟩) (by first | exact hI _ _ | exact hxI2 _ _ | exact hIa _ _ | exact hIb _ _ | exact g_b32 | exact g_and32 | assumption | exact ⟨by omega, by omega⟩) (fun c1 => ?_) (fun c1 => ?_)
  · skip
    refine g_aldn hc dX7_rankOf_15 rfl ?_
    refine g_getRk hc lk_X7_12 ca_548 (rc_548_1 hR) dX7_rankOf_16 ?_
    refine g_getRk hc lk_X7_33 ca_549 (rc_549_0 hR) dX7_rankOf_19 ?_
    refine g_iconst hc dX7_rankOf_22 ?_
    refine g_ialde hc ca_550 (by decide) (by omega) (by omega) (congrFun (hsI2 _ (by decide)) _) dX7_rankOf_23 ?_
    refine g_if_ne (tgt := 40) hc dX7_rankOf_24 (by decide) (by first | exact hI _ _ | exact hxI2 _ _ | exact hIa _ _ | exact hIb _ _ | exact g_b32 | exact g_and32 | assumption | exact ⟨by omega, by omega⟩) (fun c2 => ?_) (fun c2 => ?_)
    · skip
      refine g_iconst hc dX7_rankOf_40 ?_
      refine g_iret hc hm dX7_rankOf_41 ?_
      first | (exfalso; omega) | (rw [g_rnk, if_pos (by assumption)]; exact ⟨⟨rfl, rfl, hdI2, hxI2, rfl, rfl⟩, by omega⟩) | (rw [g_rnk, if_neg (by assumption), if_pos (by omega)]; exact ⟨⟨rfl, rfl, hdI2, hxI2, rfl, rfl⟩, by omega⟩) | (rw [g_rnk, if_neg (by assumption), if_neg (by omega)]; exact ⟨⟨rfl, rfl, hdI2, hxI2, rfl, rfl⟩, hb11⟩)
    · skip
      refine g_aldn hc dX7_rankOf_27 rfl ?_
      refine g_getRk hc lk_X7_12 ca_548 (rc_548_1 hR) dX7_rankOf_28 ?_
      refine g_getRk hc lk_X7_33 ca_549 (rc_549_0 hR) dX7_rankOf_31 ?_
      refine g_iconst hc dX7_rankOf_34 ?_
      refine g_ialde hc ca_550 (by decide) (by omega) (by omega) (congrFun (hsI2 _ (by decide)) _) dX7_rankOf_35 ?_
      refine g_iconst hc dX7_rankOf_36 ?_
      refine g_icmp_ne (tgt := 42) hc dX7_rankOf_37 (by decide) (by first | exact hI _ _ | exact hxI2 _ _ | exact hIa _ _ | exact hIb _ _ | exact g_b32 | exact g_and32 | assumption | exact ⟨by omega, by omega⟩) (by first | exact hI _ _ | exact hxI2 _ _ | exact hIa _ _ | exact hIb _ _ | exact g_b32 | exact g_and32 | assumption | exact ⟨by omega, by omega⟩) (fun c3 => ?_) (fun c3 => ?_)
      · skip
        refine g_aldn hc dX7_rankOf_42 rfl ?_
        refine g_getRk hc lk_X7_18 ca_548 (rc_548_2 hR) dX7_rankOf_43 ?_
        refine g_iconst hc dX7_rankOf_46 ?_
        refine g_aldn hc dX7_rankOf_47 rfl ?_
        refine g_getRvk hc lk_X7_25 ca_548 (rc_548_3 hR) dX7_rankOf_48 ?_
        refine g_iload_n hc dX7_rankOf_51 rfl ?_
        refine g_iload_n hc dX7_rankOf_52 rfl ?_
        refine g_iconst hc dX7_rankOf_53 ?_
        refine g_V3r hc (c_X4_item w hR hxI2 hlb (by omega) (by omega) (by omega)) my_X4_item mv_X4_item (la_0 hlb) rfl rfl lm_X7_93 rfl (by decide) (Nat.le_of_ble_eq_true rfl) hm dX7_rankOf_54 ?_
        rw [show I2 (lb + 47 + (f * 4 + r).toNat) 1 = I (lb + 47 + (f * 4 + r).toNat) 1 from by rw [hsI2 _ (g_nl hlb (by omega) (by omega))]]
        obtain ⟨I3, hI3⟩ : ∃ I3, I3 = g_up I2 554 0 (I (lb + 47 + (f * 4 + r).toNat) 1) := ⟨_, rfl⟩
        have hsI3 : g_off I I3 := fun k hk => by
          rw [hI3]; funext j; rw [g_up_k (by omega)]; exact congrFun (hsI2 k hk) j
        have hfI3 : ∀ k : Nat, k ≠ 554 → I3 k = I2 k := fun k hk => by rw [hI3]; funext j; exact g_up_k hk
        have hdI3 : ∀ k : Nat, ¬ g_sT k → I3 k = I2 k := fun k hk => (hfI3 k (by omega)).trans (hdI2 k hk)
        have hxI3 : ∀ k j, g32 (I3 k j) := by rw [hI3]; exact g_up32 hxI2 (by first | exact hI _ _ | exact hxI2 _ _ | exact hIa _ _ | exact hIb _ _ | exact g_b32 | exact g_and32 | assumption | exact ⟨by omega, by omega⟩)
        refine g_iaste (I2 := I3) hc ca_554 (by decide) (by omega) (by omega) hI3.symm dX7_rankOf_57 ?_
        refine g_aldn hc dX7_rankOf_58 rfl ?_
        refine g_getRk hc lk_X7_18 ca_548 (rc_548_2 hR) dX7_rankOf_59 ?_
        refine g_iconst hc dX7_rankOf_62 ?_
        refine g_aldn hc dX7_rankOf_63 rfl ?_
        refine g_getRvk hc lk_X7_25 ca_548 (rc_548_3 hR) dX7_rankOf_64 ?_
        refine g_iload_n hc dX7_rankOf_67 rfl ?_
        refine g_iload_n hc dX7_rankOf_68 rfl ?_
        refine g_iconst hc dX7_rankOf_69 ?_
        refine g_V3r hc (c_X4_item w hR hxI3 hlb (by omega) (by omega) (by omega)) my_X4_item mv_X4_item (la_0 hlb) rfl rfl lm_X7_93 rfl (by decide) (Nat.le_of_ble_eq_true rfl) hm dX7_rankOf_70 ?_
        rw [show I3 (lb + 47 + (f * 4 + r).toNat) 2 = I (lb + 47 + (f * 4 + r).toNat) 2 from by rw [hsI3 _ (g_nl hlb (by omega) (by omega))]]
        obtain ⟨I4, hI4⟩ : ∃ I4, I4 = g_up I3 554 1 (I (lb + 47 + (f * 4 + r).toNat) 2) := ⟨_, rfl⟩
        have hsI4 : g_off I I4 := fun k hk => by
          rw [hI4]; funext j; rw [g_up_k (by omega)]; exact congrFun (hsI3 k hk) j
        have hfI4 : ∀ k : Nat, k ≠ 554 → I4 k = I3 k := fun k hk => by rw [hI4]; funext j; exact g_up_k hk
        have hdI4 : ∀ k : Nat, ¬ g_sT k → I4 k = I2 k := fun k hk => (hfI4 k (by omega)).trans (hdI3 k hk)
        have hxI4 : ∀ k j, g32 (I4 k j) := by rw [hI4]; exact g_up32 hxI3 (by first | exact hI _ _ | exact hxI2 _ _ | exact hIa _ _ | exact hIb _ _ | exact g_b32 | exact g_and32 | assumption | exact ⟨by omega, by omega⟩)
        refine g_iaste (I2 := I4) hc ca_554 (by decide) (by omega) (by omega) hI4.symm dX7_rankOf_73 ?_
        refine g_aldn hc dX7_rankOf_74 rfl ?_
        refine g_getRk hc lk_X7_18 ca_548 (rc_548_2 hR) dX7_rankOf_75 ?_
        refine g_iconst hc dX7_rankOf_78 ?_
        refine g_aldn hc dX7_rankOf_79 rfl ?_
        refine g_getRvk hc lk_X7_25 ca_548 (rc_548_3 hR) dX7_rankOf_80 ?_
        refine g_iload_n hc dX7_rankOf_83 rfl ?_
        refine g_iload_n hc dX7_rankOf_84 rfl ?_
        refine g_iconst hc dX7_rankOf_85 ?_
        refine g_V3r hc (c_X4_item w hR hxI4 hlb (by omega) (by omega) (by omega)) my_X4_item mv_X4_item (la_0 hlb) rfl rfl lm_X7_93 rfl (by decide) (Nat.le_of_ble_eq_true rfl) hm dX7_rankOf_86 ?_
        rw [show I4 (lb + 47 + (f * 4 + r).toNat) 3 = I (lb + 47 + (f * 4 + r).toNat) 3 from by rw [hsI4 _ (g_nl hlb (by omega) (by omega))]]
        obtain ⟨I5, hI5⟩ : ∃ I5, I5 = g_up I4 554 2 (I (lb + 47 + (f * 4 + r).toNat) 3) := ⟨_, rfl⟩
        have hsI5 : g_off I I5 := fun k hk => by
          rw [hI5]; funext j; rw [g_up_k (by omega)]; exact congrFun (hsI4 k hk) j
        have hfI5 : ∀ k : Nat, k ≠ 554 → I5 k = I4 k := fun k hk => by rw [hI5]; funext j; exact g_up_k hk
        have hdI5 : ∀ k : Nat, ¬ g_sT k → I5 k = I2 k := fun k hk => (hfI5 k (by omega)).trans (hdI4 k hk)
        have hxI5 : ∀ k j, g32 (I5 k j) := by rw [hI5]; exact g_up32 hxI4 (by first | exact hI _ _ | exact hxI2 _ _ | exact hIa _ _ | exact hIb _ _ | exact g_b32 | exact g_and32 | assumption | exact ⟨by omega, by omega⟩)
        refine g_iaste (I2 := I5) hc ca_554 (by decide) (by omega) (by omega) hI5.symm dX7_rankOf_89 ?_
        refine g_aldn hc dX7_rankOf_90 rfl ?_
        refine g_getRk hc lk_X7_18 ca_548 (rc_548_2 hR) dX7_rankOf_91 ?_
        refine g_iconst hc dX7_rankOf_94 ?_
        refine g_aldn hc dX7_rankOf_95 rfl ?_
        refine g_getRvk hc lk_X7_25 ca_548 (rc_548_3 hR) dX7_rankOf_96 ?_
        refine g_getRk hc lk_X7_96 (la_0 hlb) (rl_6 hR hlb) dX7_rankOf_99 ?_
        refine g_iload_n hc dX7_rankOf_102 rfl ?_
        refine g_ialde hc (la_41 hlb) (by decide) (by omega) (by omega) (congrFun (hsI5 _ (by omega)) _) dX7_rankOf_103 ?_
        obtain ⟨I6, hI6⟩ : ∃ I6, I6 = g_up I5 554 3 (I (lb + 41) f) := ⟨_, rfl⟩
        have hsI6 : g_off I I6 := fun k hk => by
          rw [hI6]; funext j; rw [g_up_k (by omega)]; exact congrFun (hsI5 k hk) j
        have hfI6 : ∀ k : Nat, k ≠ 554 → I6 k = I5 k := fun k hk => by rw [hI6]; funext j; exact g_up_k hk
        have hdI6 : ∀ k : Nat, ¬ g_sT k → I6 k = I2 k := fun k hk => (hfI6 k (by omega)).trans (hdI5 k hk)
        have hxI6 : ∀ k j, g32 (I6 k j) := by rw [hI6]; exact g_up32 hxI5 (by first | exact hI _ _ | exact hxI2 _ _ | exact hIa _ _ | exact hIb _ _ | exact g_b32 | exact g_and32 | assumption | exact ⟨by omega, by omega⟩)
        refine g_iaste (I2 := I6) hc ca_554 (by decide) (by omega) (by omega) hI6.symm dX7_rankOf_104 ?_
        refine g_aldn hc dX7_rankOf_105 rfl ?_
        refine g_getRk hc lk_X7_18 ca_548 (rc_548_2 hR) dX7_rankOf_106 ?_
        refine g_iconst hc dX7_rankOf_109 ?_
        refine g_iconst hc dX7_rankOf_110 ?_
        obtain ⟨I7, hI7⟩ : ∃ I7, I7 = g_up I6 554 4 0 := ⟨_, rfl⟩
        have hsI7 : g_off I I7 := fun k hk => by
          rw [hI7]; funext j; rw [g_up_k (by omega)]; exact congrFun (hsI6 k hk) j
        have hfI7 : ∀ k : Nat, k ≠ 554 → I7 k = I6 k := fun k hk => by rw [hI7]; funext j; exact g_up_k hk
        have hdI7 : ∀ k : Nat, ¬ g_sT k → I7 k = I2 k := fun k hk => (hfI7 k (by omega)).trans (hdI6 k hk)
        have hxI7 : ∀ k j, g32 (I7 k j) := by rw [hI7]; exact g_up32 hxI6 (by first | exact hI _ _ | exact hxI2 _ _ | exact hIa _ _ | exact hIb _ _ | exact g_b32 | exact g_and32 | assumption | exact ⟨by omega, by omega⟩)
        refine g_iaste (I2 := I7) hc ca_554 (by decide) (by omega) (by omega) hI7.symm dX7_rankOf_111 ?_
        refine g_aldn hc dX7_rankOf_112 rfl ?_
        refine g_getRk hc lk_X7_18 ca_548 (rc_548_2 hR) dX7_rankOf_113 ?_
        refine g_iconst hc dX7_rankOf_116 ?_
        refine g_iload_n hc dX7_rankOf_117 rfl ?_
        obtain ⟨I8, hI8⟩ : ∃ I8, I8 = g_up I7 554 5 o := ⟨_, rfl⟩
        have hsI8 : g_off I I8 := fun k hk => by
          rw [hI8]; funext j; rw [g_up_k (by omega)]; exact congrFun (hsI7 k hk) j
        have hfI8 : ∀ k : Nat, k ≠ 554 → I8 k = I7 k := fun k hk => by rw [hI8]; funext j; exact g_up_k hk
        have hdI8 : ∀ k : Nat, ¬ g_sT k → I8 k = I2 k := fun k hk => (hfI8 k (by omega)).trans (hdI7 k hk)
        have hxI8 : ∀ k j, g32 (I8 k j) := by rw [hI8]; exact g_up32 hxI7 (by first | exact hI _ _ | exact hxI2 _ _ | exact hIa _ _ | exact hIb _ _ | exact g_b32 | exact g_and32 | assumption | exact ⟨by omega, by omega⟩)
        refine g_iaste (I2 := I8) hc ca_554 (by decide) (by omega) (by omega) hI8.symm dX7_rankOf_118 ?_
        refine g_aldn hc dX7_rankOf_119 rfl ?_
        refine g_getRk hc lk_X7_18 ca_548 (rc_548_2 hR) dX7_rankOf_120 ?_
        refine g_bipush hc dX7_rankOf_123 (by decide +kernel) ?_
        refine g_iload_n hc dX7_rankOf_125 rfl ?_
        obtain ⟨I9, hI9⟩ : ∃ I9, I9 = g_up I8 554 6 r := ⟨_, rfl⟩
        have hsI9 : g_off I I9 := fun k hk => by
          rw [hI9]; funext j; rw [g_up_k (by omega)]; exact congrFun (hsI8 k hk) j
        have hfI9 : ∀ k : Nat, k ≠ 554 → I9 k = I8 k := fun k hk => by rw [hI9]; funext j; exact g_up_k hk
        have hdI9 : ∀ k : Nat, ¬ g_sT k → I9 k = I2 k := fun k hk => (hfI9 k (by omega)).trans (hdI8 k hk)
        have hxI9 : ∀ k j, g32 (I9 k j) := by rw [hI9]; exact g_up32 hxI8 (by first | exact hI _ _ | exact hxI2 _ _ | exact hIa _ _ | exact hIb _ _ | exact g_b32 | exact g_and32 | assumption | exact ⟨by omega, by omega⟩)
        refine g_iaste (I2 := I9) hc ca_554 (by decide) (by omega) (by omega) hI9.symm dX7_rankOf_126 ?_
        refine g_aldn hc dX7_rankOf_127 rfl ?_
        refine g_getRk hc lk_X7_18 ca_548 (rc_548_2 hR) dX7_rankOf_128 ?_
        refine g_bipush hc dX7_rankOf_131 (by decide +kernel) ?_
        refine g_aldn hc dX7_rankOf_133 rfl ?_
        refine g_getRvk hc lk_X7_25 ca_548 (rc_548_3 hR) dX7_rankOf_134 ?_
        refine g_iload_n hc dX7_rankOf_137 rfl ?_
        refine g_iload_n hc dX7_rankOf_138 rfl ?_
        refine g_V2r hc (c_X4_weight w hR hxI9 hlb (by omega) (by omega)) my_X4_weight mv_X4_weight (la_0 hlb) rfl rfl lm_X7_99 rfl (by decide) (Nat.le_of_ble_eq_true rfl) hm dX7_rankOf_139 ?_
        rw [show I9 (lb + 47 + (f * 4 + r).toNat) 0 = I (lb + 47 + (f * 4 + r).toNat) 0 from by rw [hsI9 _ (g_nl hlb (by omega) (by omega))]]
        obtain ⟨I10, hI10⟩ : ∃ I10, I10 = g_up I9 554 7 (I (lb + 47 + (f * 4 + r).toNat) 0) := ⟨_, rfl⟩
        have hsI10 : g_off I I10 := fun k hk => by
          rw [hI10]; funext j; rw [g_up_k (by omega)]; exact congrFun (hsI9 k hk) j
        have hfI10 : ∀ k : Nat, k ≠ 554 → I10 k = I9 k := fun k hk => by rw [hI10]; funext j; exact g_up_k hk
        have hdI10 : ∀ k : Nat, ¬ g_sT k → I10 k = I2 k := fun k hk => (hfI10 k (by omega)).trans (hdI9 k hk)
        have hxI10 : ∀ k j, g32 (I10 k j) := by rw [hI10]; exact g_up32 hxI9 (by first | exact hI _ _ | exact hxI2 _ _ | exact hIa _ _ | exact hIb _ _ | exact g_b32 | exact g_and32 | assumption | exact ⟨by omega, by omega⟩)
        refine g_iaste (I2 := I10) hc ca_554 (by decide) (by omega) (by omega) hI10.symm dX7_rankOf_142 ?_
        have hτ : 0 ≤ I 550 1 ∧ I 550 1 < I 0 11 := by omega
        have hT := hC2 (I 550 1) hτ.1 hτ.2
        have h554 : ∀ k : Int, 0 ≤ k → k < 8 → I10 554 k = g_lt8 I lb f r o k := by
          intro k hk0 hk1
          rw [hI10, hI9, hI8, hI7, hI6, hI5, hI4, hI3]
          rcases (show k = 0 ∨ k = 1 ∨ k = 2 ∨ k = 3 ∨ k = 4 ∨ k = 5 ∨ k = 6 ∨ k = 7 by omega) with rfl | rfl | rfl | rfl | rfl | rfl | rfl | rfl <;> simp [g_up, g_lt8]
        have hLb : ∀ k : Int, 0 ≤ k → k < 8 → -1000000 ≤ g_lt8 I lb f r o k ∧ g_lt8 I lb f r o k ≤ 1000000 := by
          intro k hk0 hk1
          rcases (show k = 0 ∨ k = 1 ∨ k = 2 ∨ k = 3 ∨ k = 4 ∨ k = 5 ∨ k = 6 ∨ k = 7 by omega) with rfl | rfl | rfl | rfl | rfl | rfl | rfl | rfl <;> simp [g_lt8] <;> omega
        refine g_aldn hc dX7_rankOf_143 rfl ?_
        refine g_getRk hc lk_X7_29 ca_548 (rc_548_0 hR) dX7_rankOf_144 ?_
        refine g_aldn hc dX7_rankOf_147 rfl ?_
        refine g_getRk hc lk_X7_12 ca_548 (rc_548_1 hR) dX7_rankOf_148 ?_
        refine g_getRk hc lk_X7_33 ca_549 (rc_549_0 hR) dX7_rankOf_151 ?_
        refine g_iconst hc dX7_rankOf_154 ?_
        refine g_ialde hc ca_550 (by decide) (by omega) (by omega) (congrFun (hsI10 _ (by decide)) _) dX7_rankOf_155 ?_
        refine g_aaldk hc ca_516 (by decide) rfl rfl (by decide) (by omega) (by omega) (ra_516 hR (by omega) (by omega)) dX7_rankOf_156 ?_
        refine g_aldn hc dX7_rankOf_157 rfl ?_
        refine g_getRk hc lk_X7_18 ca_548 (rc_548_2 hR) dX7_rankOf_158 ?_
        refine g_V1 hc (c_X9_reckon w hR hxI10 (gt_of (i := I 550 1) (by omega) (by omega)) (g_tok_cg hsI10 (gt_of (i := I 550 1) (by omega) (by omega)) hT) (fun k h0 h1 => by rw [h554 k h0 h1]; exact hLb k h0 h1)) my_X9_reckon mv_X9_reckon (ta_0 (gt_of (i := I 550 1) (by omega) (by omega))) rfl rfl lm_X7_71 rfl (by decide) (Nat.le_of_ble_eq_true rfl) hm dX7_rankOf_161 (fun r11 n11 I11 J11 R11 hp11 => ?_)
        obtain ⟨⟨rfl, rfl, hfI11, hxI11, rfl, rfl⟩, hb11⟩ := g_rconv hsI10 (gt_of (i := I 550 1) (by omega) (by omega)) hT h554 hp11
        have hsI11 : g_off I I11 := fun k hk => (hfI11 k (fun q => hk (by omega))).trans (hsI10 k hk)
        have hdI11 : ∀ k : Nat, ¬ g_sT k → I11 k = I2 k := fun k hk => (hfI11 k (fun q => hk (by omega))).trans (hdI10 k hk)
        refine g_iret hc hm dX7_rankOf_164 ?_
        first | (exfalso; omega) | (rw [g_rnk, if_pos (by assumption)]; exact ⟨⟨rfl, rfl, hdI11, hxI11, rfl, rfl⟩, by omega⟩) | (rw [g_rnk, if_neg (by assumption), if_pos (by omega)]; exact ⟨⟨rfl, rfl, hdI11, hxI11, rfl, rfl⟩, by omega⟩) | (rw [g_rnk, if_neg (by assumption), if_neg (by omega)]; exact ⟨⟨rfl, rfl, hdI11, hxI11, rfl, rfl⟩, hb11⟩)
      · skip
        refine g_iconst hc dX7_rankOf_40 ?_
        refine g_iret hc hm dX7_rankOf_41 ?_
        first | (exfalso; omega) | (rw [g_rnk, if_pos (by assumption)]; exact ⟨⟨rfl, rfl, hdI2, hxI2, rfl, rfl⟩, by omega⟩) | (rw [g_rnk, if_neg (by assumption), if_pos (by omega)]; exact ⟨⟨rfl, rfl, hdI2, hxI2, rfl, rfl⟩, by omega⟩) | (rw [g_rnk, if_neg (by assumption), if_neg (by omega)]; exact ⟨⟨rfl, rfl, hdI2, hxI2, rfl, rfl⟩, hb11⟩)
  · skip
    refine g_iload_n hc dX7_rankOf_13 rfl ?_
    refine g_iret hc hm dX7_rankOf_14 ?_
    first | (exfalso; omega) | (rw [g_rnk, if_pos (by assumption)]; exact ⟨⟨rfl, rfl, hdI2, hxI2, rfl, rfl⟩, by omega⟩) | (rw [g_rnk, if_neg (by assumption), if_pos (by omega)]; exact ⟨⟨rfl, rfl, hdI2, hxI2, rfl, rfl⟩, by omega⟩) | (rw [g_rnk, if_neg (by assumption), if_neg (by omega)]; exact ⟨⟨rfl, rfl, hdI2, hxI2, rfl, rfl⟩, hb11⟩)
set_option maxHeartbeats 4000000 in
set_option maxRecDepth 100000 in
/-- X7_chosen -/
theorem c_X7_chosen (w : g_W) {I : g_I} {J : g_J} {R : g_R} {lb tx : Nat} (hR : g_rf w R lb tx) (hlb : g_life lb) {I2 : g_I} (hI : ∀ k j, g32 (I k j)) (hsI2 : g_off I I2) (hxI2 : ∀ k j, g32 (I2 k j)) (hC : g_cin I lb) {f m : Int} (h1 : 0 ≤ f ∧ f < I lb 1) (h2 : g32 m) : g_Met w g_n I2 J R yX7_chosen cX7_chosen 7 (some .int) 4 0 0 [(gvr w 548), (gvI f), (gvI m)] (fun rr nn II JJ RR => g_rel w (some (gvI (g_cho I lb f m))) g_sT I2 J R rr nn II JJ RR) := by
  refine g_intro (own := RX7) [some (gvr w 548), some (gvI f), some (gvI m), none, none, none, none] (by decide +kernel) rfl (by decide) (Nat.le_of_ble_eq_true rfl) rfl (fun i v hv => g_args 4 i v hv rfl) (fun x hc hm => ?_)
  have hL := hC.1
  obtain ⟨hn0, hn1, hLs, hLf⟩ := id hL
  obtain ⟨-, hC1, hC2, hC3, hC4, hC5, hC6, hC7⟩ := id hC
  have hlb5 := hlb
  unfold g_life at hlb5
  have hdI2 : ∀ k : Nat, ¬ g_sT k → I2 k = I2 k := fun _ _ => rfl
  obtain ⟨hk2, -, hy, hit⟩ := hLf f h1.1 h1.2
  have hbc := g_bc_in (a := m)
  refine g_iconst hc dX7_chosen_0 ?_
  refine g_istore_3 hc dX7_chosen_1 rfl ?_
  refine g_iconst hc dX7_chosen_2 ?_
  refine g_istore_4 hc dX7_chosen_3 rfl ?_
  refine g_iconst hc dX7_chosen_5 ?_
  refine g_istore_5 hc dX7_chosen_6 rfl ?_
  have lp_8 : ∀ (fu : Nat) (a q i : Int) (Im : g_I), 0 ≤ i ∧ i ≤ I (lb + 43) f → (g_chs (fun r => g_rnk I lb f r (g_bc m)) m i.toNat) = (a, q) → (-1 ≤ a ∧ a ≤ 4) ∧ -1000300 ≤ q ∧ q ≤ 1000300 → g_off I Im → (∀ k j, g32 (Im k j)) → (∀ k : Nat, ¬ g_sT k → Im k = I2 k) → I (lb + 43) f - i < (fu : Int) → G w x (fun rr nn II JJ RR => g_rel w (some (gvI (g_cho I lb f m))) g_sT I2 J R rr nn II JJ RR) 0 0 g_n Im J R 8 [some (gvr w 548), some (gvI f), some (gvI m), some (gvI a), some (gvI q), some (gvI i), none] [] := by
    intro fu
    induction fu with
    | zero => intro a q i Im h3 h4 h5 hsIm hxIm hdIm hfu; exfalso; omega
    | succ fu ih =>
      intro a q i Im h3 h4 h5 hsIm hxIm hdIm hfu
      have ih_8 := ih
      refine g_iload hc dX7_chosen_8 rfl ?_
      refine g_aldn hc dX7_chosen_10 rfl ?_
      refine g_getRvk hc lk_X7_25 ca_548 (rc_548_3 hR) dX7_chosen_11 ?_
      refine g_getRk hc lk_X7_81 (la_0 hlb) (rl_8 hR hlb) dX7_chosen_14 ?_
      refine g_iload_n hc dX7_chosen_17 rfl ?_
      refine g_ialde hc (la_43 hlb) (by decide) (by omega) (by omega) (congrFun (hsIm _ (by omega)) _) dX7_chosen_18 ?_
      refine g_icmp_ge (tgt := 70) hc dX7_chosen_19 (by decide) (by first | exact hI _ _ | exact hxI2 _ _ | exact hIa _ _ | exact hIb _ _ | exact g_b32 | exact g_and32 | assumption | exact ⟨by omega, by omega⟩) (by first | exact hI _ _ | exact hxI2 _ _ | exact hIa _ _ | exact hIb _ _ | exact g_b32 | exact g_and32 | assumption | exact ⟨by omega, by omega⟩) (fun c1 => ?_) (fun c1 => ?_)
      · skip
        refine g_iload_n hc dX7_chosen_70 rfl ?_
        refine g_iret hc hm dX7_chosen_71 ?_
        have hE : g_cho I lb f m = a := by rw [g_cho, show (I (lb + 43) f).toNat = i.toNat by congr 1; omega, h4]
        rw [hE]; exact ⟨rfl, rfl, hdIm, hxIm, rfl, rfl⟩
      · skip
        refine g_iload_n hc dX7_chosen_22 rfl ?_
        refine g_iload hc dX7_chosen_23 rfl ?_
        refine g_ishr hc dX7_chosen_25 ?_
        refine g_iconst hc dX7_chosen_26 ?_
        refine g_iand hc dX7_chosen_27 ?_
        refine g_iconst hc dX7_chosen_28 ?_
        refine g_icmp_ne (tgt := 64) hc dX7_chosen_29 (by decide) (by first | exact hI _ _ | exact hxI2 _ _ | exact hIa _ _ | exact hIb _ _ | exact g_b32 | exact g_and32 | assumption | exact ⟨by omega, by omega⟩) (by first | exact hI _ _ | exact hxI2 _ _ | exact hIa _ _ | exact hIb _ _ | exact g_b32 | exact g_and32 | assumption | exact ⟨by omega, by omega⟩) (fun c2 => ?_) (fun c2 => ?_)
        · skip
          refine g_iinc_5 hc dX7_chosen_64 rfl ?_
          refine g_goto (tgt := 8) hc dX7_chosen_67 (by decide) ?_
          refine ih_8 _ _ _ _ ?_ ?_ ?_ ?_ ?_ ?_ ?_
          · omega
          · rw [g_chs_i h3.1, h4]; first | rw [if_neg c2] | rw [if_pos c2, if_pos (Or.inl (by assumption))] | rw [if_pos c2, if_pos (Or.inr (by show q < _; omega))] | rw [if_pos c2, if_neg (fun z => by rcases z with z | z; (exact absurd z (by assumption)); (have z2 : q < _ := z; omega))]
          · omega
          · exact hsIm
          · exact hxIm
          · exact hdIm
          · omega
        · skip
          refine g_aldn hc dX7_chosen_32 rfl ?_
          refine g_iload_n hc dX7_chosen_33 rfl ?_
          refine g_iload hc dX7_chosen_34 rfl ?_
          refine g_iload_n hc dX7_chosen_36 rfl ?_
          refine g_S1r hc (c_J6_bitCount_0f7a4 w) my_J6_bitCount_0f7a4 ms_J6_bitCount_0f7a4 lm_X7_84 rfl (by decide) (Nat.le_of_ble_eq_true rfl) hm dX7_chosen_37 ?_
          refine g_V3 hc (c_X7_rankOf w hR hlb hI hsIm hxIm hC (by omega) (by omega) (by omega)) my_X7_rankOf mv_X7_rankOf ca_548 rfl rfl lm_X7_89 rfl (by decide) (Nat.le_of_ble_eq_true rfl) hm dX7_chosen_40 (fun r3 n3 I3 J3 R3 hp3 => ?_)
          obtain ⟨⟨rfl, rfl, hfI3, hxI3, rfl, rfl⟩, hb3⟩ := hp3
          have hsI3 : g_off I I3 := fun k hk => (hfI3 k (fun q => hk (by omega))).trans (hsIm k hk)
          have hdI3 : ∀ k : Nat, ¬ g_sT k → I3 k = I2 k := fun k hk => (hfI3 k (fun q => hk (by omega))).trans (hdIm k hk)
          refine g_istore_6 hc dX7_chosen_43 rfl ?_
          refine g_iload_n hc dX7_chosen_45 rfl ?_
          refine g_iconst hc dX7_chosen_46 ?_
          refine g_icmp_eq (tgt := 57) hc dX7_chosen_47 (by decide) (by first | exact hI _ _ | exact hxI2 _ _ | exact hIa _ _ | exact hIb _ _ | exact g_b32 | exact g_and32 | assumption | exact ⟨by omega, by omega⟩) (by first | exact hI _ _ | exact hxI2 _ _ | exact hIa _ _ | exact hIb _ _ | exact g_b32 | exact g_and32 | assumption | exact ⟨by omega, by omega⟩) (fun c3 => ?_) (fun c3 => ?_)
          · skip
            refine g_iload hc dX7_chosen_57 rfl ?_
            refine g_istore_3 hc dX7_chosen_59 rfl ?_
            refine g_iload hc dX7_chosen_60 rfl ?_
            refine g_istore_4 hc dX7_chosen_62 rfl ?_
            refine g_iinc_5 hc dX7_chosen_64 rfl ?_
            refine g_goto (tgt := 8) hc dX7_chosen_67 (by decide) ?_
            refine G_sub (L' := [some (gvr w 548), some (gvI f), some (gvI m), some (gvI i), some (gvI (g_rnk I lb f i (g_bc m))), some (gvI (i + 1)), none]) (show g_le _ _ from ⟨rfl, ⟨rfl, ⟨rfl, ⟨rfl, ⟨rfl, ⟨rfl, trivial⟩⟩⟩⟩⟩⟩) ?_
            refine ih_8 _ _ _ _ ?_ ?_ ?_ ?_ ?_ ?_ ?_
            · omega
            · rw [g_chs_i h3.1, h4]; first | rw [if_neg c2] | rw [if_pos c2, if_pos (Or.inl (by assumption))] | rw [if_pos c2, if_pos (Or.inr (by show q < _; omega))] | rw [if_pos c2, if_neg (fun z => by rcases z with z | z; (exact absurd z (by assumption)); (have z2 : q < _ := z; omega))]
            · omega
            · exact hsI3
            · exact hxI3
            · exact hdI3
            · omega
          · skip
            refine g_iload hc dX7_chosen_50 rfl ?_
            refine g_iload hc dX7_chosen_52 rfl ?_
            refine g_icmp_le (tgt := 64) hc dX7_chosen_54 (by decide) (by first | exact hI _ _ | exact hxI2 _ _ | exact hIa _ _ | exact hIb _ _ | exact g_b32 | exact g_and32 | assumption | exact ⟨by omega, by omega⟩) (by first | exact hI _ _ | exact hxI2 _ _ | exact hIa _ _ | exact hIb _ _ | exact g_b32 | exact g_and32 | assumption | exact ⟨by omega, by omega⟩) (fun c4 => ?_) (fun c4 => ?_)
            · skip
              refine g_iinc_5 hc dX7_chosen_64 rfl ?_
              refine g_goto (tgt := 8) hc dX7_chosen_67 (by decide) ?_
              refine G_sub (L' := [some (gvr w 548), some (gvI f), some (gvI m), some (gvI a), some (gvI q), some (gvI (i + 1)), none]) (show g_le _ _ from ⟨rfl, ⟨rfl, ⟨rfl, ⟨rfl, ⟨rfl, ⟨rfl, trivial⟩⟩⟩⟩⟩⟩) ?_
              refine ih_8 _ _ _ _ ?_ ?_ ?_ ?_ ?_ ?_ ?_
              · omega
              · rw [g_chs_i h3.1, h4]; first | rw [if_neg c2] | rw [if_pos c2, if_pos (Or.inl (by assumption))] | rw [if_pos c2, if_pos (Or.inr (by show q < _; omega))] | rw [if_pos c2, if_neg (fun z => by rcases z with z | z; (exact absurd z (by assumption)); (have z2 : q < _ := z; omega))]
              · omega
              · exact hsI3
              · exact hxI3
              · exact hdI3
              · omega
            · skip
              refine g_iload hc dX7_chosen_57 rfl ?_
              refine g_istore_3 hc dX7_chosen_59 rfl ?_
              refine g_iload hc dX7_chosen_60 rfl ?_
              refine g_istore_4 hc dX7_chosen_62 rfl ?_
              refine g_iinc_5 hc dX7_chosen_64 rfl ?_
              refine g_goto (tgt := 8) hc dX7_chosen_67 (by decide) ?_
              refine G_sub (L' := [some (gvr w 548), some (gvI f), some (gvI m), some (gvI i), some (gvI (g_rnk I lb f i (g_bc m))), some (gvI (i + 1)), none]) (show g_le _ _ from ⟨rfl, ⟨rfl, ⟨rfl, ⟨rfl, ⟨rfl, ⟨rfl, trivial⟩⟩⟩⟩⟩⟩) ?_
              refine ih_8 _ _ _ _ ?_ ?_ ?_ ?_ ?_ ?_ ?_
              · omega
              · rw [g_chs_i h3.1, h4]; first | rw [if_neg c2] | rw [if_pos c2, if_pos (Or.inl (by assumption))] | rw [if_pos c2, if_pos (Or.inr (by show q < _; omega))] | rw [if_pos c2, if_neg (fun z => by rcases z with z | z; (exact absurd z (by assumption)); (have z2 : q < _ := z; omega))]
              · omega
              · exact hsI3
              · exact hxI3
              · exact hdI3
              · omega
  refine lp_8 (I (lb + 43) f + 1).toNat _ _ _ _ ?_ ?_ ?_ ?_ ?_ ?_ (?_)
  · omega
  · rfl
  · omega
  · exact hsI2
  · exact hxI2
  · exact hdI2
  · omega
