set_option maxHeartbeats 4000000 in
set_option maxRecDepth 100000 in
/-- X12_self -/
theorem c_X12_self (w : g_W) {I : g_I} {J : g_J} {R : g_R} {lb tx : Nat} (hR : g_rf w R lb tx) (hlb : g_life lb) {I2 : g_I} (hI : ∀ k j, g32 (I k j)) (hsI2 : g_off I I2) (hxI2 : ∀ k j, g32 (I2 k j)) (hC : g_cin I lb) (hTb : I 0 12 = -1 ∨ (0 ≤ I 0 12 ∧ I 0 12 ≤ 2)) {s k : Int} (g1 : g32 s) (g2 : g32 k) (hgd : (0 ≤ s ∧ s < I lb 0) ∧ 0 ≤ k ∧ k ≤ 8) : g_Met w g_n I2 J R yX12_self cX12_self 3 (some .int) 3 0 0 [(gvr w 0), (gvI s), (gvI k)] (fun rr nn II JJ RR => g_rel w (some (gvI (x_slf I lb s k))) g_sc I2 J R rr nn II JJ RR) := by
  refine g_intro (own := RX12) [some (gvr w 0), some (gvI s), some (gvI k)] (by decide +kernel) rfl (by decide) (Nat.le_of_ble_eq_true rfl) rfl (fun i v hv => g_args 0 i v hv rfl) (fun x hc hm => ?_)
  have hL := hC.1
  obtain ⟨hn0, hn1, hLs, hLf⟩ := id hL
  obtain ⟨-, hC1, hC2, hC3, hC4, hC5, hC6, hC7⟩ := id hC
  have hlb5 := hlb
  unfold g_life at hlb5
  have hdI2 : ∀ k : Nat, ¬ g_sc k → I2 k = I2 k := fun _ _ => rfl
  refine g_aldn hc dX12_self_0 rfl ?_
  refine g_getRk hc lk_X12_51 ca_0 (rc_0_5 hR) dX12_self_1 ?_
  refine g_getRvk hc lk_X12_118 ca_548 (rc_548_3 hR) dX12_self_4 ?_
  refine g_iload_n hc dX12_self_7 rfl ?_
  refine g_V1r hc (c_X4_hasLeaf w hR hxI2 hlb (by first | exact hI _ _ | exact hxI2 _ _ | exact hIa _ _ | exact hIb _ _ | exact g_b32 | exact g_and32 | assumption | exact ⟨by omega, by omega⟩)) my_X4_hasLeaf mv_X4_hasLeaf (la_0 hlb) rfl rfl lm_X12_125 rfl (by decide) (Nat.le_of_ble_eq_true rfl) hm dX12_self_8 ?_
  rw [show I2 (lb) 0 = I (lb) 0 from by rw [hsI2 _ (g_nl hlb (by omega) (by omega))]]
  refine g_ifb_eq (tgt := 24) hc dX12_self_11 (by decide)  (fun c1 => ?_) (fun c1 => ?_)
  · exfalso; omega
  · skip
    refine g_iload_n hc dX12_self_14 rfl ?_
    refine g_if_lt (tgt := 24) hc dX12_self_15 (by decide) (by first | exact hI _ _ | exact hxI2 _ _ | exact hIa _ _ | exact hIb _ _ | exact g_b32 | exact g_and32 | assumption | exact ⟨by omega, by omega⟩) (fun c2 => ?_) (fun c2 => ?_)
    · exfalso; omega
    · skip
      refine g_iload_n hc dX12_self_18 rfl ?_
      refine g_bipush hc dX12_self_19 (by decide +kernel) ?_
      refine g_icmp_le (tgt := 34) hc dX12_self_21 (by decide) (by first | exact hI _ _ | exact hxI2 _ _ | exact hIa _ _ | exact hIb _ _ | exact g_b32 | exact g_and32 | assumption | exact ⟨by omega, by omega⟩) (by first | exact hI _ _ | exact hxI2 _ _ | exact hIa _ _ | exact hIb _ _ | exact g_b32 | exact g_and32 | assumption | exact ⟨by omega, by omega⟩) (fun c3 => ?_) (fun c3 => ?_)
      · skip
        refine g_iload_n hc dX12_self_34 rfl ?_
        refine g_bipush hc dX12_self_35 (by decide +kernel) ?_
        refine g_icmp_ne (tgt := 57) hc dX12_self_37 (by decide) (by first | exact hI _ _ | exact hxI2 _ _ | exact hIa _ _ | exact hIb _ _ | exact g_b32 | exact g_and32 | assumption | exact ⟨by omega, by omega⟩) (by first | exact hI _ _ | exact hxI2 _ _ | exact hIa _ _ | exact hIb _ _ | exact g_b32 | exact g_and32 | assumption | exact ⟨by omega, by omega⟩) (fun c4 => ?_) (fun c4 => ?_)
        · skip
          refine g_iload_n hc dX12_self_57 rfl ?_
          refine g_bipush hc dX12_self_58 (by decide +kernel) ?_
          refine g_icmp_ne (tgt := 78) hc dX12_self_60 (by decide) (by first | exact hI _ _ | exact hxI2 _ _ | exact hIa _ _ | exact hIb _ _ | exact g_b32 | exact g_and32 | assumption | exact ⟨by omega, by omega⟩) (by first | exact hI _ _ | exact hxI2 _ _ | exact hIa _ _ | exact hIb _ _ | exact g_b32 | exact g_and32 | assumption | exact ⟨by omega, by omega⟩) (fun c5 => ?_) (fun c5 => ?_)
          · skip
            refine g_aldn hc dX12_self_78 rfl ?_
            refine g_getRk hc lk_X12_51 ca_0 (rc_0_5 hR) dX12_self_79 ?_
            refine g_getRvk hc lk_X12_118 ca_548 (rc_548_3 hR) dX12_self_82 ?_
            refine g_getRk hc lk_X12_143 (la_0 hlb) (rl_2 hR hlb) dX12_self_85 ?_
            refine g_iload_n hc dX12_self_88 rfl ?_
            refine g_aaldk hc (la_1 hlb) (by decide) rfl rfl (by decide) (by omega) (by omega) (rl_has hR hlb (by omega) (by omega)) dX12_self_89 ?_
            refine g_iload_n hc dX12_self_90 rfl ?_
            refine g_ialde hc (la_has hlb (by omega) (by omega)) (by decide) (by omega) (by omega) (congrFun (hsI2 _ (by omega)) _) dX12_self_91 ?_
            refine g_iret hc hm dX12_self_92 ?_
            first | (exfalso; omega) | exact g_relE (by unfold x_slf; rw [if_neg (by omega), if_neg (by omega)]) hdI2 hxI2 | exact g_relE (by unfold x_slf; rw [if_pos (by omega)]) hdI2 hxI2
          · skip
            refine g_aldn hc dX12_self_63 rfl ?_
            refine g_getRk hc lk_X12_51 ca_0 (rc_0_5 hR) dX12_self_64 ?_
            refine g_getRvk hc lk_X12_118 ca_548 (rc_548_3 hR) dX12_self_67 ?_
            refine g_getRk hc lk_X12_139 (la_0 hlb) (rl_3 hR hlb) dX12_self_70 ?_
            refine g_iload_n hc dX12_self_73 rfl ?_
            refine g_ialde hc (la_14 hlb) (by decide) (by omega) (by omega) (congrFun (hsI2 _ (by omega)) _) dX12_self_74 ?_
            refine g_goto (tgt := 92) hc dX12_self_75 (by decide) ?_
            refine g_iret hc hm dX12_self_92 ?_
            first | (exfalso; omega) | exact g_relE (by unfold x_slf; rw [if_neg (by omega), if_neg (by omega)]) hdI2 hxI2 | exact g_relE (by unfold x_slf; rw [if_pos (by omega)]) hdI2 hxI2
        · skip
          refine g_aldn hc dX12_self_40 rfl ?_
          refine g_getRk hc lk_X12_51 ca_0 (rc_0_5 hR) dX12_self_41 ?_
          refine g_iload_n hc dX12_self_44 rfl ?_
          refine g_V1r hc (c_X7_isThere w hR hxI2 hlb (g_lok_cg hsI2 hlb hL) (by first | omega | (rw [hsI2 _ (g_nl hlb (by omega) (by omega))]; omega))) my_X7_isThere mv_X7_isThere ca_548 rfl rfl lm_X12_136 rfl (by decide) (Nat.le_of_ble_eq_true rfl) hm dX12_self_45 ?_
          rw [show g_thr I2 lb s = g_thr I lb s from g_thr_cg hsI2 hlb (by omega)]
          refine g_ifb_eq (tgt := 55) hc dX12_self_48 (by decide)  (fun c6 => ?_) (fun c6 => ?_)
          · skip
            refine g_iconst hc dX12_self_55 ?_
            refine g_iret hc hm dX12_self_56 ?_
            exact g_relE (by unfold x_slf; rw [if_neg (by omega), if_pos (by omega), g_b0 (by assumption)]) hdI2 hxI2
          · skip
            refine g_iconst hc dX12_self_51 ?_
            refine g_goto (tgt := 56) hc dX12_self_52 (by decide) ?_
            refine g_iret hc hm dX12_self_56 ?_
            exact g_relE (by unfold x_slf; rw [if_neg (by omega), if_pos (by omega), g_b1 (by assumption)]) hdI2 hxI2
      · exfalso; omega
