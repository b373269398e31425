set_option maxHeartbeats 4000000 in
set_option maxRecDepth 100000 in
/-- self, where it throws: as far as the exception's making -/
theorem q_X12_self (w : g_W) {x : g_C} {P : State → Prop} {I : g_I} {J : g_J} {R : g_R} {lb tx : Nat} (hR : g_rf w R lb tx) (hlb : g_life lb) {I2 : g_I} (hI : ∀ k j, g32 (I k j)) (hsI2 : g_off I I2) (hxI2 : ∀ k j, g32 (I2 k j)) (hC : g_cin I lb) (hTb : I 0 12 = -1 ∨ (0 ≤ I 0 12 ∧ I 0 12 ≤ 2)) {s k : Int} (g1 : g32 s) (g2 : g32 k) (hgd : ¬ ((0 ≤ s ∧ s < I lb 0) ∧ 0 ≤ k ∧ k ≤ 8)) {d : Nat} (hdd : 4 ≤ d) (hc : g_OK w x cX12_self 3 (some .int) RX12 d) (k24 : GQ w x P 0 0 g_n I2 J R 24 [some (gvr w 0), some (gvI s), some (gvI k)] []) : GQ w x P 0 0 g_n I2 J R 0 [some (gvr w 0), some (gvI s), some (gvI k)] [] := by
  have hL := hC.1
  obtain ⟨hn0, hn1, hLs, hLf⟩ := id hL
  obtain ⟨-, hC1, hC2, hC3, hC4, hC5, hC6, hC7⟩ := id hC
  have hlb5 := hlb
  unfold g_life at hlb5
  have hdI2 : ∀ k : Nat, ¬ g_sc k → I2 k = I2 k := fun _ _ => rfl
  refine gq_aldn hc dX12_self_0 rfl ?_
  refine gq_getRk hc lk_X12_51 ca_0 (rc_0_5 hR) dX12_self_1 ?_
  refine gq_getRvk hc lk_X12_118 ca_548 (rc_548_3 hR) dX12_self_4 ?_
  refine gq_iload_n hc dX12_self_7 rfl ?_
  refine gq_callV (as := [gvI s]) hc (c_X4_hasLeaf w hR hxI2 hlb (by first | exact hI _ _ | exact hxI2 _ _ | exact hIa _ _ | exact hIb _ _ | exact g_b32 | exact g_and32 | assumption | exact ⟨by omega, by omega⟩)) my_X4_hasLeaf mv_X4_hasLeaf (la_0 hlb) rfl rfl lm_X12_125 rfl rfl (by omega) (by omega) (Nat.le_of_ble_eq_true rfl) ⟨Nat.zero_le _, Nat.zero_le _⟩ dX12_self_8 (fun r9 n9 I9 J9 R9 h9 => ?_)
  obtain ⟨rfl, rfl, h93, h94, h95⟩ := h9
  obtain rfl : I2 = I9 := h93.symm
  obtain rfl : J = J9 := h94.symm
  obtain rfl : R = R9 := h95.symm
  rw [show I2 (lb) 0 = I (lb) 0 from by rw [hsI2 _ (g_nl hlb (by omega) (by omega))]]
  refine gq_ifb_eq (tgt := 24) hc dX12_self_11 (by decide)  (fun c1 => ?_) (fun c1 => ?_)
  · skip
    exact k24
  · skip
    refine gq_iload_n hc dX12_self_14 rfl ?_
    refine gq_if_lt (tgt := 24) hc dX12_self_15 (by decide) (by first | exact hI _ _ | exact hxI2 _ _ | exact hIa _ _ | exact hIb _ _ | exact g_b32 | exact g_and32 | assumption | exact ⟨by omega, by omega⟩) (fun c2 => ?_) (fun c2 => ?_)
    · skip
      exact k24
    · skip
      refine gq_iload_n hc dX12_self_18 rfl ?_
      refine gq_bipush hc dX12_self_19 (by decide +kernel) ?_
      refine gq_icmp_le (tgt := 34) hc dX12_self_21 (by decide) (by first | exact hI _ _ | exact hxI2 _ _ | exact hIa _ _ | exact hIb _ _ | exact g_b32 | exact g_and32 | assumption | exact ⟨by omega, by omega⟩) (by first | exact hI _ _ | exact hxI2 _ _ | exact hIa _ _ | exact hIb _ _ | exact g_b32 | exact g_and32 | assumption | exact ⟨by omega, by omega⟩) (fun c3 => ?_) (fun c3 => ?_)
      · exfalso; omega
      · skip
        exact k24
