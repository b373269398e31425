set_option maxHeartbeats 4000000 in
set_option maxRecDepth 100000 in
/-- X13_thrown -/
theorem c_X13_thrown (w : g_W) {I : g_I} {J : g_J} {R : g_R} {lb tx : Nat} (hR : g_rf w R lb tx) {M : g_I} (hg : ∀ k j, g32 (M k j))  : g_Met w g_n M J R yX13_thrown cX13_thrown 1 (some .int) 0 0 0 [(gvr w 703)] (g_post (some (gvI (M 703 0))) g_n M J R) := by
  refine g_intro (own := RX13) [some (gvr w 703)] (by decide +kernel) rfl (by decide) (Nat.le_of_ble_eq_true rfl) rfl (fun i v hv => g_args 0 i v hv rfl) (fun x hc hm => ?_)
  have hfM : ∀ (k : Nat) (j : Int), ¬ x_a k j → M k j = M k j := fun _ _ _ => rfl
  have hgM := hg
  have hI := hg
  refine g_aldn hc dX13_thrown_0 rfl ?_
  refine g_getI' hc lk_X13_102 ca_703 0 rfl dX13_thrown_1 ?_
  refine g_iret hc hm dX13_thrown_4 ?_
  exact ⟨rfl, rfl, rfl, rfl, rfl⟩
