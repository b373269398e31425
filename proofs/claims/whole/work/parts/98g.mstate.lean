/-- what questions never look at: births, images, what was told before -/
abbrev x_b (k : Nat) (j : Int) : Prop := x_a k j ∨ k = 717 ∨ k = 718 ∨ k = 725 ∨ k = 726 ∨ k = 727 ∨ (k = 703 ∧ (j = 32 ∨ j = 41 ∨ j = 45))
abbrev x_b1 (k : Nat) (j : Int) : Prop := x_a k j ∨ (k = 703 ∧ j = 41)
abbrev x_b2 (k : Nat) (j : Int) : Prop := x_a k j ∨ k = 725 ∨ (k = 703 ∧ j = 41)
abbrev x_b3 (k : Nat) (j : Int) : Prop := x_a k j ∨ k = 726 ∨ k = 727 ∨ (k = 703 ∧ j = 45)
abbrev x_b4 (k : Nat) (j : Int) : Prop := x_a k j ∨ k = 717 ∨ k = 718 ∨ (k = 703 ∧ j = 32)
theorem q_cgb {I M M' : g_I} {lb : Nat} (hk : ∀ (k : Nat) (j : Int), ¬ x_b k j → M' k j = M k j) (hx : ∀ k j, g32 (M' k j)) (h : q_rel I lb M) : q_rel I lb M' := by
  have e : ∀ k : Nat, (705 ≤ k ∧ k ≤ 714 ∧ k ≠ 707) ∨ (721 ≤ k ∧ k ≤ 723) → M' k = M k := fun k hn => funext fun j => hk k j (by unfold x_b x_a; omega)
  have hc := h.clu
  refine q_rel_st h rfl (fun _ _ _ => rfl) (fun _ _ _ => rfl) h.gi hx h.row ?_ ?_ ?_ (fun k a c d => e k (by omega)) ⟨hk 703 24 (by decide), hk 703 23 (by decide), hk 703 7 (by decide)⟩
  · intro k a c; rw [e 714 (by decide)]; exact h.told ⟨a, c⟩
  · intro f f0 f1 r r0 r1; rw [e 713 (by decide)]; exact h.opn ⟨f0, f1⟩ ⟨r0, r1⟩
  · rw [hk 703 38 (by decide), e 721 (by decide), e 722 (by decide), e 723 (by decide)]; exact hc
theorem q_upb {I M : g_I} {lb : Nat} (h : q_rel I lb M) {k : Nat} {j v : Int} (hb : x_b k j) (hv : g32 v) : q_rel I lb (g_up M k j v) := by
  refine q_cgb (fun a i hn => ?_) (fun a i => ?_) h
  · exact g_up_n (by
      by_cases z : a = k
      · by_cases y : i = j
        · rw [z, y] at hn; exact absurd hb hn
        · exact Or.inr y
      · exact Or.inl z)
  · unfold g_up
    split
    · exact hv
    · exact h.g _ _
set_option maxHeartbeats 4000000 in
set_option maxRecDepth 100000 in
/-- X13_take -/
theorem c_X13_take (w : g_W) {I : g_I} {J : g_J} {R : g_R} {lb tx : Nat} (hR : g_rf w R lb tx) {M : g_I} (hmM : q_rel I lb M) (hB : q_brt I M) : g_Met w g_n M J R yX13_take cX13_take 1 (some .int) 0 0 0 [(gvr w 703)] (fun rr nn II JJ RR => x_rel w (some (gvI ((if I 701 2 = 0 then -1 else I 701 2 - 1)))) x_b1 M J lb rr nn II JJ RR ∧ q_brt (if I 701 2 = 0 then I else g_up I 701 2 (I 701 2 - 1)) II) := by
  refine g_intro (own := RX13) [some (gvr w 703)] (by decide +kernel) rfl (by decide) (Nat.le_of_ble_eq_true rfl) rfl (fun i v hv => g_args 0 i v hv rfl) (fun x hc hm => ?_)
  have hfM : ∀ (k : Nat) (j : Int), ¬ x_b1 k j → M k j = M k j := fun _ _ _ => rfl
  have hI := hmM.gi
  have hTb := q_b1 hmM
  have hLv := hmM.lv
  have hC := hmM.cin
  have hL := hC.1
  obtain ⟨hn0, hn1, hLs, hLf⟩ := id hL
  obtain ⟨-, hC1, hC2, hC3, hC4, hC5, hC6, hC7⟩ := id hC
  obtain ⟨hB1, hB2, hB3⟩ := id hB
  refine g_aldn hc dX13_take_0 rfl ?_
  refine g_iconst hc dX13_take_1 ?_
  refine g_putI' hc lk_X13_102 ca_703 0 rfl dX13_take_2 (fun I3 hI3 => ?_)
  have hmI3 : q_rel I lb I3 := by rw [hI3]; exact q_upb hmM (by unfold x_b; omega) (by first | exact hI _ _ | exact hmM.g _ _ | exact g_b32 | exact g_and32 | exact g_or32 | exact g_shl32 | assumption | exact ⟨by omega, by omega⟩)
  have hfI3 : ∀ (k : Nat) (j : Int), ¬ x_b1 k j → I3 k j = M k j := fun k j hk => by rw [hI3]; exact (g_up_n (by unfold x_b1 at hk; omega)).trans (hfM k j hk)
  refine g_aldn hc dX13_take_5 rfl ?_
  refine g_getIe hc lk_X13_298 ca_703 41 rfl (show I3 703 41 = I 701 2 from by rw [hI3, g_up_n (by omega)]; exact hB1) dX13_take_6 ?_
  refine g_if_ne (tgt := 14) hc dX13_take_9 (by decide) (by first | exact hI _ _ | exact hxI2 _ _ | exact hIa _ _ | exact hIb _ _ | exact g_b32 | exact g_and32 | assumption | exact ⟨by omega, by omega⟩) (fun c1 => ?_) (fun c1 => ?_)
  · skip
    refine g_aldn hc dX13_take_14 rfl ?_
    refine g_dup hc dX13_take_15 rfl ?_
    refine g_getIe hc lk_X13_298 ca_703 41 rfl (show I3 703 41 = I 701 2 from by rw [hI3, g_up_n (by omega)]; exact hB1) dX13_take_16 ?_
    refine g_iconst hc dX13_take_19 ?_
    refine g_isub hc dX13_take_20 ?_
    refine g_putI' hc lk_X13_298 ca_703 41 rfl dX13_take_21 (fun I4 hI4 => ?_)
    have hmI4 : q_rel I lb I4 := by rw [hI4]; exact q_upb hmI3 (by unfold x_b; omega) (by first | exact hI _ _ | exact hmM.g _ _ | exact g_b32 | exact g_and32 | exact g_or32 | exact g_shl32 | assumption | exact ⟨by omega, by omega⟩)
    have hfI4 : ∀ (k : Nat) (j : Int), ¬ x_b1 k j → I4 k j = M k j := fun k j hk => by rw [hI4]; exact (g_up_n (by unfold x_b1 at hk; omega)).trans (hfI3 k j hk)
    refine g_aldn hc dX13_take_24 rfl ?_
    refine g_getIe hc lk_X13_298 ca_703 41 rfl (show I4 703 41 = I 701 2 - 1 from by rw [hI4, g_up_s]) dX13_take_25 ?_
    refine g_iret hc hm dX13_take_28 ?_
    exact ⟨x_end (by rw [if_neg (by omega)]) hfI4 hmI4.g hR, by rw [if_neg (by omega)]; exact ⟨by rw [hI4, g_up_s, g_up_s], by rw [g_up_s]; omega, fun i a c => by rw [g_up_s] at c; rw [hfI4 725 i (by unfold x_b1 x_a; omega), g_up_n (by omega)]; exact hB3 i a (by omega)⟩⟩
  · skip
    refine g_iconst hc dX13_take_12 ?_
    refine g_iret hc hm dX13_take_13 ?_
    exact ⟨x_end (by rw [if_pos (by omega)]) hfI3 hmI3.g hR, by rw [if_pos (by omega)]; exact ⟨by rw [hI3, g_up_n (by omega)]; exact hB1, hB2, fun i a c => by rw [hI3, g_up_n (by omega)]; exact hB3 i a c⟩⟩
