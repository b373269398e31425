theorem x_up32 {M : g_I} {k : Nat} {i v : Int} (h : ∀ k j, g32 (M k j)) (hv : g32 v) : ∀ a c, g32 (g_up M k i v a c) := by
  intro a c
  unfold g_up
  split
  · exact hv
  · exact h _ _
theorem x_tell32 {I : g_I} {p v : Int} (hA : 0 ≤ I 549 5 ∧ I 549 5 ≤ 40) (h : ∀ k j, g32 (I k j)) (hp : g32 p) (hv : g32 v) : ∀ k j, g32 (g_tell I p v k j) := by
  have ht : ∀ k j, g32 (g_tlf I k j) := by
    unfold g_tlf
    split
    · exact x_up32 (g_cpy32 (g_cpy32 h)) ⟨by decide, by decide⟩
    · exact h
  have ha : g32 (g_tlf I 549 5 + 1) := by
    unfold g_tlf
    split
    · rw [g_up_s]; exact ⟨by decide, by decide⟩
    · exact ⟨by omega, by omega⟩
  exact x_up32 (x_up32 (x_up32 (x_up32 ht hp) (ht _ _)) ha) hv
theorem q_und_cg {I M M' : g_I} {lb : Nat} (h1 : M' 703 32 = M 703 32) (h2 : M' 717 = M 717) (h3 : M' 718 = M 718) (h : q_und I lb M) : q_und I lb M' := by
  unfold q_und q_snap at h ⊢
  rw [h1, h2, h3]
  exact h
theorem q_rel_tell {I M M' : g_I} {lb : Nat} (h : q_rel I lb M) (hA : 0 ≤ I 549 5 ∧ I 549 5 ≤ 40) {p v : Int} (hp : g32 p) (hv : g32 v) (hr : q_row I lb (g_tell I p v 550)) (hto : ∀ k : Int, 0 ≤ k → k < 4 → M' 714 k = g_tell I p v 550 k) (hop : ∀ f : Int, 0 ≤ f → f < I lb 1 → ∀ r : Int, 0 ≤ r → r < I (lb + 43) f → M' 713 (4 * f + r) = g_b (g_bit (g_tell I p v 550 (4 + f)) r))
    (hf : ∀ (k : Nat) (j : Int), ¬ x_b4 k j → k ≠ 713 → k ≠ 714 → M' k j = M k j) (hgm : ∀ k j, g32 (M' k j)) : q_rel (g_tell I p v) lb M' := by
  obtain ⟨a, s, -, -, -, -, -, -, -, -, h9, -⟩ := x_tell (I := I) (p := p) (v := v) hA
  obtain ⟨hc1, hc2, hc3⟩ := h.clu
  have e : ∀ k : Nat, (705 ≤ k ∧ k ≤ 712 ∧ k ≠ 707) ∨ (721 ≤ k ∧ k ≤ 723) → M' k = M k := fun k hn => funext fun j => hf k j (by unfold x_b4 x_a; omega) (by omega) (by omega)
  refine q_rel_st h (h9 0 (by decide) (by decide) (by decide) (by decide)) (fun k a c => h9 k (by omega) (by omega) (by omega) (by omega)) (fun k a c => h9 k (by omega) (by omega) (by omega) (by omega)) (x_tell32 hA h.gi hp hv) hgm hr hto hop ?_ (fun k a c d => e k (by omega)) ⟨hf 703 24 (by decide) (by decide) (by decide), hf 703 23 (by decide) (by decide) (by decide), hf 703 7 (by decide) (by decide) (by decide)⟩
  unfold g_cok at hc1 ⊢
  rw [h9 697 (by decide) (by decide) (by decide) (by decide), h9 698 (by decide) (by decide) (by decide) (by decide), h9 699 (by decide) (by decide) (by decide) (by decide), h9 700 (by decide) (by decide) (by decide) (by decide), e 721 (by decide), e 722 (by decide), e 723 (by decide), hf 703 38 (by decide) (by decide) (by decide)]
  exact ⟨hc1, hc2, hc3⟩
abbrev x_b5 (k : Nat) (j : Int) : Prop := x_b4 k j ∨ k = 713 ∨ k = 714
/-- a setting that may be told -/
abbrev x_sg (I : g_I) (k v : Int) : Prop := 0 ≤ I 0 12 ∧ (0 ≤ k ∧ k ≤ 3) ∧ ((k = 1 ∨ k = 2) → -1 ≤ v ∧ v < I 0 11) ∧ (¬ (k = 1 ∨ k = 2) → 0 ≤ v ∧ v ≤ 3) ∧ ¬ I 550 k = v
theorem x_sg_row {I M : g_I} {lb : Nat} (h : q_rel I lb M) {k v : Int} (hA : 0 ≤ I 549 5 ∧ I 549 5 ≤ 40) (hs : x_sg I k v) : q_row I lb (g_tell I k v 550) := by
  obtain ⟨a, s, -, -, -, -, -, -, -, ⟨h8, h8b⟩, -, -⟩ := x_tell (I := I) (p := k) (v := v) hA
  obtain ⟨r0, r1, r2, r3, r4⟩ := h.row
  obtain ⟨-, ⟨k0, k1⟩, k2, k3, -⟩ := hs
  have hF : ∀ f : Int, 0 ≤ f → f < I lb 1 → (1 ≤ g_tell I k v 550 (4 + f) ∧ g_tell I k v 550 (4 + f) ≤ 15) ∧ g_tell I k v 550 (4 + f) < g_shl 1 (I (lb + 43) f) := fun f f0 f1 => by rw [h8b (4 + f) (by omega)]; exact r4 f f0 f1
  rcases (show k = 0 ∨ k = 1 ∨ k = 2 ∨ k = 3 by omega) with rfl | rfl | rfl | rfl
  · exact ⟨by rw [h8]; exact k3 (by decide), by rw [h8b 1 (by decide)]; exact r1, by rw [h8b 2 (by decide)]; exact r2, by rw [h8b 3 (by decide)]; exact r3, hF⟩
  · exact ⟨by rw [h8b 0 (by decide)]; exact r0, by rw [h8]; exact k2 (by decide), by rw [h8b 2 (by decide)]; exact r2, by rw [h8b 3 (by decide)]; exact r3, hF⟩
  · exact ⟨by rw [h8b 0 (by decide)]; exact r0, by rw [h8b 1 (by decide)]; exact r1, by rw [h8]; exact k2 (by decide), by rw [h8b 3 (by decide)]; exact r3, hF⟩
  · exact ⟨by rw [h8b 0 (by decide)]; exact r0, by rw [h8b 1 (by decide)]; exact r1, by rw [h8b 2 (by decide)]; exact r2, by rw [h8]; exact k3 (by decide), hF⟩
set_option maxHeartbeats 4000000 in
set_option maxRecDepth 100000 in
/-- X13_set -/
theorem c_X13_set (w : g_W) {I : g_I} {J : g_J} {R : g_R} {lb tx : Nat} (hR : g_rf w R lb tx) {M : g_I} (hmM : q_rel I lb M) {k v : Int} (g1 : g32 k) (g2 : g32 v) (hu : q_und I lb M) (hz3 : q_01 M 713) (hz7 : q_01 M 717) : g_Met w g_n M J R yX13_set cX13_set 4 (some .int) 1 0 0 [(gvr w 703), (gvI k), (gvI v)] (fun rr nn II JJ RR => x_rel w (some (gvI ((if (x_sg I k v) then g_tlf I 549 5 + 1 else -1)))) x_b5 M J lb rr nn II JJ RR ∧ (q_rel (if (x_sg I k v) then g_tell I k v else I) lb II ∧ q_und (if (x_sg I k v) then g_tell I k v else I) lb II) ∧ q_01 II 713 ∧ q_01 II 717) := by
  refine g_intro (own := RX13) [some (gvr w 703), some (gvI k), some (gvI v), none] (by decide +kernel) rfl (by decide) (Nat.le_of_ble_eq_true rfl) rfl (fun i v hv => g_args 1 i v hv rfl) (fun x hc hm => ?_)
  have hfM : ∀ (k : Nat) (j : Int), ¬ x_b5 k j → M k j = M k j := fun _ _ _ => rfl
  have hI := hmM.gi
  have hTb := q_b1 hmM
  have hLv := hmM.lv
  have hC := hmM.cin
  have hL := hC.1
  obtain ⟨hn0, hn1, hLs, hLf⟩ := id hL
  obtain ⟨-, hC1, hC2, hC3, hC4, hC5, hC6, hC7⟩ := id hC
  refine g_aldn hc dX13_set_0 rfl ?_
  refine g_iconst hc dX13_set_1 ?_
  refine g_putI' hc lk_X13_102 ca_703 0 rfl dX13_set_2 (fun I3 hI3 => ?_)
  have hmI3 : q_rel I lb I3 := by rw [hI3]; exact q_upb hmM (by unfold x_b; omega) (by first | exact hI _ _ | exact hmM.g _ _ | exact g_b32 | exact g_and32 | exact g_or32 | exact g_shl32 | assumption | exact ⟨by omega, by omega⟩)
  have hfI3 : ∀ (k : Nat) (j : Int), ¬ x_b5 k j → I3 k j = M k j := fun k j hk => by rw [hI3]; exact (g_up_n (by unfold x_b5 at hk; omega)).trans (hfM k j hk)
  have hu0 : q_und I lb I3 := q_und_cg (by rw [hI3, g_up_n (by omega)]) (by rw [hI3]; funext j; exact g_up_k (by decide)) (by rw [hI3]; funext j; exact g_up_k (by decide)) hu
  have hu9 := hu0
  have hA9 : I3 703 32 = I 549 5 := hu9.1
  have hz39 : q_01 I3 713 := fun t => by rw [hI3, g_up_k (by decide)]; exact hz3 t
  have hz79 : q_01 I3 717 := fun t => by rw [hI3, g_up_k (by decide)]; exact hz7 t
  have hm9 := hmI3
  refine g_aldn hc dX13_set_5 rfl ?_
  refine g_getIe hc lk_X13_52 ca_703 24 rfl (show I3 703 24 = I 0 12 from hmI3.tab) dX13_set_6 ?_
  refine g_iconst hc dX13_set_9 ?_
  refine g_icmp_eq (tgt := 25) hc dX13_set_10 (by decide) (by first | exact hI _ _ | exact hxI2 _ _ | exact hIa _ _ | exact hIb _ _ | exact g_b32 | exact g_and32 | assumption | exact ⟨by omega, by omega⟩) (by first | exact hI _ _ | exact hxI2 _ _ | exact hIa _ _ | exact hIb _ _ | exact g_b32 | exact g_and32 | assumption | exact ⟨by omega, by omega⟩) (fun c1 => ?_) (fun c1 => ?_)
  · skip
    have hng : ¬ (x_sg I k v) := fun z => by
      obtain ⟨z1, z2, z3, z4, z5⟩ := z
      omega
    refine g_iconst hc dX13_set_25 ?_
    refine g_iret hc hm dX13_set_26 ?_
    exact ⟨x_end (by rw [if_neg hng]) hfI3 hmI3.g hR, by rw [if_neg hng]; exact ⟨hmI3, hu0⟩, fun t => by rw [hI3, g_up_k (by decide)]; exact hz3 t, fun t => by rw [hI3, g_up_k (by decide)]; exact hz7 t⟩
  · skip
    refine g_iload_n hc dX13_set_13 rfl ?_
    refine g_i2l hc dX13_set_14 (by first | exact hI _ _ | exact hxI2 _ _ | exact hIa _ _ | exact hIb _ _ | exact g_b32 | exact g_and32 | assumption | exact ⟨by omega, by omega⟩) ?_
    refine g_lconst hc dX13_set_15 0 (by decide +kernel) ?_
    refine g_ldc2 (k := 3) hc dX13_set_16 _ lc_X13_346 (by decide +kernel) ?_
    refine g_S3r hc (c_X13_isIn w (by first | exact hI _ _ | exact hmM.g _ _ | exact g_b32 | exact g_and32 | exact g_or32 | exact g_shl32 | assumption | exact ⟨by omega, by omega⟩) (by first | exact hI _ _ | exact hmM.g _ _ | exact g_b32 | exact g_and32 | exact g_or32 | exact g_shl32 | assumption | exact ⟨by omega, by omega⟩) (by first | exact hI _ _ | exact hmM.g _ _ | exact g_b32 | exact g_and32 | exact g_or32 | exact g_shl32 | assumption | exact ⟨by omega, by omega⟩)) my_X13_isIn ms_X13_isIn lm_X13_231 rfl (by decide) (Nat.le_of_ble_eq_true rfl) hm dX13_set_19 ?_
    refine g_ifb_ne (tgt := 27) hc dX13_set_22 (by decide)  (fun c2 => ?_) (fun c2 => ?_)
    · skip
      refine g_iload_n hc dX13_set_27 rfl ?_
      refine g_iconst hc dX13_set_28 ?_
      refine g_icmp_eq (tgt := 37) hc dX13_set_29 (by decide) (by first | exact hI _ _ | exact hxI2 _ _ | exact hIa _ _ | exact hIb _ _ | exact g_b32 | exact g_and32 | assumption | exact ⟨by omega, by omega⟩) (by first | exact hI _ _ | exact hxI2 _ _ | exact hIa _ _ | exact hIb _ _ | exact g_b32 | exact g_and32 | assumption | exact ⟨by omega, by omega⟩) (fun c3 => ?_) (fun c3 => ?_)
      · skip
        refine g_iconst hc dX13_set_37 ?_
        refine g_goto (tgt := 42) hc dX13_set_38 (by decide) ?_
        refine g_istore_3 hc dX13_set_42 rfl ?_
        refine g_iload_n hc dX13_set_43 rfl ?_
        refine g_i2l hc dX13_set_44 (by first | exact hI _ _ | exact hxI2 _ _ | exact hIa _ _ | exact hIb _ _ | exact g_b32 | exact g_and32 | assumption | exact ⟨by omega, by omega⟩) ?_
        refine g_iload_n hc dX13_set_45 rfl ?_
        refine g_if_eq (tgt := 55) hc dX13_set_46 (by decide) (show g32 _ from ⟨by decide, by decide⟩) (fun c4 => ?_) (fun c4 => ?_)
        · exfalso; omega
        · skip
          refine g_ldc2 (k := (-1)) hc dX13_set_49 _ lc_X13_348 (by decide +kernel) ?_
          refine g_goto (tgt := 56) hc dX13_set_52 (by decide) ?_
          refine g_iload_n hc dX13_set_56 rfl ?_
          refine g_if_eq (tgt := 70) hc dX13_set_57 (by decide) (show g32 _ from ⟨by decide, by decide⟩) (fun c5 => ?_) (fun c5 => ?_)
          · exfalso; omega
          · skip
            refine g_aldn hc dX13_set_60 rfl ?_
            refine g_getIe hc lk_X13_284 ca_703 7 rfl (show I3 703 7 = I 0 11 from hmI3.tas) dX13_set_61 ?_
            refine g_iconst hc dX13_set_64 ?_
            refine g_isub hc dX13_set_65 ?_
            refine g_i2l hc dX13_set_66 (by first | exact hI _ _ | exact hxI2 _ _ | exact hIa _ _ | exact hIb _ _ | exact g_b32 | exact g_and32 | assumption | exact ⟨by omega, by omega⟩) ?_
            refine g_goto (tgt := 73) hc dX13_set_67 (by decide) ?_
            refine g_S3r hc (c_X13_isIn w (by first | exact hI _ _ | exact hmM.g _ _ | exact g_b32 | exact g_and32 | exact g_or32 | exact g_shl32 | assumption | exact ⟨by omega, by omega⟩) (by first | exact hI _ _ | exact hmM.g _ _ | exact g_b32 | exact g_and32 | exact g_or32 | exact g_shl32 | assumption | exact ⟨by omega, by omega⟩) (by first | exact hI _ _ | exact hmM.g _ _ | exact g_b32 | exact g_and32 | exact g_or32 | exact g_shl32 | assumption | exact ⟨by omega, by omega⟩)) my_X13_isIn ms_X13_isIn lm_X13_231 rfl (by decide) (Nat.le_of_ble_eq_true rfl) hm dX13_set_73 ?_
            refine g_ifb_eq (tgt := 89) hc dX13_set_76 (by decide)  (fun c6 => ?_) (fun c6 => ?_)
            · skip
              have hng : ¬ (x_sg I k v) := fun z => by
                obtain ⟨z1, z2, z3, z4, z5⟩ := z
                omega
              refine g_iconst hc dX13_set_89 ?_
              refine g_iret hc hm dX13_set_90 ?_
              exact ⟨x_end (by rw [if_neg hng]) hfI3 hmI3.g hR, by rw [if_neg hng]; exact ⟨hmI3, hu0⟩, fun t => by rw [hI3, g_up_k (by decide)]; exact hz3 t, fun t => by rw [hI3, g_up_k (by decide)]; exact hz7 t⟩
            · skip
              refine g_aldn hc dX13_set_79 rfl ?_
              refine g_getRk hc lk_X13_60 ca_703 (rc_703_26 hR) dX13_set_80 ?_
              refine g_iload_n hc dX13_set_83 rfl ?_
              refine g_ialde hc ca_714 (by decide) (by omega) (by omega) (show I3 714 k = I 550 k from hmI3.told (by omega)) dX13_set_84 ?_
              refine g_iload_n hc dX13_set_85 rfl ?_
              refine g_icmp_ne (tgt := 91) hc dX13_set_86 (by decide) (by first | exact hI _ _ | exact hxI2 _ _ | exact hIa _ _ | exact hIb _ _ | exact g_b32 | exact g_and32 | assumption | exact ⟨by omega, by omega⟩) (by first | exact hI _ _ | exact hxI2 _ _ | exact hIa _ _ | exact hIb _ _ | exact g_b32 | exact g_and32 | assumption | exact ⟨by omega, by omega⟩) (fun c7 => ?_) (fun c7 => ?_)
              · skip
                have hpg : (x_sg I k v) := ⟨by omega, by omega, by omega, by omega, c7⟩
                refine g_aldn hc dX13_set_91 rfl ?_
                refine g_V0 hc (c_X13_remember w hR hmI3 hA9 hu9.2.1 hz39 hz79) my_X13_remember mv_X13_remember ca_703 rfl rfl lm_X13_343 rfl (by decide) (Nat.le_of_ble_eq_true rfl) hm dX13_set_92 (fun r4 n4 I4 J4 R4 hp4 => ?_)
                obtain ⟨⟨rfl, rfl, hK4, hX4, rfl, t4, hR⟩, hl4⟩ := hp4
                have hmI4 : q_rel I lb I4 := q_cgb (fun k j hk => hK4 k j (fun z => hk (by unfold x_b4 at z; unfold x_b; omega))) hX4 hmI3
                have hfI4 : ∀ (k : Nat) (j : Int), ¬ x_b5 k j → I4 k j = M k j := fun k j hk => (hK4 k j (fun z => hk (by unfold x_b4 at z; unfold x_b5; omega))).trans (hfI3 k j hk)
                have hl9 := hl4
                have hK9 := hK4
                refine g_aldn hc dX13_set_95 rfl ?_
                refine g_getRk hc lk_X13_60 ca_703 (rc_703_26 hR) dX13_set_96 ?_
                refine g_iload_n hc dX13_set_99 rfl ?_
                refine g_iload_n hc dX13_set_100 rfl ?_
                refine g_iast' hc ca_714 (by decide) (by omega) (by omega)  dX13_set_101 (fun I5 hI5 => ?_)
                have hgI5 : ∀ (a : Nat) (c : Int), g32 (I5 a c) := by rw [hI5]; exact x_up32 hmI4.g g2
                have hfI5 : ∀ (a : Nat) (c : Int), ¬ x_b5 a c → I5 a c = M a c := fun a c hk => by rw [hI5, g_up_n (by unfold x_b5 at hk; omega)]; exact hfI4 a c hk
                obtain ⟨a9, s9, b1, b2, b3, b4, b5, b6, b7, b8, b8b, b9⟩ := hl9
                obtain ⟨a2, s2, c1, c2, c3, c4, c5, -, -, ⟨c8, c8b⟩, -, -⟩ := x_tell (I := I) (p := k) (v := v) hu9.2.1
                have hund : q_und (g_tell I k v) lb I5 := q_und_tell hm9 hu9 ⟨a9, s9, b1, b2, b3, b4, by rw [hI5, g_up_k (by decide)]; exact b5, fun t t0 t1 => by rw [hI5, g_up_k (by decide)]; exact b6 t t0 t1, fun t t0 t1 => by rw [hI5, g_up_k (by decide)]; exact b7 t t0 t1, fun t t0 t1 => by rw [hI5, g_up_k (by decide)]; exact b8 t t0 t1, fun t t0 t1 => by rw [hI5, g_up_k (by decide)]; exact b8b t t0 t1⟩
                have h139 : ∀ t : Int, I4 713 t = I3 713 t := fun t => hK9 713 t (by unfold x_b4 x_a; omega)
                have hrel : q_rel (g_tell I k v) lb I5 := q_rel_tell hm9 hu9.2.1 g1 g2 (x_sg_row hmM hu9.2.1 hpg) (fun j j0 j1 => by
                  rw [hI5]
                  by_cases e : j = k
                  · rw [e, g_up_s, c8]
                  · rw [g_up_i e, c8b j e]; exact hmI4.told ⟨j0, j1⟩) (fun f f0 f1 r r0 r1 => by
                  rw [hI5, g_up_k (by decide), c8b (4 + f) (by have := hpg.2.1; omega)]; exact hmI4.opn ⟨f0, f1⟩ ⟨r0, r1⟩) (fun a c hk k1 k2 => by rw [hI5, g_up_k k2]; exact hK9 a c hk) hgI5
                have hz3f : q_01 I5 713 := fun t => by rw [hI5, g_up_k (by decide), h139 t]; exact hz39 t
                have hz7f : q_01 I5 717 := fun t => by rw [hI5, g_up_k (by decide)]; exact b9 t
                have hval : I5 703 32 = g_tlf I 549 5 + 1 := by
                  rw [hI5, g_up_k (by decide), b5]
                  obtain ⟨a4, s4, d1, d2, d3, d4, d5, -⟩ := x_tlf hu9.2.1
                  rw [d5]; omega
                refine g_aldn hc dX13_set_102 rfl ?_
                refine g_getI' hc lk_X13_292 ca_703 32 rfl dX13_set_103 ?_
                refine g_iret hc hm dX13_set_106 ?_
                exact ⟨x_end (by rw [if_pos hpg]; exact hval) hfI5 hgI5 hR, by rw [if_pos hpg]; exact ⟨hrel, hund⟩, hz3f, hz7f⟩
              · skip
                have hng : ¬ (x_sg I k v) := fun z => by
                  obtain ⟨z1, z2, z3, z4, z5⟩ := z
                  exact z5 c7
                refine g_iconst hc dX13_set_89 ?_
                refine g_iret hc hm dX13_set_90 ?_
                exact ⟨x_end (by rw [if_neg hng]) hfI3 hmI3.g hR, by rw [if_neg hng]; exact ⟨hmI3, hu0⟩, fun t => by rw [hI3, g_up_k (by decide)]; exact hz3 t, fun t => by rw [hI3, g_up_k (by decide)]; exact hz7 t⟩
      · skip
        refine g_iload_n hc dX13_set_32 rfl ?_
        refine g_iconst hc dX13_set_33 ?_
        refine g_icmp_ne (tgt := 41) hc dX13_set_34 (by decide) (by first | exact hI _ _ | exact hxI2 _ _ | exact hIa _ _ | exact hIb _ _ | exact g_b32 | exact g_and32 | assumption | exact ⟨by omega, by omega⟩) (by first | exact hI _ _ | exact hxI2 _ _ | exact hIa _ _ | exact hIb _ _ | exact g_b32 | exact g_and32 | assumption | exact ⟨by omega, by omega⟩) (fun c8 => ?_) (fun c8 => ?_)
        · skip
          refine g_iconst hc dX13_set_41 ?_
          refine g_istore_3 hc dX13_set_42 rfl ?_
          refine g_iload_n hc dX13_set_43 rfl ?_
          refine g_i2l hc dX13_set_44 (by first | exact hI _ _ | exact hxI2 _ _ | exact hIa _ _ | exact hIb _ _ | exact g_b32 | exact g_and32 | assumption | exact ⟨by omega, by omega⟩) ?_
          refine g_iload_n hc dX13_set_45 rfl ?_
          refine g_if_eq (tgt := 55) hc dX13_set_46 (by decide) (show g32 _ from ⟨by decide, by decide⟩) (fun c9 => ?_) (fun c9 => ?_)
          · skip
            refine g_lconst hc dX13_set_55 0 (by decide +kernel) ?_
            refine g_iload_n hc dX13_set_56 rfl ?_
            refine g_if_eq (tgt := 70) hc dX13_set_57 (by decide) (show g32 _ from ⟨by decide, by decide⟩) (fun c10 => ?_) (fun c10 => ?_)
            · skip
              refine g_ldc2 (k := 3) hc dX13_set_70 _ lc_X13_346 (by decide +kernel) ?_
              refine g_S3r hc (c_X13_isIn w (by first | exact hI _ _ | exact hmM.g _ _ | exact g_b32 | exact g_and32 | exact g_or32 | exact g_shl32 | assumption | exact ⟨by omega, by omega⟩) (by first | exact hI _ _ | exact hmM.g _ _ | exact g_b32 | exact g_and32 | exact g_or32 | exact g_shl32 | assumption | exact ⟨by omega, by omega⟩) (by first | exact hI _ _ | exact hmM.g _ _ | exact g_b32 | exact g_and32 | exact g_or32 | exact g_shl32 | assumption | exact ⟨by omega, by omega⟩)) my_X13_isIn ms_X13_isIn lm_X13_231 rfl (by decide) (Nat.le_of_ble_eq_true rfl) hm dX13_set_73 ?_
              refine g_ifb_eq (tgt := 89) hc dX13_set_76 (by decide)  (fun c11 => ?_) (fun c11 => ?_)
              · skip
                have hng : ¬ (x_sg I k v) := fun z => by
                  obtain ⟨z1, z2, z3, z4, z5⟩ := z
                  omega
                refine g_iconst hc dX13_set_89 ?_
                refine g_iret hc hm dX13_set_90 ?_
                exact ⟨x_end (by rw [if_neg hng]) hfI3 hmI3.g hR, by rw [if_neg hng]; exact ⟨hmI3, hu0⟩, fun t => by rw [hI3, g_up_k (by decide)]; exact hz3 t, fun t => by rw [hI3, g_up_k (by decide)]; exact hz7 t⟩
              · skip
                refine g_aldn hc dX13_set_79 rfl ?_
                refine g_getRk hc lk_X13_60 ca_703 (rc_703_26 hR) dX13_set_80 ?_
                refine g_iload_n hc dX13_set_83 rfl ?_
                refine g_ialde hc ca_714 (by decide) (by omega) (by omega) (show I3 714 k = I 550 k from hmI3.told (by omega)) dX13_set_84 ?_
                refine g_iload_n hc dX13_set_85 rfl ?_
                refine g_icmp_ne (tgt := 91) hc dX13_set_86 (by decide) (by first | exact hI _ _ | exact hxI2 _ _ | exact hIa _ _ | exact hIb _ _ | exact g_b32 | exact g_and32 | assumption | exact ⟨by omega, by omega⟩) (by first | exact hI _ _ | exact hxI2 _ _ | exact hIa _ _ | exact hIb _ _ | exact g_b32 | exact g_and32 | assumption | exact ⟨by omega, by omega⟩) (fun c12 => ?_) (fun c12 => ?_)
                · skip
                  have hpg : (x_sg I k v) := ⟨by omega, by omega, by omega, by omega, c12⟩
                  refine g_aldn hc dX13_set_91 rfl ?_
                  refine g_V0 hc (c_X13_remember w hR hmI3 hA9 hu9.2.1 hz39 hz79) my_X13_remember mv_X13_remember ca_703 rfl rfl lm_X13_343 rfl (by decide) (Nat.le_of_ble_eq_true rfl) hm dX13_set_92 (fun r6 n6 I6 J6 R6 hp6 => ?_)
                  obtain ⟨⟨rfl, rfl, hK6, hX6, rfl, t6, hR⟩, hl6⟩ := hp6
                  have hmI6 : q_rel I lb I6 := q_cgb (fun k j hk => hK6 k j (fun z => hk (by unfold x_b4 at z; unfold x_b; omega))) hX6 hmI3
                  have hfI6 : ∀ (k : Nat) (j : Int), ¬ x_b5 k j → I6 k j = M k j := fun k j hk => (hK6 k j (fun z => hk (by unfold x_b4 at z; unfold x_b5; omega))).trans (hfI3 k j hk)
                  have hl9 := hl6
                  have hK9 := hK6
                  refine g_aldn hc dX13_set_95 rfl ?_
                  refine g_getRk hc lk_X13_60 ca_703 (rc_703_26 hR) dX13_set_96 ?_
                  refine g_iload_n hc dX13_set_99 rfl ?_
                  refine g_iload_n hc dX13_set_100 rfl ?_
                  refine g_iast' hc ca_714 (by decide) (by omega) (by omega)  dX13_set_101 (fun I7 hI7 => ?_)
                  have hgI7 : ∀ (a : Nat) (c : Int), g32 (I7 a c) := by rw [hI7]; exact x_up32 hmI6.g g2
                  have hfI7 : ∀ (a : Nat) (c : Int), ¬ x_b5 a c → I7 a c = M a c := fun a c hk => by rw [hI7, g_up_n (by unfold x_b5 at hk; omega)]; exact hfI6 a c hk
                  obtain ⟨a9, s9, b1, b2, b3, b4, b5, b6, b7, b8, b8b, b9⟩ := hl9
                  obtain ⟨a2, s2, c1, c2, c3, c4, c5, -, -, ⟨c8, c8b⟩, -, -⟩ := x_tell (I := I) (p := k) (v := v) hu9.2.1
                  have hund : q_und (g_tell I k v) lb I7 := q_und_tell hm9 hu9 ⟨a9, s9, b1, b2, b3, b4, by rw [hI7, g_up_k (by decide)]; exact b5, fun t t0 t1 => by rw [hI7, g_up_k (by decide)]; exact b6 t t0 t1, fun t t0 t1 => by rw [hI7, g_up_k (by decide)]; exact b7 t t0 t1, fun t t0 t1 => by rw [hI7, g_up_k (by decide)]; exact b8 t t0 t1, fun t t0 t1 => by rw [hI7, g_up_k (by decide)]; exact b8b t t0 t1⟩
                  have h139 : ∀ t : Int, I6 713 t = I3 713 t := fun t => hK9 713 t (by unfold x_b4 x_a; omega)
                  have hrel : q_rel (g_tell I k v) lb I7 := q_rel_tell hm9 hu9.2.1 g1 g2 (x_sg_row hmM hu9.2.1 hpg) (fun j j0 j1 => by
                    rw [hI7]
                    by_cases e : j = k
                    · rw [e, g_up_s, c8]
                    · rw [g_up_i e, c8b j e]; exact hmI6.told ⟨j0, j1⟩) (fun f f0 f1 r r0 r1 => by
                    rw [hI7, g_up_k (by decide), c8b (4 + f) (by have := hpg.2.1; omega)]; exact hmI6.opn ⟨f0, f1⟩ ⟨r0, r1⟩) (fun a c hk k1 k2 => by rw [hI7, g_up_k k2]; exact hK9 a c hk) hgI7
                  have hz3f : q_01 I7 713 := fun t => by rw [hI7, g_up_k (by decide), h139 t]; exact hz39 t
                  have hz7f : q_01 I7 717 := fun t => by rw [hI7, g_up_k (by decide)]; exact b9 t
                  have hval : I7 703 32 = g_tlf I 549 5 + 1 := by
                    rw [hI7, g_up_k (by decide), b5]
                    obtain ⟨a4, s4, d1, d2, d3, d4, d5, -⟩ := x_tlf hu9.2.1
                    rw [d5]; omega
                  refine g_aldn hc dX13_set_102 rfl ?_
                  refine g_getI' hc lk_X13_292 ca_703 32 rfl dX13_set_103 ?_
                  refine g_iret hc hm dX13_set_106 ?_
                  exact ⟨x_end (by rw [if_pos hpg]; exact hval) hfI7 hgI7 hR, by rw [if_pos hpg]; exact ⟨hrel, hund⟩, hz3f, hz7f⟩
                · skip
                  have hng : ¬ (x_sg I k v) := fun z => by
                    obtain ⟨z1, z2, z3, z4, z5⟩ := z
                    exact z5 c12
                  refine g_iconst hc dX13_set_89 ?_
                  refine g_iret hc hm dX13_set_90 ?_
                  exact ⟨x_end (by rw [if_neg hng]) hfI3 hmI3.g hR, by rw [if_neg hng]; exact ⟨hmI3, hu0⟩, fun t => by rw [hI3, g_up_k (by decide)]; exact hz3 t, fun t => by rw [hI3, g_up_k (by decide)]; exact hz7 t⟩
            · exfalso; omega
          · exfalso; omega
        · skip
          refine g_iconst hc dX13_set_37 ?_
          refine g_goto (tgt := 42) hc dX13_set_38 (by decide) ?_
          refine g_istore_3 hc dX13_set_42 rfl ?_
          refine g_iload_n hc dX13_set_43 rfl ?_
          refine g_i2l hc dX13_set_44 (by first | exact hI _ _ | exact hxI2 _ _ | exact hIa _ _ | exact hIb _ _ | exact g_b32 | exact g_and32 | assumption | exact ⟨by omega, by omega⟩) ?_
          refine g_iload_n hc dX13_set_45 rfl ?_
          refine g_if_eq (tgt := 55) hc dX13_set_46 (by decide) (show g32 _ from ⟨by decide, by decide⟩) (fun c13 => ?_) (fun c13 => ?_)
          · exfalso; omega
          · skip
            refine g_ldc2 (k := (-1)) hc dX13_set_49 _ lc_X13_348 (by decide +kernel) ?_
            refine g_goto (tgt := 56) hc dX13_set_52 (by decide) ?_
            refine g_iload_n hc dX13_set_56 rfl ?_
            refine g_if_eq (tgt := 70) hc dX13_set_57 (by decide) (show g32 _ from ⟨by decide, by decide⟩) (fun c14 => ?_) (fun c14 => ?_)
            · exfalso; omega
            · skip
              refine g_aldn hc dX13_set_60 rfl ?_
              refine g_getIe hc lk_X13_284 ca_703 7 rfl (show I3 703 7 = I 0 11 from hmI3.tas) dX13_set_61 ?_
              refine g_iconst hc dX13_set_64 ?_
              refine g_isub hc dX13_set_65 ?_
              refine g_i2l hc dX13_set_66 (by first | exact hI _ _ | exact hxI2 _ _ | exact hIa _ _ | exact hIb _ _ | exact g_b32 | exact g_and32 | assumption | exact ⟨by omega, by omega⟩) ?_
              refine g_goto (tgt := 73) hc dX13_set_67 (by decide) ?_
              refine g_S3r hc (c_X13_isIn w (by first | exact hI _ _ | exact hmM.g _ _ | exact g_b32 | exact g_and32 | exact g_or32 | exact g_shl32 | assumption | exact ⟨by omega, by omega⟩) (by first | exact hI _ _ | exact hmM.g _ _ | exact g_b32 | exact g_and32 | exact g_or32 | exact g_shl32 | assumption | exact ⟨by omega, by omega⟩) (by first | exact hI _ _ | exact hmM.g _ _ | exact g_b32 | exact g_and32 | exact g_or32 | exact g_shl32 | assumption | exact ⟨by omega, by omega⟩)) my_X13_isIn ms_X13_isIn lm_X13_231 rfl (by decide) (Nat.le_of_ble_eq_true rfl) hm dX13_set_73 ?_
              refine g_ifb_eq (tgt := 89) hc dX13_set_76 (by decide)  (fun c15 => ?_) (fun c15 => ?_)
              · skip
                have hng : ¬ (x_sg I k v) := fun z => by
                  obtain ⟨z1, z2, z3, z4, z5⟩ := z
                  omega
                refine g_iconst hc dX13_set_89 ?_
                refine g_iret hc hm dX13_set_90 ?_
                exact ⟨x_end (by rw [if_neg hng]) hfI3 hmI3.g hR, by rw [if_neg hng]; exact ⟨hmI3, hu0⟩, fun t => by rw [hI3, g_up_k (by decide)]; exact hz3 t, fun t => by rw [hI3, g_up_k (by decide)]; exact hz7 t⟩
              · skip
                refine g_aldn hc dX13_set_79 rfl ?_
                refine g_getRk hc lk_X13_60 ca_703 (rc_703_26 hR) dX13_set_80 ?_
                refine g_iload_n hc dX13_set_83 rfl ?_
                refine g_ialde hc ca_714 (by decide) (by omega) (by omega) (show I3 714 k = I 550 k from hmI3.told (by omega)) dX13_set_84 ?_
                refine g_iload_n hc dX13_set_85 rfl ?_
                refine g_icmp_ne (tgt := 91) hc dX13_set_86 (by decide) (by first | exact hI _ _ | exact hxI2 _ _ | exact hIa _ _ | exact hIb _ _ | exact g_b32 | exact g_and32 | assumption | exact ⟨by omega, by omega⟩) (by first | exact hI _ _ | exact hxI2 _ _ | exact hIa _ _ | exact hIb _ _ | exact g_b32 | exact g_and32 | assumption | exact ⟨by omega, by omega⟩) (fun c16 => ?_) (fun c16 => ?_)
                · skip
                  have hpg : (x_sg I k v) := ⟨by omega, by omega, by omega, by omega, c16⟩
                  refine g_aldn hc dX13_set_91 rfl ?_
                  refine g_V0 hc (c_X13_remember w hR hmI3 hA9 hu9.2.1 hz39 hz79) my_X13_remember mv_X13_remember ca_703 rfl rfl lm_X13_343 rfl (by decide) (Nat.le_of_ble_eq_true rfl) hm dX13_set_92 (fun r8 n8 I8 J8 R8 hp8 => ?_)
                  obtain ⟨⟨rfl, rfl, hK8, hX8, rfl, t8, hR⟩, hl8⟩ := hp8
                  have hmI8 : q_rel I lb I8 := q_cgb (fun k j hk => hK8 k j (fun z => hk (by unfold x_b4 at z; unfold x_b; omega))) hX8 hmI3
                  have hfI8 : ∀ (k : Nat) (j : Int), ¬ x_b5 k j → I8 k j = M k j := fun k j hk => (hK8 k j (fun z => hk (by unfold x_b4 at z; unfold x_b5; omega))).trans (hfI3 k j hk)
                  have hl9 := hl8
                  have hK9 := hK8
                  refine g_aldn hc dX13_set_95 rfl ?_
                  refine g_getRk hc lk_X13_60 ca_703 (rc_703_26 hR) dX13_set_96 ?_
                  refine g_iload_n hc dX13_set_99 rfl ?_
                  refine g_iload_n hc dX13_set_100 rfl ?_
                  refine g_iast' hc ca_714 (by decide) (by omega) (by omega)  dX13_set_101 (fun I9 hI9 => ?_)
                  have hgI9 : ∀ (a : Nat) (c : Int), g32 (I9 a c) := by rw [hI9]; exact x_up32 hmI8.g g2
                  have hfI9 : ∀ (a : Nat) (c : Int), ¬ x_b5 a c → I9 a c = M a c := fun a c hk => by rw [hI9, g_up_n (by unfold x_b5 at hk; omega)]; exact hfI8 a c hk
                  obtain ⟨a9, s9, b1, b2, b3, b4, b5, b6, b7, b8, b8b, b9⟩ := hl9
                  obtain ⟨a2, s2, c1, c2, c3, c4, c5, -, -, ⟨c8, c8b⟩, -, -⟩ := x_tell (I := I) (p := k) (v := v) hu9.2.1
                  have hund : q_und (g_tell I k v) lb I9 := q_und_tell hm9 hu9 ⟨a9, s9, b1, b2, b3, b4, by rw [hI9, g_up_k (by decide)]; exact b5, fun t t0 t1 => by rw [hI9, g_up_k (by decide)]; exact b6 t t0 t1, fun t t0 t1 => by rw [hI9, g_up_k (by decide)]; exact b7 t t0 t1, fun t t0 t1 => by rw [hI9, g_up_k (by decide)]; exact b8 t t0 t1, fun t t0 t1 => by rw [hI9, g_up_k (by decide)]; exact b8b t t0 t1⟩
                  have h139 : ∀ t : Int, I8 713 t = I3 713 t := fun t => hK9 713 t (by unfold x_b4 x_a; omega)
                  have hrel : q_rel (g_tell I k v) lb I9 := q_rel_tell hm9 hu9.2.1 g1 g2 (x_sg_row hmM hu9.2.1 hpg) (fun j j0 j1 => by
                    rw [hI9]
                    by_cases e : j = k
                    · rw [e, g_up_s, c8]
                    · rw [g_up_i e, c8b j e]; exact hmI8.told ⟨j0, j1⟩) (fun f f0 f1 r r0 r1 => by
                    rw [hI9, g_up_k (by decide), c8b (4 + f) (by have := hpg.2.1; omega)]; exact hmI8.opn ⟨f0, f1⟩ ⟨r0, r1⟩) (fun a c hk k1 k2 => by rw [hI9, g_up_k k2]; exact hK9 a c hk) hgI9
                  have hz3f : q_01 I9 713 := fun t => by rw [hI9, g_up_k (by decide), h139 t]; exact hz39 t
                  have hz7f : q_01 I9 717 := fun t => by rw [hI9, g_up_k (by decide)]; exact b9 t
                  have hval : I9 703 32 = g_tlf I 549 5 + 1 := by
                    rw [hI9, g_up_k (by decide), b5]
                    obtain ⟨a4, s4, d1, d2, d3, d4, d5, -⟩ := x_tlf hu9.2.1
                    rw [d5]; omega
                  refine g_aldn hc dX13_set_102 rfl ?_
                  refine g_getI' hc lk_X13_292 ca_703 32 rfl dX13_set_103 ?_
                  refine g_iret hc hm dX13_set_106 ?_
                  exact ⟨x_end (by rw [if_pos hpg]; exact hval) hfI9 hgI9 hR, by rw [if_pos hpg]; exact ⟨hrel, hund⟩, hz3f, hz7f⟩
                · skip
                  have hng : ¬ (x_sg I k v) := fun z => by
                    obtain ⟨z1, z2, z3, z4, z5⟩ := z
                    exact z5 c16
                  refine g_iconst hc dX13_set_89 ?_
                  refine g_iret hc hm dX13_set_90 ?_
                  exact ⟨x_end (by rw [if_neg hng]) hfI3 hmI3.g hR, by rw [if_neg hng]; exact ⟨hmI3, hu0⟩, fun t => by rw [hI3, g_up_k (by decide)]; exact hz3 t, fun t => by rw [hI3, g_up_k (by decide)]; exact hz7 t⟩
    · skip
      have hng : ¬ (x_sg I k v) := fun z => by
        obtain ⟨z1, z2, z3, z4, z5⟩ := z
        omega
      refine g_iconst hc dX13_set_25 ?_
      refine g_iret hc hm dX13_set_26 ?_
      exact ⟨x_end (by rw [if_neg hng]) hfI3 hmI3.g hR, by rw [if_neg hng]; exact ⟨hmI3, hu0⟩, fun t => by rw [hI3, g_up_k (by decide)]; exact hz3 t, fun t => by rw [hI3, g_up_k (by decide)]; exact hz7 t⟩
