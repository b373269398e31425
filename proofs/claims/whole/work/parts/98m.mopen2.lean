set_option maxHeartbeats 4000000 in
set_option maxRecDepth 100000 in
/-- X13_open -/
theorem c_X13_open (w : g_W) {I : g_I} {J : g_J} {R : g_R} {lb tx : Nat} (hR : g_rf w R lb tx) {M : g_I} (hmM : q_rel I lb M) {f r b : Int} (g1 : g32 f) (g2 : g32 r) (hb : b = 0 ∨ b = 1) (hu : q_und I lb M) (hz3 : q_01 M 713) (hz7 : q_01 M 717) : g_Met w g_n M J R yX13_open cX13_open 4 (some .int) 3 0 0 [(gvr w 703), (gvI f), (gvI r), (gvI b)] (fun rr nn II JJ RR => x_rel w (some (gvI ((if (x_og I lb f r b) then g_tlf I 549 5 + 1 else -1)))) x_b5 M J lb rr nn II JJ RR ∧ (q_rel (if (x_og I lb f r b) then (g_tell I (4 + f) (g_xor (I 550 (4 + f)) (g_shl 1 r))) else I) lb II ∧ q_und (if (x_og I lb f r b) then (g_tell I (4 + f) (g_xor (I 550 (4 + f)) (g_shl 1 r))) else I) lb II) ∧ q_01 II 713 ∧ q_01 II 717) := by
  refine g_intro (own := RX13) [some (gvr w 703), some (gvI f), some (gvI r), some (gvI b)] (by decide +kernel) rfl (by decide) (Nat.le_of_ble_eq_true rfl) rfl (fun i v hv => g_args 0 i v hv rfl) (fun x hc hm => ?_)
  have hfM : ∀ (k : Nat) (j : Int), ¬ x_b5 k j → M k j = M k j := fun _ _ _ => rfl
  have hI := hmM.gi
  have hTb := q_b1 hmM
  have hLv := hmM.lv
  have hC := hmM.cin
  have hL := hC.1
  obtain ⟨hn0, hn1, hLs, hLf⟩ := id hL
  obtain ⟨-, hC1, hC2, hC3, hC4, hC5, hC6, hC7⟩ := id hC
  refine g_aldn hc dX13_open_0 rfl ?_
  refine g_iconst hc dX13_open_1 ?_
  refine g_putI' hc lk_X13_102 ca_703 0 rfl dX13_open_2 (fun I3 hI3 => ?_)
  have hmI3 : q_rel I lb I3 := by rw [hI3]; exact q_upb hmM (by unfold x_b; omega) (by first | exact hI _ _ | exact hmM.g _ _ | exact g_b32 | exact g_and32 | exact g_or32 | exact g_shl32 | assumption | exact ⟨by omega, by omega⟩)
  have hfI3 : ∀ (k : Nat) (j : Int), ¬ x_b5 k j → I3 k j = M k j := fun k j hk => by rw [hI3]; exact (g_up_n (by unfold x_b5 at hk; omega)).trans (hfM k j hk)
  have hu0 : q_und I lb I3 := q_und_cg (by rw [hI3, g_up_n (by omega)]) (by rw [hI3]; funext j; exact g_up_k (by decide)) (by rw [hI3]; funext j; exact g_up_k (by decide)) hu
  have hu9 := hu0
  have hA9 : I3 703 32 = I 549 5 := hu9.1
  have hz39 : q_01 I3 713 := fun t => by rw [hI3, g_up_k (by decide)]; exact hz3 t
  have hz79 : q_01 I3 717 := fun t => by rw [hI3, g_up_k (by decide)]; exact hz7 t
  have hm9 := hmI3
  refine g_aldn hc dX13_open_5 rfl ?_
  refine g_iload_n hc dX13_open_6 rfl ?_
  refine g_iload_n hc dX13_open_7 rfl ?_
  refine g_V2r hc (c_X13_isBranch w hR hmI3 (by first | exact hI _ _ | exact hmM.g _ _ | exact g_b32 | exact g_and32 | exact g_or32 | exact g_shl32 | assumption | exact ⟨by omega, by omega⟩) (by first | exact hI _ _ | exact hmM.g _ _ | exact g_b32 | exact g_and32 | exact g_or32 | exact g_shl32 | assumption | exact ⟨by omega, by omega⟩)) my_X13_isBranch mv_X13_isBranch ca_703 rfl rfl lm_X13_335 rfl (by decide) (Nat.le_of_ble_eq_true rfl) hm dX13_open_8 ?_
  refine g_ifb_eq (tgt := 41) hc dX13_open_11 (by decide)  (fun c1 => ?_) (fun c1 => ?_)
  · skip
    have hng : ¬ (x_og I lb f r b) := fun z => c1 z.1
    refine g_iconst hc dX13_open_41 ?_
    refine g_iret hc hm dX13_open_42 ?_
    exact ⟨x_end (by rw [if_neg hng]) hfI3 hmI3.g hR, by rw [if_neg hng]; exact ⟨hmI3, hu0⟩, fun t => by rw [hI3, g_up_k (by decide)]; exact hz3 t, fun t => by rw [hI3, g_up_k (by decide)]; exact hz7 t⟩
  · skip
    have hbr := c1
    have hTs := q_ts hmM (by omega)
    obtain ⟨hk2, hk1, hy, hit⟩ := hLf f hbr.1.1 hbr.1.2
    have hw7 := hC7 f hbr.1.1 hbr.1.2
    have hw8 := hmM.msk hbr.1
    obtain ⟨m1, m2, m3, m4⟩ := x_mask (m := I 550 (4 + f)) (r := r) (n := I (lb + 43) f) ⟨by omega, by omega⟩ hbr.2 (by omega) hw8
    refine g_aldn hc dX13_open_14 rfl ?_
    refine g_getRk hc lk_X13_56 ca_703 (rc_703_25 hR) dX13_open_15 ?_
    refine g_iconst hc dX13_open_18 ?_
    refine g_iload_n hc dX13_open_19 rfl ?_
    refine g_imul hc dX13_open_20 ?_
    refine g_iload_n hc dX13_open_21 rfl ?_
    refine g_iadd hc dX13_open_22 ?_
    refine g_zalde hc ca_713 (by decide) (by omega) (by omega) (show I3 713 ((4 * f) + r) = g_b (g_bit (I 550 (4 + f)) r) from hmI3.opn (by omega) (by omega)) dX13_open_23 ?_
    refine g_iload_n hc dX13_open_24 rfl ?_
    refine g_icmp_eq (tgt := 41) hc dX13_open_25 (by decide) (by first | exact hI _ _ | exact hxI2 _ _ | exact hIa _ _ | exact hIb _ _ | exact g_b32 | exact g_and32 | assumption | exact ⟨by omega, by omega⟩) (by first | exact hI _ _ | exact hxI2 _ _ | exact hIa _ _ | exact hIb _ _ | exact g_b32 | exact g_and32 | assumption | exact ⟨by omega, by omega⟩) (fun c2 => ?_) (fun c2 => ?_)
    · skip
      have hng : ¬ (x_og I lb f r b) := fun z => z.2.1 c2
      refine g_iconst hc dX13_open_41 ?_
      refine g_iret hc hm dX13_open_42 ?_
      exact ⟨x_end (by rw [if_neg hng]) hfI3 hmI3.g hR, by rw [if_neg hng]; exact ⟨hmI3, hu0⟩, fun t => by rw [hI3, g_up_k (by decide)]; exact hz3 t, fun t => by rw [hI3, g_up_k (by decide)]; exact hz7 t⟩
    · skip
      have hne : ¬ g_b (g_bit (I 550 (4 + f)) r) = b := c2
      refine g_iload_n hc dX13_open_28 rfl ?_
      refine g_if_ne (tgt := 43) hc dX13_open_29 (by decide) (by first | exact hI _ _ | exact hxI2 _ _ | exact hIa _ _ | exact hIb _ _ | exact g_b32 | exact g_and32 | assumption | exact ⟨by omega, by omega⟩) (fun c3 => ?_) (fun c3 => ?_)
      · skip
        have hpg : (x_og I lb f r b) := ⟨hbr, hne, fun z => hne (by rw [g_b1 (m3.mp z).1]; omega)⟩
        refine g_aldn hc dX13_open_43 rfl ?_
        refine g_V0 hc (c_X13_remember w hR hmI3 hA9 hu9.2.1 hz39 hz79) my_X13_remember mv_X13_remember ca_703 rfl rfl lm_X13_343 rfl (by decide) (Nat.le_of_ble_eq_true rfl) hm dX13_open_44 (fun r4 n4 I4 J4 R4 hp4 => ?_)
        obtain ⟨⟨rfl, rfl, hK4, hX4, rfl, t4, hR⟩, hl4⟩ := hp4
        have hmI4 : q_rel I lb I4 := q_cgb (fun k j hk => hK4 k j (fun z => hk (by unfold x_b4 at z; unfold x_b; omega))) hX4 hmI3
        have hfI4 : ∀ (k : Nat) (j : Int), ¬ x_b5 k j → I4 k j = M k j := fun k j hk => (hK4 k j (fun z => hk (by unfold x_b4 at z; unfold x_b5; omega))).trans (hfI3 k j hk)
        have hl9 := hl4
        have hK9 := hK4
        refine g_aldn hc dX13_open_47 rfl ?_
        refine g_getRk hc lk_X13_56 ca_703 (rc_703_25 hR) dX13_open_48 ?_
        refine g_iconst hc dX13_open_51 ?_
        refine g_iload_n hc dX13_open_52 rfl ?_
        refine g_imul hc dX13_open_53 ?_
        refine g_iload_n hc dX13_open_54 rfl ?_
        refine g_iadd hc dX13_open_55 ?_
        refine g_iload_n hc dX13_open_56 rfl ?_
        refine g_zast' hc ca_713 (by decide) (by omega) (by omega) hb dX13_open_57 (fun I5 hI5 => ?_)
        have hgI5 : ∀ (a : Nat) (c : Int), g32 (I5 a c) := by rw [hI5]; exact x_up32 hmI4.g ⟨by omega, by omega⟩
        have hfI5 : ∀ (a : Nat) (c : Int), ¬ x_b5 a c → I5 a c = M a c := fun a c hk => by rw [hI5, g_up_n (by unfold x_b5 at hk; omega)]; exact hfI4 a c hk
        obtain ⟨a9, s9, b1, b2, b3, b4, b5, b6, b7, b8, b8b, b9⟩ := hl9
        obtain ⟨a2, s2, c1, c2, c3, c4, c5, -, -, ⟨c8, c8b⟩, -, -⟩ := x_tell (I := I) (p := 4 + f) (v := (g_xor (I 550 (4 + f)) (g_shl 1 r))) hu9.2.1
        have hund : q_und (g_tell I (4 + f) (g_xor (I 550 (4 + f)) (g_shl 1 r))) lb I5 := q_und_tell hm9 hu9 ⟨a9, s9, b1, b2, b3, b4, by rw [hI5, g_up_k (by decide)]; exact b5, fun t t0 t1 => by rw [hI5, g_up_k (by decide)]; exact b6 t t0 t1, fun t t0 t1 => by rw [hI5, g_up_k (by decide)]; exact b7 t t0 t1, fun t t0 t1 => by rw [hI5, g_up_k (by decide)]; exact b8 t t0 t1, fun t t0 t1 => by rw [hI5, g_up_k (by decide)]; exact b8b t t0 t1⟩
        have h139 : ∀ t : Int, I4 713 t = I3 713 t := fun t => hK9 713 t (by unfold x_b4 x_a; omega)
        have hop9 : ∀ t : Int, 0 ≤ t → t < I lb 1 → ∀ u : Int, 0 ≤ u → u < I (lb + 43) t → I5 713 (4 * t + u) = g_b (g_bit ((g_tell I (4 + f) (g_xor (I 550 (4 + f)) (g_shl 1 r))) 550 (4 + t)) u) := fun t t0 t1 u u0 u1 => by
          have hkt := (hLf t t0 t1).1
          have ho := hmI4.opn ⟨t0, t1⟩ ⟨u0, u1⟩
          rw [hI5]
          by_cases e : t = f
          · subst e
            rw [c8]
            by_cases e2 : u = r
            · subst e2
              have h4 := m4 u u0 u1
              rw [if_pos rfl] at h4
              rw [g_up_s]
              by_cases y : g_bit (I 550 (4 + t)) u
              · rw [g_b0 (fun z => (h4.mp z) y)]
                rw [g_b1 y] at hne
                omega
              · rw [g_b1 (h4.mpr y)]
                rw [g_b0 y] at hne
                omega
            · rw [g_up_i (by omega), ho]
              have h4 := m4 u u0 u1
              rw [if_neg e2] at h4
              exact g_bcg h4.symm
          · rw [g_up_i (by omega), ho, c8b (4 + t) (by omega)]
        have hrel : q_rel (g_tell I (4 + f) (g_xor (I 550 (4 + f)) (g_shl 1 r))) lb I5 := q_rel_tell hm9 hu9.2.1 ⟨by omega, by omega⟩ ⟨by omega, by omega⟩ (x_og_row hmM hu9.2.1 hpg) (fun j j0 j1 => by
          rw [hI5, g_up_k (by decide), c8b j (by omega)]; exact hmI4.told ⟨j0, j1⟩) hop9 (fun a c hk k1 k2 => by rw [hI5, g_up_k k1]; exact hK9 a c hk) hgI5
        have hz3f : q_01 I5 713 := by rw [hI5]; exact q_01_up (fun t => by rw [h139 t]; exact hz39 t) hb
        have hz7f : q_01 I5 717 := fun t => by rw [hI5, g_up_k (by decide)]; exact b9 t
        have hval : I5 703 32 = g_tlf I 549 5 + 1 := by
          rw [hI5, g_up_k (by decide), b5]
          obtain ⟨a4, s4, d1, d2, d3, d4, d5, -⟩ := x_tlf hu9.2.1
          rw [d5]; omega
        refine g_aldn hc dX13_open_58 rfl ?_
        refine g_getI' hc lk_X13_292 ca_703 32 rfl dX13_open_59 ?_
        refine g_iret hc hm dX13_open_62 ?_
        exact ⟨x_end (by rw [if_pos hpg]; exact hval) hfI5 hgI5 hR, by rw [if_pos hpg]; exact ⟨hrel, hund⟩, hz3f, hz7f⟩
      · skip
        refine g_aldn hc dX13_open_32 rfl ?_
        refine g_iload_n hc dX13_open_33 rfl ?_
        refine g_V1r hc (c_X13_openMany w hR hmI3 (by omega)) my_X13_openMany mv_X13_openMany ca_703 rfl rfl lm_X13_329 rfl (by decide) (Nat.le_of_ble_eq_true rfl) hm dX13_open_34 ?_
        refine g_iconst hc dX13_open_37 ?_
        refine g_icmp_ne (tgt := 43) hc dX13_open_38 (by decide) (by first | exact hI _ _ | exact hxI2 _ _ | exact hIa _ _ | exact hIb _ _ | exact g_b32 | exact g_and32 | assumption | exact ⟨by omega, by omega⟩) (by first | exact hI _ _ | exact hxI2 _ _ | exact hIa _ _ | exact hIb _ _ | exact g_b32 | exact g_and32 | assumption | exact ⟨by omega, by omega⟩) (fun c4 => ?_) (fun c4 => ?_)
        · skip
          have hpg : (x_og I lb f r b) := ⟨hbr, hne, fun z => c4 (m3.mp z).2⟩
          refine g_aldn hc dX13_open_43 rfl ?_
          refine g_V0 hc (c_X13_remember w hR hmI3 hA9 hu9.2.1 hz39 hz79) my_X13_remember mv_X13_remember ca_703 rfl rfl lm_X13_343 rfl (by decide) (Nat.le_of_ble_eq_true rfl) hm dX13_open_44 (fun r6 n6 I6 J6 R6 hp6 => ?_)
          obtain ⟨⟨rfl, rfl, hK6, hX6, rfl, t6, hR⟩, hl6⟩ := hp6
          have hmI6 : q_rel I lb I6 := q_cgb (fun k j hk => hK6 k j (fun z => hk (by unfold x_b4 at z; unfold x_b; omega))) hX6 hmI3
          have hfI6 : ∀ (k : Nat) (j : Int), ¬ x_b5 k j → I6 k j = M k j := fun k j hk => (hK6 k j (fun z => hk (by unfold x_b4 at z; unfold x_b5; omega))).trans (hfI3 k j hk)
          have hl9 := hl6
          have hK9 := hK6
          refine g_aldn hc dX13_open_47 rfl ?_
          refine g_getRk hc lk_X13_56 ca_703 (rc_703_25 hR) dX13_open_48 ?_
          refine g_iconst hc dX13_open_51 ?_
          refine g_iload_n hc dX13_open_52 rfl ?_
          refine g_imul hc dX13_open_53 ?_
          refine g_iload_n hc dX13_open_54 rfl ?_
          refine g_iadd hc dX13_open_55 ?_
          refine g_iload_n hc dX13_open_56 rfl ?_
          refine g_zast' hc ca_713 (by decide) (by omega) (by omega) hb dX13_open_57 (fun I7 hI7 => ?_)
          have hgI7 : ∀ (a : Nat) (c : Int), g32 (I7 a c) := by rw [hI7]; exact x_up32 hmI6.g ⟨by omega, by omega⟩
          have hfI7 : ∀ (a : Nat) (c : Int), ¬ x_b5 a c → I7 a c = M a c := fun a c hk => by rw [hI7, g_up_n (by unfold x_b5 at hk; omega)]; exact hfI6 a c hk
          obtain ⟨a9, s9, b1, b2, b3, b4, b5, b6, b7, b8, b8b, b9⟩ := hl9
          obtain ⟨a2, s2, c1, c2, c3, c4, c5, -, -, ⟨c8, c8b⟩, -, -⟩ := x_tell (I := I) (p := 4 + f) (v := (g_xor (I 550 (4 + f)) (g_shl 1 r))) hu9.2.1
          have hund : q_und (g_tell I (4 + f) (g_xor (I 550 (4 + f)) (g_shl 1 r))) lb I7 := q_und_tell hm9 hu9 ⟨a9, s9, b1, b2, b3, b4, by rw [hI7, g_up_k (by decide)]; exact b5, fun t t0 t1 => by rw [hI7, g_up_k (by decide)]; exact b6 t t0 t1, fun t t0 t1 => by rw [hI7, g_up_k (by decide)]; exact b7 t t0 t1, fun t t0 t1 => by rw [hI7, g_up_k (by decide)]; exact b8 t t0 t1, fun t t0 t1 => by rw [hI7, g_up_k (by decide)]; exact b8b t t0 t1⟩
          have h139 : ∀ t : Int, I6 713 t = I3 713 t := fun t => hK9 713 t (by unfold x_b4 x_a; omega)
          have hop9 : ∀ t : Int, 0 ≤ t → t < I lb 1 → ∀ u : Int, 0 ≤ u → u < I (lb + 43) t → I7 713 (4 * t + u) = g_b (g_bit ((g_tell I (4 + f) (g_xor (I 550 (4 + f)) (g_shl 1 r))) 550 (4 + t)) u) := fun t t0 t1 u u0 u1 => by
            have hkt := (hLf t t0 t1).1
            have ho := hmI6.opn ⟨t0, t1⟩ ⟨u0, u1⟩
            rw [hI7]
            by_cases e : t = f
            · subst e
              rw [c8]
              by_cases e2 : u = r
              · subst e2
                have h4 := m4 u u0 u1
                rw [if_pos rfl] at h4
                rw [g_up_s]
                by_cases y : g_bit (I 550 (4 + t)) u
                · rw [g_b0 (fun z => (h4.mp z) y)]
                  rw [g_b1 y] at hne
                  omega
                · rw [g_b1 (h4.mpr y)]
                  rw [g_b0 y] at hne
                  omega
              · rw [g_up_i (by omega), ho]
                have h4 := m4 u u0 u1
                rw [if_neg e2] at h4
                exact g_bcg h4.symm
            · rw [g_up_i (by omega), ho, c8b (4 + t) (by omega)]
          have hrel : q_rel (g_tell I (4 + f) (g_xor (I 550 (4 + f)) (g_shl 1 r))) lb I7 := q_rel_tell hm9 hu9.2.1 ⟨by omega, by omega⟩ ⟨by omega, by omega⟩ (x_og_row hmM hu9.2.1 hpg) (fun j j0 j1 => by
            rw [hI7, g_up_k (by decide), c8b j (by omega)]; exact hmI6.told ⟨j0, j1⟩) hop9 (fun a c hk k1 k2 => by rw [hI7, g_up_k k1]; exact hK9 a c hk) hgI7
          have hz3f : q_01 I7 713 := by rw [hI7]; exact q_01_up (fun t => by rw [h139 t]; exact hz39 t) hb
          have hz7f : q_01 I7 717 := fun t => by rw [hI7, g_up_k (by decide)]; exact b9 t
          have hval : I7 703 32 = g_tlf I 549 5 + 1 := by
            rw [hI7, g_up_k (by decide), b5]
            obtain ⟨a4, s4, d1, d2, d3, d4, d5, -⟩ := x_tlf hu9.2.1
            rw [d5]; omega
          refine g_aldn hc dX13_open_58 rfl ?_
          refine g_getI' hc lk_X13_292 ca_703 32 rfl dX13_open_59 ?_
          refine g_iret hc hm dX13_open_62 ?_
          exact ⟨x_end (by rw [if_pos hpg]; exact hval) hfI7 hgI7 hR, by rw [if_pos hpg]; exact ⟨hrel, hund⟩, hz3f, hz7f⟩
        · skip
          have hbt : g_bit (I 550 (4 + f)) r := by
            by_cases y : g_bit (I 550 (4 + f)) r
            · exact y
            · exact absurd (by rw [g_b0 y]; omega) hne
          have hng : ¬ (x_og I lb f r b) := fun z => z.2.2 (m3.mpr ⟨hbt, c4⟩)
          refine g_iconst hc dX13_open_41 ?_
          refine g_iret hc hm dX13_open_42 ?_
          exact ⟨x_end (by rw [if_neg hng]) hfI3 hmI3.g hR, by rw [if_neg hng]; exact ⟨hmI3, hu0⟩, fun t => by rw [hI3, g_up_k (by decide)]; exact hz3 t, fun t => by rw [hI3, g_up_k (by decide)]; exact hz7 t⟩
