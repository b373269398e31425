/-- an ACT is UNDONE -/
theorem x_unt {I : g_I} : g_unt I 549 5 = I 549 5 - 1 ∧ g_unt I 550 = x_past I 1 ∧ (∀ k : Nat, k ≠ 549 → k ≠ 550 → g_unt I k = I k) ∧ (∀ j : Int, j ≠ 5 → g_unt I 549 j = I 549 j) ∧ ∀ d : Nat, x_past (g_unt I) d = x_past I (d + 1) := by
  have e5 : g_unt I 549 5 = I 549 5 - 1 := by rw [g_unt, g_up_k (by decide), g_up_s]
  have e550 : g_unt I 550 = x_past I 1 := by
    funext j
    show g_unt I 550 j = if j = I 552 (I 549 5 - 1 - ((0 : Nat) : Int)) then I 553 (I 549 5 - 1 - ((0 : Nat) : Int)) else I 550 j
    rw [show I 549 5 - 1 - ((0 : Nat) : Int) = I 549 5 - 1 by omega, g_unt]
    by_cases z : j = I 552 (I 549 5 - 1)
    · rw [if_pos z, z, g_up_s]
    · rw [if_neg z, g_up_i z, g_up_k (by decide)]
  have ek : ∀ k : Nat, k ≠ 549 → k ≠ 550 → g_unt I k = I k := fun k a c => by funext j; rw [g_unt, g_up_k c, g_up_k a]
  refine ⟨e5, e550, ek, fun j hj => by rw [g_unt, g_up_k (by decide), g_up_i hj], fun d => ?_⟩
  induction d with
  | zero => exact e550
  | succ d ih =>
    funext j
    show (if j = g_unt I 552 (g_unt I 549 5 - 1 - (d : Int)) then g_unt I 553 (g_unt I 549 5 - 1 - (d : Int)) else x_past (g_unt I) d j) = if j = I 552 (I 549 5 - 1 - ((d + 1 : Nat) : Int)) then I 553 (I 549 5 - 1 - ((d + 1 : Nat) : Int)) else x_past I (d + 1) j
    rw [e5, ek 552 (by decide) (by decide), ek 553 (by decide) (by decide), ih, show I 549 5 - 1 - 1 - (d : Int) = I 549 5 - 1 - ((d + 1 : Nat) : Int) by omega]
theorem q_row_S {I : g_I} {b : Nat} {S S' : Int → Int} (hn : I b 1 ≤ 20) (e : ∀ j : Int, 0 ≤ j → j < 24 → S' j = S j) (h : q_row I b S) : q_row I b S' := by
  obtain ⟨r0, r1, r2, r3, r4⟩ := h
  refine ⟨by rw [e 0 (by omega) (by omega)]; exact r0, by rw [e 1 (by omega) (by omega)]; exact r1, by rw [e 2 (by omega) (by omega)]; exact r2, by rw [e 3 (by omega) (by omega)]; exact r3, fun f f0 f1 => ?_⟩
  rw [e (4 + f) (by omega) (by omega)]; exact r4 f f0 f1
theorem q_lbr {I M : g_I} {lb : Nat} (h : q_rel I lb M) : (4 ≤ lb ∧ lb + 128 ≤ 388) ∨ lb = 555 := by
  have a4 := h.tbl
  have a5 := h.lv
  unfold q_tb at a4
  rcases a4 with ⟨-, -, z, -⟩ | ⟨z1, z2, z3⟩
  · exact Or.inr z
  · left; omega
abbrev x_b6 (k : Nat) (j : Int) : Prop := x_a k j ∨ k = 713 ∨ k = 714 ∨ (k = 703 ∧ j = 32)
/-- the picture whose state is S -/
theorem q_rel_mv {I I' M M' : g_I} {lb : Nat} (h : q_rel I lb M) (hk : ∀ k : Nat, k ≠ 549 → k ≠ 550 → I' k = I k) (hg : ∀ k j, g32 (I' k j)) (hgm : ∀ k j, g32 (M' k j))
    (hr : q_row I lb (I' 550)) (hto : ∀ k : Int, 0 ≤ k → k < 4 → M' 714 k = I' 550 k) (hop : ∀ f : Int, 0 ≤ f → f < I lb 1 → ∀ r : Int, 0 ≤ r → r < I (lb + 43) f → M' 713 (4 * f + r) = g_b (g_bit (I' 550 (4 + f)) r))
    (hf : ∀ (k : Nat) (j : Int), ¬ x_b6 k j → M' k j = M k j) : q_rel I' lb M' := by
  obtain ⟨hc1, hc2, hc3⟩ := h.clu
  have e : ∀ k : Nat, (705 ≤ k ∧ k ≤ 712 ∧ k ≠ 707) ∨ (721 ≤ k ∧ k ≤ 723) → M' k = M k := fun k hn => funext fun j => hf k j (by unfold x_b6 x_a; omega)
  refine q_rel_st h (hk 0 (by decide) (by decide)) (fun k a c => hk k (by omega) (by omega)) (fun k a c => hk k (by omega) (by omega)) hg hgm hr hto hop ?_ (fun k a c d => e k (by omega)) ⟨hf 703 24 (by decide), hf 703 23 (by decide), hf 703 7 (by decide)⟩
  unfold g_cok at hc1 ⊢
  rw [hk 697 (by decide) (by decide), hk 698 (by decide) (by decide), hk 699 (by decide) (by decide), hk 700 (by decide) (by decide), e 721 (by decide), e 722 (by decide), e 723 (by decide), hf 703 38 (by decide)]
  exact ⟨hc1, hc2, hc3⟩
theorem x_unt32 {I : g_I} (hA : 0 ≤ I 549 5 ∧ I 549 5 ≤ 40) (h : ∀ k j, g32 (I k j)) : ∀ k j, g32 (g_unt I k j) := x_up32 (x_up32 h ⟨by omega, by omega⟩) (h _ _)
theorem q_unt {I M M' : g_I} {lb : Nat} (h : q_rel I lb M) (hu : q_und I lb M) (h0 : 0 < I 549 5) (hA : M' 703 32 = I 549 5 - 1) (h3 : ∀ t : Int, 0 ≤ t → t < 72 → M' 713 t = M 717 (72 * (I 549 5 - 1) + t)) (h4 : ∀ t : Int, 0 ≤ t → t < 4 → M' 714 t = M 718 (4 * (I 549 5 - 1) + t)) (hgm : ∀ k j, g32 (M' k j)) (hf : ∀ (k : Nat) (j : Int), ¬ x_b6 k j → M' k j = M k j) : q_rel (g_unt I) lb M' ∧ q_und (g_unt I) lb M' := by
  obtain ⟨e5, e550, ek, e549, ep⟩ := @x_unt I
  obtain ⟨u1, u2, u3⟩ := hu
  obtain ⟨w1, w2, w3⟩ := u3 0 (by omega)
  have hlb := q_lbr h
  have hn := (q_lok h).2.1
  rw [show I 549 5 - 1 - ((0 : Nat) : Int) = I 549 5 - 1 by omega] at w2 w3
  refine ⟨q_rel_mv h ek (x_unt32 u2 h.gi) hgm (by rw [e550]; exact w1) (fun k k0 k1 => by rw [e550, h4 k k0 k1]; exact w2 k k0 k1) (fun f f0 f1 r r0 r1 => ?_) hf, by omega, by omega, fun d hd => ?_⟩
  · have hk := ((q_lok h).2.2.2 f f0 f1).1
    rw [e550, h3 _ (by omega) (by omega)]; exact w3 f f0 f1 r r0 r1
  · obtain ⟨y1, y2, y3⟩ := u3 (d + 1) (by omega)
    unfold q_snap
    rw [ep, e5, ek lb (by omega) (by omega), ek (lb + 43) (by omega) (by omega), show I 549 5 - 1 - 1 - (d : Int) = I 549 5 - 1 - ((d + 1 : Nat) : Int) by omega]
    refine ⟨(q_row_cg (ek 0 (by decide) (by decide)) (ek lb (by omega) (by omega)) (ek (lb + 43) (by omega) (by omega))).mpr y1, fun k k0 k1 => ?_, fun f f0 f1 r r0 r1 => ?_⟩
    · rw [hf 718 _ (by unfold x_b6 x_a; omega)]; exact y2 k k0 k1
    · rw [hf 717 _ (by unfold x_b6 x_a; omega)]; exact y3 f f0 f1 r r0 r1
set_option maxHeartbeats 4000000 in
set_option maxRecDepth 100000 in
/-- X13_undo -/
theorem c_X13_undo (w : g_W) {I : g_I} {J : g_J} {R : g_R} {lb tx : Nat} (hR : g_rf w R lb tx) {M : g_I} (hmM : q_rel I lb M) (hu : q_und I lb M) (hz3 : q_01 M 713) (hz7 : q_01 M 717) : g_Met w g_n M J R yX13_undo cX13_undo 2 (some .int) 0 0 0 [(gvr w 703)] (fun rr nn II JJ RR => x_rel w (some (gvI ((if I 549 5 = 0 then -1 else I 549 5 - 1)))) x_b6 M J lb rr nn II JJ RR ∧ (q_rel (if I 549 5 = 0 then I else g_unt I) lb II ∧ q_und (if I 549 5 = 0 then I else g_unt I) lb II) ∧ q_01 II 713) := by
  refine g_intro (own := RX13) [some (gvr w 703), none] (by decide +kernel) rfl (by decide) (Nat.le_of_ble_eq_true rfl) rfl (fun i v hv => g_args 1 i v hv rfl) (fun x hc hm => ?_)
  have hfM : ∀ (k : Nat) (j : Int), ¬ x_b6 k j → M k j = M k j := fun _ _ _ => rfl
  have hI := hmM.gi
  have hTb := q_b1 hmM
  have hLv := hmM.lv
  have hC := hmM.cin
  have hL := hC.1
  obtain ⟨hn0, hn1, hLs, hLf⟩ := id hL
  obtain ⟨-, hC1, hC2, hC3, hC4, hC5, hC6, hC7⟩ := id hC
  obtain ⟨hu1, hu2, hu3⟩ := id hu
  refine g_aldn hc dX13_undo_0 rfl ?_
  refine g_iconst hc dX13_undo_1 ?_
  refine g_putI' hc lk_X13_102 ca_703 0 rfl dX13_undo_2 (fun I3 hI3 => ?_)
  have hmI3 : q_rel I lb I3 := by rw [hI3]; exact q_upb hmM (by unfold x_b; omega) (by first | exact hI _ _ | exact hmM.g _ _ | exact g_b32 | exact g_and32 | exact g_or32 | exact g_shl32 | assumption | exact ⟨by omega, by omega⟩)
  have hfI3 : ∀ (k : Nat) (j : Int), ¬ x_b6 k j → I3 k j = M k j := fun k j hk => by rw [hI3]; exact (g_up_n (by unfold x_b6 at hk; omega)).trans (hfM k j hk)
  have hgI3 := hmI3.g
  have hz39 : q_01 I3 713 := fun t => by rw [hI3, g_up_k (by decide)]; exact hz3 t
  refine g_aldn hc dX13_undo_5 rfl ?_
  refine g_getIe hc lk_X13_292 ca_703 32 rfl (show I3 703 32 = I 549 5 from by rw [hI3, g_up_n (by omega)]; exact hu1) dX13_undo_6 ?_
  refine g_if_ne (tgt := 14) hc dX13_undo_9 (by decide) (by first | exact hI _ _ | exact hxI2 _ _ | exact hIa _ _ | exact hIb _ _ | exact g_b32 | exact g_and32 | assumption | exact ⟨by omega, by omega⟩) (fun c1 => ?_) (fun c1 => ?_)
  · skip
    refine g_aldn hc dX13_undo_14 rfl ?_
    refine g_dup hc dX13_undo_15 rfl ?_
    refine g_getIe hc lk_X13_292 ca_703 32 rfl (show I3 703 32 = I 549 5 from by rw [hI3, g_up_n (by omega)]; exact hu1) dX13_undo_16 ?_
    refine g_iconst hc dX13_undo_19 ?_
    refine g_isub hc dX13_undo_20 ?_
    refine g_putI' hc lk_X13_292 ca_703 32 rfl dX13_undo_21 (fun I4 hI4 => ?_)
    have hgI4 : ∀ (a : Nat) (c : Int), g32 (I4 a c) := by rw [hI4]; exact x_up32 hgI3 (show g32 _ from ⟨by omega, by omega⟩)
    have hfI4 : ∀ (a : Nat) (c : Int), ¬ x_b6 a c → I4 a c = M a c := fun a c hk => by rw [hI4]; exact (g_up_n (by unfold x_b6 at hk; omega)).trans (hfI3 a c hk)
    refine g_iconst hc dX13_undo_24 ?_
    refine g_istore_1 hc dX13_undo_25 rfl ?_
    have lp_26 : ∀ (fu : Nat) (i : Int) (Mk : g_I), 0 ≤ i ∧ i ≤ 72 → (∀ t : Int, 0 ≤ t → t < i → Mk 713 t = M 717 (72 * (I 549 5 - 1) + t)) → Mk 703 32 = I 549 5 - 1 → q_01 Mk 713 → (∀ (k : Nat) (j : Int), g32 (Mk k j)) → (∀ (k : Nat) (j : Int), ¬ x_b6 k j → Mk k j = M k j) → 72 - i < (fu : Int) → G w x (fun rr nn II JJ RR => x_rel w (some (gvI ((if I 549 5 = 0 then -1 else I 549 5 - 1)))) x_b6 M J lb rr nn II JJ RR ∧ (q_rel (if I 549 5 = 0 then I else g_unt I) lb II ∧ q_und (if I 549 5 = 0 then I else g_unt I) lb II) ∧ q_01 II 713) 0 0 g_n Mk J R 26 [some (gvr w 703), some (gvI i)] [] := by
      intro fu
      induction fu with
      | zero => intro i Mk h3 hp1 hpA hpz hgMk hfMk hfu; exfalso; omega
      | succ fu ih =>
        intro i Mk h3 hp1 hpA hpz hgMk hfMk hfu
        have ih_26 := ih
        refine g_iload_n hc dX13_undo_26 rfl ?_
        refine g_bipush hc dX13_undo_27 (by decide +kernel) ?_
        refine g_icmp_ge (tgt := 58) hc dX13_undo_29 (by decide) (by first | exact hI _ _ | exact hxI2 _ _ | exact hIa _ _ | exact hIb _ _ | exact g_b32 | exact g_and32 | assumption | exact ⟨by omega, by omega⟩) (by first | exact hI _ _ | exact hxI2 _ _ | exact hIa _ _ | exact hIb _ _ | exact g_b32 | exact g_and32 | assumption | exact ⟨by omega, by omega⟩) (fun c2 => ?_) (fun c2 => ?_)
        · skip
          refine g_iconst hc dX13_undo_58 ?_
          refine g_istore_1 hc dX13_undo_59 rfl ?_
          have lp_60 : ∀ (fu : Nat) (i : Int) (Mk : g_I), 0 ≤ i ∧ i ≤ 4 → (∀ t : Int, 0 ≤ t → t < 72 → Mk 713 t = M 717 (72 * (I 549 5 - 1) + t)) → (∀ t : Int, 0 ≤ t → t < i → Mk 714 t = M 718 (4 * (I 549 5 - 1) + t)) → Mk 703 32 = I 549 5 - 1 → q_01 Mk 713 → (∀ (k : Nat) (j : Int), g32 (Mk k j)) → (∀ (k : Nat) (j : Int), ¬ x_b6 k j → Mk k j = M k j) → 4 - i < (fu : Int) → G w x (fun rr nn II JJ RR => x_rel w (some (gvI ((if I 549 5 = 0 then -1 else I 549 5 - 1)))) x_b6 M J lb rr nn II JJ RR ∧ (q_rel (if I 549 5 = 0 then I else g_unt I) lb II ∧ q_und (if I 549 5 = 0 then I else g_unt I) lb II) ∧ q_01 II 713) 0 0 g_n Mk J R 60 [some (gvr w 703), some (gvI i)] [] := by
            intro fu
            induction fu with
            | zero => intro i Mk h3 hs7 hs1 hsA hsz hgMk hfMk hfu; exfalso; omega
            | succ fu ih =>
              intro i Mk h3 hs7 hs1 hsA hsz hgMk hfMk hfu
              have ih_60 := ih
              refine g_iload_n hc dX13_undo_60 rfl ?_
              refine g_iconst hc dX13_undo_61 ?_
              refine g_icmp_ge (tgt := 90) hc dX13_undo_62 (by decide) (by first | exact hI _ _ | exact hxI2 _ _ | exact hIa _ _ | exact hIb _ _ | exact g_b32 | exact g_and32 | assumption | exact ⟨by omega, by omega⟩) (by first | exact hI _ _ | exact hxI2 _ _ | exact hIa _ _ | exact hIb _ _ | exact g_b32 | exact g_and32 | assumption | exact ⟨by omega, by omega⟩) (fun c3 => ?_) (fun c3 => ?_)
              · skip
                refine g_aldn hc dX13_undo_90 rfl ?_
                refine g_getIe hc lk_X13_292 ca_703 32 rfl (show Mk 703 32 = I 549 5 - 1 from hsA) dX13_undo_91 ?_
                refine g_iret hc hm dX13_undo_94 ?_
                exact ⟨x_end (by rw [if_neg (by omega)]) hfMk hgMk hR, by rw [if_neg (by omega)]; exact q_unt hmM hu (by omega) hsA hs7 (fun t t0 t1 => hs1 t t0 (by omega)) hgMk hfMk, hsz⟩
              · skip
                refine g_aldn hc dX13_undo_65 rfl ?_
                refine g_getRk hc lk_X13_60 ca_703 (rc_703_26 hR) dX13_undo_66 ?_
                refine g_iload_n hc dX13_undo_69 rfl ?_
                refine g_aldn hc dX13_undo_70 rfl ?_
                refine g_getRk hc lk_X13_72 ca_703 (rc_703_31 hR) dX13_undo_71 ?_
                refine g_iconst hc dX13_undo_74 ?_
                refine g_aldn hc dX13_undo_75 rfl ?_
                refine g_getIe hc lk_X13_292 ca_703 32 rfl (show Mk 703 32 = I 549 5 - 1 from hsA) dX13_undo_76 ?_
                refine g_imul hc dX13_undo_79 ?_
                refine g_iload_n hc dX13_undo_80 rfl ?_
                refine g_iadd hc dX13_undo_81 ?_
                refine g_ialde hc ca_718 (by decide) (by omega) (by omega) (show Mk 718 ((4 * (I 549 5 - 1)) + i) = M 718 (4 * (I 549 5 - 1) + i) from hfMk 718 _ (by unfold x_b6 x_a; omega)) dX13_undo_82 ?_
                refine g_iast' hc ca_714 (by decide) (by omega) (by omega)  dX13_undo_83 (fun I5 hI5 => ?_)
                have hgI5 : ∀ (a : Nat) (c : Int), g32 (I5 a c) := by rw [hI5]; exact x_up32 hgMk (hmM.g _ _)
                have hfI5 : ∀ (a : Nat) (c : Int), ¬ x_b6 a c → I5 a c = M a c := fun a c hk => by rw [hI5]; exact (g_up_n (by unfold x_b6 at hk; omega)).trans (hfMk a c hk)
                have hr1 : (∀ t : Int, 0 ≤ t → t < (i + 1) → I5 714 t = M 718 (4 * (I 549 5 - 1) + t)) := fun t t0 t1 => by
                  rw [hI5]
                  by_cases e : t = i
                  · rw [e, g_up_s]
                  · rw [g_up_i e]; exact hs1 t t0 (by omega)
                have hr7 : (∀ t : Int, 0 ≤ t → t < 72 → I5 713 t = M 717 (72 * (I 549 5 - 1) + t)) := fun t t0 t1 => by rw [hI5, g_up_k (by decide)]; exact hs7 t t0 t1
                have hrA : I5 703 32 = I 549 5 - 1 := by rw [hI5, g_up_k (by decide)]; exact hsA
                have hrz : q_01 I5 713 := fun t => by rw [hI5, g_up_k (by decide)]; exact hsz t
                refine g_iinc_1 hc dX13_undo_84 rfl ?_
                refine g_goto (tgt := 60) hc dX13_undo_87 (by decide) ?_
                refine ih_60 _ _ ?_ ?_ ?_ ?_ ?_ ?_ ?_ ?_
                · omega
                · exact hr7
                · exact hr1
                · exact hrA
                · exact hrz
                · exact hgI5
                · exact hfI5
                · omega
          refine lp_60 5 _ _ ?_ ?_ ?_ ?_ ?_ ?_ ?_ (?_)
          · omega
          · exact fun t t0 t1 => hp1 t t0 (by omega)
          · intro t t0 t1; omega
          · exact hpA
          · exact hpz
          · exact hgMk
          · exact hfMk
          · omega
        · skip
          refine g_aldn hc dX13_undo_32 rfl ?_
          refine g_getRk hc lk_X13_56 ca_703 (rc_703_25 hR) dX13_undo_33 ?_
          refine g_iload_n hc dX13_undo_36 rfl ?_
          refine g_aldn hc dX13_undo_37 rfl ?_
          refine g_getRk hc lk_X13_69 ca_703 (rc_703_30 hR) dX13_undo_38 ?_
          refine g_bipush hc dX13_undo_41 (by decide +kernel) ?_
          refine g_aldn hc dX13_undo_43 rfl ?_
          refine g_getIe hc lk_X13_292 ca_703 32 rfl (show Mk 703 32 = I 549 5 - 1 from hpA) dX13_undo_44 ?_
          refine g_imul hc dX13_undo_47 ?_
          refine g_iload_n hc dX13_undo_48 rfl ?_
          refine g_iadd hc dX13_undo_49 ?_
          refine g_zalde hc ca_717 (by decide) (by omega) (by omega) (show Mk 717 ((72 * (I 549 5 - 1)) + i) = M 717 (72 * (I 549 5 - 1) + i) from hfMk 717 _ (by unfold x_b6 x_a; omega)) dX13_undo_50 ?_
          refine g_zast' hc ca_713 (by decide) (by omega) (by omega) (hz7 _) dX13_undo_51 (fun I6 hI6 => ?_)
          have hgI6 : ∀ (a : Nat) (c : Int), g32 (I6 a c) := by rw [hI6]; exact x_up32 hgMk (hmM.g _ _)
          have hfI6 : ∀ (a : Nat) (c : Int), ¬ x_b6 a c → I6 a c = M a c := fun a c hk => by rw [hI6]; exact (g_up_n (by unfold x_b6 at hk; omega)).trans (hfMk a c hk)
          have hq1 : (∀ t : Int, 0 ≤ t → t < (i + 1) → I6 713 t = M 717 (72 * (I 549 5 - 1) + t)) := fun t t0 t1 => by
            rw [hI6]
            by_cases e : t = i
            · rw [e, g_up_s]
            · rw [g_up_i e]; exact hp1 t t0 (by omega)
          have hqA : I6 703 32 = I 549 5 - 1 := by rw [hI6, g_up_k (by decide)]; exact hpA
          have hqz : q_01 I6 713 := by rw [hI6]; exact q_01_up hpz (hz7 _)
          refine g_iinc_1 hc dX13_undo_52 rfl ?_
          refine g_goto (tgt := 26) hc dX13_undo_55 (by decide) ?_
          refine ih_26 _ _ ?_ ?_ ?_ ?_ ?_ ?_ ?_
          · omega
          · exact hq1
          · exact hqA
          · exact hqz
          · exact hgI6
          · exact hfI6
          · omega
    refine lp_26 73 _ _ ?_ ?_ ?_ ?_ ?_ ?_ (?_)
    · omega
    · intro t t0 t1; omega
    · rw [hI4, g_up_s]
    · intro t; rw [hI4, g_up_k (by decide)]; exact hz39 t
    · exact hgI4
    · exact hfI4
    · omega
  · skip
    refine g_iconst hc dX13_undo_12 ?_
    refine g_iret hc hm dX13_undo_13 ?_
    exact ⟨x_end (by rw [if_pos (by omega)]) hfI3 hmI3.g hR, by rw [if_pos (by omega)]; exact ⟨hmI3, q_und_cg (by rw [hI3, g_up_n (by omega)]) (by rw [hI3]; funext j; exact g_up_k (by decide)) (by rw [hI3]; funext j; exact g_up_k (by decide)) hu⟩, hz39⟩
