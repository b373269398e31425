/-! ===== a LIFE is called, though none has been at the TABLE ===== -/
def q_pre (I M : g_I) : Prop := (∀ k j, g32 (M k j)) ∧ (∀ k j, g32 (I k j)) ∧ ((0 ≤ I 0 11 ∧ I 0 11 ≤ 6) ∧ (∀ τ : Int, 0 ≤ τ → τ < I 0 11 → g_tok I (517 + 3 * τ.toNat)) ∧ (0 ≤ I 550 0 ∧ I 550 0 ≤ 3) ∧ (-1 ≤ I 550 1 ∧ I 550 1 < I 0 11) ∧ (-1 ≤ I 550 2 ∧ I 550 2 < I 0 11) ∧ (0 ≤ I 550 3 ∧ I 550 3 ≤ 3)) ∧ (0 ≤ I 0 10 ∧ I 0 10 ≤ 3) ∧ (M 703 23 = I 0 10 ∧ M 703 7 = I 0 11) ∧ (∀ jj : Int, 0 ≤ jj → jj < I 0 10 → q_lf I (4 + 128 * jj.toNat) M jj) ∧ (∀ k : Int, 0 ≤ k → k < 4 → M 714 k = I 550 k) ∧ ∀ t : Int, 0 ≤ t → t < I 0 11 → q_ta I M t
theorem q_rel.pre {I M : g_I} {lb : Nat} (h : q_rel I lb M) : q_pre I M := by
  obtain ⟨a1, a2, a3, a4, a5, a6, a7, a8, a9, a10, a11⟩ := h
  obtain ⟨-, d2, d3, d4, d5, d6, d7, -⟩ := a3
  exact ⟨a1, a2, ⟨d2, d3, d4, d5, d6, d7⟩, a5, ⟨a6.2.1, a6.2.2⟩, a7, a8, a10⟩
theorem q_pre.lv {I M : g_I} (h : q_pre I M) : 0 ≤ I 0 10 ∧ I 0 10 ≤ 3 := h.2.2.2.1
theorem q_pre.liv {I M : g_I} (h : q_pre I M) : M 703 23 = I 0 10 := h.2.2.2.2.1.1
theorem q_pre.lf {I M : g_I} (h : q_pre I M) {jj : Int} (h0 : 0 ≤ jj ∧ jj < I 0 10) : q_lf I (4 + 128 * jj.toNat) M jj := h.2.2.2.2.2.1 jj h0.1 h0.2
theorem q_call2 {I I' M M' : g_I} {l : Int} (h : q_pre I M) (hl : 0 ≤ l ∧ l < I 0 10) (hc : x_cal I l I') (h24 : M' 703 24 = l) (h38 : M' 703 38 = 0) (h3 : ∀ t : Int, 0 ≤ t → t < 72 → M' 713 t = 1) (hgm : ∀ k j, g32 (M' k j)) (hf : ∀ (k : Nat) (j : Int), ¬ x_b8 k j → M' k j = M k j) : q_rel I' (4 + 128 * l.toNat) M' := by
  obtain ⟨a1, a2, ⟨d2, d3, d4, d5, d6, d7⟩, a5, a6, a7, a8, a10⟩ := h
  obtain ⟨c1, c2, c3, ⟨c4, c5⟩, c6, c7, c8, c9, c10⟩ := hc
  have e : ∀ k : Nat, (705 ≤ k ∧ k ≤ 712) ∨ k = 714 → M' k = M k := fun k hn => funext fun j => hf k j (by unfold x_b8; omega)
  have er : ∀ jj : Int, 0 ≤ jj → jj < I 0 10 → ∀ o : Nat, o < 128 → I' (4 + 128 * jj.toNat + o) = I (4 + 128 * jj.toNat + o) := fun jj j0 j1 o ho => c10 _ (by omega)
  have hq := a7 l hl.1 hl.2
  have hL := hq.1
  have el0 : I' (4 + 128 * l.toNat) = I (4 + 128 * l.toNat) := er l hl.1 hl.2 0 (by omega)
  refine ⟨hgm, c1, ⟨q_lok_row (er l hl.1 hl.2) hL, by rw [c3 11 (by decide)]; exact d2, fun t t0 t1 => ?_, by rw [c6 0 (by decide) (by decide)]; exact d4, by rw [c6 1 (by decide) (by decide), c3 11 (by decide)]; exact d5, by rw [c6 2 (by decide) (by decide), c3 11 (by decide)]; exact d6, by rw [c6 3 (by decide) (by decide)]; exact d7, fun f f0 f1 => ?_⟩, Or.inr ⟨by omega, by rw [c2, c3 10 (by decide)]; exact hl.2, by rw [c2]⟩, by rw [c3 10 (by decide)]; exact a5, ⟨by rw [h24, c2], by rw [c3 10 (by decide), hf 703 23 (by decide)]; exact a6.1, by rw [c3 11 (by decide), hf 703 7 (by decide)]; exact a6.2⟩, fun jj j0 j1 => ?_, fun k k0 k1 => by rw [e 714 (by decide), c6 k k0 k1]; exact a8 k k0 k1, fun f f0 f1 => ?_, fun t t0 t1 => ?_, ⟨⟨by omega, fun c k0 k1 => by omega⟩, by rw [h38, c8], fun c k0 k1 => by omega⟩⟩
  · rw [c3 11 (by decide)] at t1
    have := d3 t t0 t1
    unfold g_tok at this ⊢
    rw [c10 (517 + 3 * t.toNat) (by omega), c10 (517 + 3 * t.toNat + 1) (by omega)]
    exact this
  · rw [el0] at f1
    rw [c7 f f0 f1]
    exact (x_full (hL.2.2.2 f f0 f1).1).1
  · rw [c3 10 (by decide)] at j1
    exact q_lf_cg (fun k _ _ => e k (by omega)) (q_lf_row (er jj j0 j1) (a7 jj j0 j1))
  · rw [el0] at f1
    have hk := (hL.2.2.2 f f0 f1).1
    have hn := hL.2.1
    rw [er l hl.1 hl.2 43 (by omega), c7 f f0 f1]
    refine ⟨by omega, fun r r0 r1 => ?_⟩
    rw [h3 _ (by omega) (by omega), g_b1 ((x_full hk).2 r r0 r1)]
  · rw [c3 11 (by decide)] at t1
    have := a10 t t0 t1
    have e5 : q_by M' 705 (240 * t) = q_by M 705 (240 * t) := funext fun j => by
      show g_and (M' 705 _) 255 = _
      rw [e 705 (by decide)]
    unfold q_ta at this ⊢
    rw [e5, c10 (517 + 3 * t.toNat) (by omega), c10 (518 + 3 * t.toNat) (by omega), e 705 (by decide), e 706 (by decide)]
    exact this
set_option maxHeartbeats 4000000 in
set_option maxRecDepth 100000 in
/-- X13_call -/
theorem c2_X13_call (w : g_W) {I : g_I} {J : g_J} {R : g_R} {lb tx : Nat} (hR : g_rf w R lb tx) {M : g_I} (hg : ∀ k j, g32 (M k j)) (hmM : q_pre I M) {l : Int} (g1 : g32 l) (hz3 : q_01 M 713) : g_Met w g_n M J R yX13_call cX13_call 3 (some .int) 1 0 0 [(gvr w 703), (gvI l)] (fun rr nn II JJ RR => x_pl (some (gvI (if (0 ≤ l ∧ l < I 0 10) then I (4 + 128 * l.toNat) 0 else -1))) x_b8 M J R rr nn II JJ RR ∧ (¬ (0 ≤ l ∧ l < I 0 10) → ∀ (k : Nat) (j : Int), ¬ x_n k j → II k j = M k j) ∧ ((0 ≤ l ∧ l < I 0 10) → (∀ I2, x_cal I l I2 → q_rel I2 (4 + 128 * l.toNat) II) ∧ II 703 24 = l ∧ II 703 32 = 0 ∧ II 703 41 = 0 ∧ II 703 45 = 0 ∧ q_01 II 713)) := by
  refine g_intro (own := RX13) [some (gvr w 703), some (gvI l), none] (by decide +kernel) rfl (by decide) (Nat.le_of_ble_eq_true rfl) rfl (fun i v hv => g_args 1 i v hv rfl) (fun x hc hm => ?_)
  have hfM : ∀ (k : Nat) (j : Int), ¬ x_b8 k j → M k j = M k j := fun _ _ _ => rfl
  have hgM := hg
  have hI := hg
  have hLv := hmM.lv
  refine g_aldn hc dX13_call_0 rfl ?_
  refine g_iconst hc dX13_call_1 ?_
  refine g_putI' hc lk_X13_102 ca_703 0 rfl dX13_call_2 (fun I3 hI3 => ?_)
  have hgI3 : ∀ (a : Nat) (c : Int), g32 (I3 a c) := by rw [hI3]; exact x_up32 hgM (show g32 _ from ⟨by decide, by decide⟩)
  have hfI3 : ∀ (a : Nat) (c : Int), ¬ x_b8 a c → I3 a c = M a c := fun a c hk => by rw [hI3]; exact (g_up_n (by unfold x_b8 at hk; omega)).trans (hfM a c hk)
  have hzI3 : q_01 I3 713 := fun t => by rw [hI3, g_up_k (by decide)]; exact hz3 t
  refine g_iload_n hc dX13_call_5 rfl ?_
  refine g_i2l hc dX13_call_6 (by first | exact hI _ _ | exact hxI2 _ _ | exact hIa _ _ | exact hIb _ _ | exact g_b32 | exact g_and32 | assumption | exact ⟨by omega, by omega⟩) ?_
  refine g_lconst hc dX13_call_7 0 (by decide +kernel) ?_
  refine g_aldn hc dX13_call_8 rfl ?_
  refine g_getIe hc lk_X13_281 ca_703 23 rfl (show I3 703 23 = I 0 10 from (by rw [hI3, g_up_i (by decide)]; exact hmM.liv)) dX13_call_9 ?_
  refine g_iconst hc dX13_call_12 ?_
  refine g_isub hc dX13_call_13 ?_
  refine g_i2l hc dX13_call_14 (by first | exact hI _ _ | exact hxI2 _ _ | exact hIa _ _ | exact hIb _ _ | exact g_b32 | exact g_and32 | assumption | exact ⟨by omega, by omega⟩) ?_
  refine g_S3r hc (c_X13_isIn w (by first | exact hI _ _ | exact hmM.g _ _ | exact g_b32 | exact g_and32 | exact g_or32 | exact g_shl32 | assumption | exact ⟨by omega, by omega⟩) (by first | exact hI _ _ | exact hmM.g _ _ | exact g_b32 | exact g_and32 | exact g_or32 | exact g_shl32 | assumption | exact ⟨by omega, by omega⟩) (by first | exact hI _ _ | exact hmM.g _ _ | exact g_b32 | exact g_and32 | exact g_or32 | exact g_shl32 | assumption | exact ⟨by omega, by omega⟩)) my_X13_isIn ms_X13_isIn lm_X13_231 rfl (by decide) (Nat.le_of_ble_eq_true rfl) hm dX13_call_15 ?_
  refine g_ifb_ne (tgt := 23) hc dX13_call_18 (by decide)  (fun c1 => ?_) (fun c1 => ?_)
  · skip
    have hl : (0 ≤ l ∧ l < I 0 10) := by omega
    refine g_aldn hc dX13_call_23 rfl ?_
    refine g_iload_n hc dX13_call_24 rfl ?_
    refine g_putI' hc lk_X13_52 ca_703 24 rfl dX13_call_25 (fun I4 hI4 => ?_)
    have hgI4 : ∀ (a : Nat) (c : Int), g32 (I4 a c) := by rw [hI4]; exact x_up32 hgI3 (g1)
    have hfI4 : ∀ (a : Nat) (c : Int), ¬ x_b8 a c → I4 a c = M a c := fun a c hk => by rw [hI4]; exact (g_up_n (by unfold x_b8 at hk; omega)).trans (hfI3 a c hk)
    have hzI4 : q_01 I4 713 := fun t => by rw [hI4, g_up_k (by decide)]; exact hzI3 t
    have hiI4 : I4 703 24 = l := by rw [hI4, g_up_s]
    refine g_iconst hc dX13_call_28 ?_
    refine g_istore_2 hc dX13_call_29 rfl ?_
    have lp_30 : ∀ (fu : Nat) (i : Int) (Mk : g_I), 0 ≤ i ∧ i ≤ 72 → (∀ t : Int, 0 ≤ t → t < i → Mk 713 t = 1) → q_01 Mk 713 → Mk 703 24 = l → (∀ (k : Nat) (j : Int), g32 (Mk k j)) → (∀ (k : Nat) (j : Int), ¬ x_b8 k j → Mk k j = M k j) → 72 - i < (fu : Int) → G w x (fun rr nn II JJ RR => x_pl (some (gvI (if (0 ≤ l ∧ l < I 0 10) then I (4 + 128 * l.toNat) 0 else -1))) x_b8 M J R rr nn II JJ RR ∧ (¬ (0 ≤ l ∧ l < I 0 10) → ∀ (k : Nat) (j : Int), ¬ x_n k j → II k j = M k j) ∧ ((0 ≤ l ∧ l < I 0 10) → (∀ I2, x_cal I l I2 → q_rel I2 (4 + 128 * l.toNat) II) ∧ II 703 24 = l ∧ II 703 32 = 0 ∧ II 703 41 = 0 ∧ II 703 45 = 0 ∧ q_01 II 713)) 0 0 g_n Mk J R 30 [some (gvr w 703), some (gvI l), some (gvI i)] [] := by
      intro fu
      induction fu with
      | zero => intro i Mk h3 hp1 hzMk hiMk hgMk hfMk hfu; exfalso; omega
      | succ fu ih =>
        intro i Mk h3 hp1 hzMk hiMk hgMk hfMk hfu
        have ih_30 := ih
        refine g_iload_n hc dX13_call_30 rfl ?_
        refine g_bipush hc dX13_call_31 (by decide +kernel) ?_
        refine g_icmp_ge (tgt := 49) hc dX13_call_33 (by decide) (by first | exact hI _ _ | exact hxI2 _ _ | exact hIa _ _ | exact hIb _ _ | exact g_b32 | exact g_and32 | assumption | exact ⟨by omega, by omega⟩) (by first | exact hI _ _ | exact hxI2 _ _ | exact hIa _ _ | exact hIb _ _ | exact g_b32 | exact g_and32 | assumption | exact ⟨by omega, by omega⟩) (fun c2 => ?_) (fun c2 => ?_)
        · skip
          refine g_aldn hc dX13_call_49 rfl ?_
          refine g_iconst hc dX13_call_50 ?_
          refine g_putI' hc lk_X13_292 ca_703 32 rfl dX13_call_51 (fun I5 hI5 => ?_)
          have hgI5 : ∀ (a : Nat) (c : Int), g32 (I5 a c) := by rw [hI5]; exact x_up32 hgMk (show g32 _ from ⟨by decide, by decide⟩)
          have hfI5 : ∀ (a : Nat) (c : Int), ¬ x_b8 a c → I5 a c = M a c := fun a c hk => by rw [hI5]; exact (g_up_n (by unfold x_b8 at hk; omega)).trans (hfMk a c hk)
          have hhI5 : (∀ t : Int, 0 ≤ t → t < 72 → I5 713 t = 1) := fun t t0 t1 => by rw [hI5, g_up_k (by decide)]; exact hp1 t t0 (by omega)
          have hzI5 : q_01 I5 713 := fun t => by rw [hI5, g_up_k (by decide)]; exact hzMk t
          have hiI5 : I5 703 24 = l := by rw [hI5, g_up_i (by decide)]; exact hiMk
          have hw32 : I5 703 32 = 0 := by rw [hI5, g_up_s]
          refine g_aldn hc dX13_call_54 rfl ?_
          refine g_iconst hc dX13_call_55 ?_
          refine g_putI' hc lk_X13_295 ca_703 38 rfl dX13_call_56 (fun I6 hI6 => ?_)
          have hgI6 : ∀ (a : Nat) (c : Int), g32 (I6 a c) := by rw [hI6]; exact x_up32 hgI5 (show g32 _ from ⟨by decide, by decide⟩)
          have hfI6 : ∀ (a : Nat) (c : Int), ¬ x_b8 a c → I6 a c = M a c := fun a c hk => by rw [hI6]; exact (g_up_n (by unfold x_b8 at hk; omega)).trans (hfI5 a c hk)
          have hhI6 : (∀ t : Int, 0 ≤ t → t < 72 → I6 713 t = 1) := fun t t0 t1 => by rw [hI6, g_up_k (by decide)]; exact hhI5 t t0 t1
          have hzI6 : q_01 I6 713 := fun t => by rw [hI6, g_up_k (by decide)]; exact hzI5 t
          have hiI6 : I6 703 24 = l := by rw [hI6, g_up_i (by decide)]; exact hiI5
          have hw38 : I6 703 38 = 0 := by rw [hI6, g_up_s]
          have hw32 : I6 703 32 = 0 := by rw [hI6, g_up_i (by decide)]; exact hw32
          refine g_aldn hc dX13_call_59 rfl ?_
          refine g_iconst hc dX13_call_60 ?_
          refine g_putI' hc lk_X13_298 ca_703 41 rfl dX13_call_61 (fun I7 hI7 => ?_)
          have hgI7 : ∀ (a : Nat) (c : Int), g32 (I7 a c) := by rw [hI7]; exact x_up32 hgI6 (show g32 _ from ⟨by decide, by decide⟩)
          have hfI7 : ∀ (a : Nat) (c : Int), ¬ x_b8 a c → I7 a c = M a c := fun a c hk => by rw [hI7]; exact (g_up_n (by unfold x_b8 at hk; omega)).trans (hfI6 a c hk)
          have hhI7 : (∀ t : Int, 0 ≤ t → t < 72 → I7 713 t = 1) := fun t t0 t1 => by rw [hI7, g_up_k (by decide)]; exact hhI6 t t0 t1
          have hzI7 : q_01 I7 713 := fun t => by rw [hI7, g_up_k (by decide)]; exact hzI6 t
          have hiI7 : I7 703 24 = l := by rw [hI7, g_up_i (by decide)]; exact hiI6
          have hw41 : I7 703 41 = 0 := by rw [hI7, g_up_s]
          have hw32 : I7 703 32 = 0 := by rw [hI7, g_up_i (by decide)]; exact hw32
          have hw38 : I7 703 38 = 0 := by rw [hI7, g_up_i (by decide)]; exact hw38
          refine g_aldn hc dX13_call_64 rfl ?_
          refine g_iconst hc dX13_call_65 ?_
          refine g_putZ' hc lk_X13_301 ca_703 (by first | exact g_b01 | omega) 45 rfl dX13_call_66 (fun I8 hI8 => ?_)
          have hgI8 : ∀ (a : Nat) (c : Int), g32 (I8 a c) := by rw [hI8]; exact x_up32 hgI7 (show g32 _ from ⟨by decide, by decide⟩)
          have hfI8 : ∀ (a : Nat) (c : Int), ¬ x_b8 a c → I8 a c = M a c := fun a c hk => by rw [hI8]; exact (g_up_n (by unfold x_b8 at hk; omega)).trans (hfI7 a c hk)
          have hhI8 : (∀ t : Int, 0 ≤ t → t < 72 → I8 713 t = 1) := fun t t0 t1 => by rw [hI8, g_up_k (by decide)]; exact hhI7 t t0 t1
          have hzI8 : q_01 I8 713 := fun t => by rw [hI8, g_up_k (by decide)]; exact hzI7 t
          have hiI8 : I8 703 24 = l := by rw [hI8, g_up_i (by decide)]; exact hiI7
          have hw45 : I8 703 45 = 0 := by rw [hI8, g_up_s]
          have hw32 : I8 703 32 = 0 := by rw [hI8, g_up_i (by decide)]; exact hw32
          have hw38 : I8 703 38 = 0 := by rw [hI8, g_up_i (by decide)]; exact hw38
          have hw41 : I8 703 41 = 0 := by rw [hI8, g_up_i (by decide)]; exact hw41
          refine g_aldn hc dX13_call_69 rfl ?_
          refine g_getRk hc lk_X13_46 ca_703 (rc_703_21 hR) dX13_call_70 ?_
          refine g_iload_n hc dX13_call_73 rfl ?_
          refine g_ialde hc ca_711 (by decide) (by omega) (by omega) (show I8 711 l = I (4 + 128 * l.toNat) 0 from by rw [hfI8 711 _ (by unfold x_b8; omega)]; exact (hmM.lf hl).2.2.1) dX13_call_74 ?_
          refine g_iret hc hm dX13_call_75 ?_
          exact ⟨⟨by rw [if_pos hl], rfl, rfl, rfl, hfI8, hgI8⟩, fun z => absurd hl z, fun _ => ⟨fun I2 hc2 => q_call2 hmM hl hc2 hiI8 hw38 hhI8 hgI8 hfI8, hiI8, hw32, hw41, hw45, hzI8⟩⟩
        · skip
          refine g_aldn hc dX13_call_36 rfl ?_
          refine g_getRk hc lk_X13_56 ca_703 (rc_703_25 hR) dX13_call_37 ?_
          refine g_iload_n hc dX13_call_40 rfl ?_
          refine g_iconst hc dX13_call_41 ?_
          refine g_zast' hc ca_713 (by decide) (by omega) (by omega) (by first | exact g_b01 | omega) dX13_call_42 (fun I9 hI9 => ?_)
          have hgI9 : ∀ (a : Nat) (c : Int), g32 (I9 a c) := by rw [hI9]; exact x_up32 hgMk (show g32 _ from ⟨by decide, by decide⟩)
          have hfI9 : ∀ (a : Nat) (c : Int), ¬ x_b8 a c → I9 a c = M a c := fun a c hk => by rw [hI9]; exact (g_up_n (by unfold x_b8 at hk; omega)).trans (hfMk a c hk)
          have hp2 : (∀ t : Int, 0 ≤ t → t < (i + 1) → I9 713 t = 1) := fun t t0 t1 => by
            rw [hI9]
            by_cases e : t = i
            · rw [e, g_up_s]
            · rw [g_up_i e]; exact hp1 t t0 (by omega)
          have hz2 : q_01 I9 713 := by rw [hI9]; exact q_01_up hzMk (Or.inr rfl)
          have hi2 : I9 703 24 = l := by rw [hI9, g_up_k (by decide)]; exact hiMk
          refine g_iinc_2 hc dX13_call_43 rfl ?_
          refine g_goto (tgt := 30) hc dX13_call_46 (by decide) ?_
          refine ih_30 _ _ ?_ ?_ ?_ ?_ ?_ ?_ ?_
          · omega
          · exact hp2
          · exact hz2
          · exact hi2
          · exact hgI9
          · exact hfI9
          · omega
    refine lp_30 73 _ _ ?_ ?_ ?_ ?_ ?_ ?_ (?_)
    · omega
    · intro t t0 t1; omega
    · exact hzI4
    · exact hiI4
    · exact hgI4
    · exact hfI4
    · omega
  · skip
    refine g_iconst hc dX13_call_21 ?_
    refine g_iret hc hm dX13_call_22 ?_
    exact ⟨⟨by rw [if_neg (by omega)], rfl, rfl, rfl, hfI3, hgI3⟩, fun _ k j hk => by rw [hI3, g_up_n (by unfold x_n at hk; omega)], fun z => by omega⟩
/-! ===== FAULTS ===== -/
def x_flt (I : g_I) (v : Int) : Int := if v = 0 then m_life (4 + 128 * (I 0 10).toNat) I 1 3 else if v = 1 then (t_read (I 2) (I 1 1)).2.1 else -2
abbrev x_fl (k : Nat) (j : Int) : Prop := z_sc k j ∨ (k = 703 ∧ (j = 0 ∨ (8 ≤ j ∧ j ≤ 14) ∨ j = 17))
def x_fp (w : g_W) (I M : g_I) (J : g_J) (lb : Nat) (v : Int) : g_P := fun r n' I' J' R' => r = some (gvI (x_flt I v)) ∧ n' = g_n ∧ J' = J ∧ (∃ t', g_rf w R' lb t') ∧ (∀ (k : Nat) (j : Int), ¬ x_fl k j → I' k j = M k j) ∧ (∀ k j, g32 (I' k j)) ∧ (v = 0 → x_flt I v = -1 → q_lf (m_life (4 + 128 * (I 0 10).toNat) I) (4 + 128 * (I 0 10).toNat) I' 3)
theorem q_tap_cg {I M M' : g_I} (h : q_tap I M) (h6 : M' 703 6 = M 703 6) (h4 : M' 704 = M 704) : q_tap I M' := by
  obtain ⟨a, b, c, d⟩ := h
  exact ⟨h6.trans a, b, by rw [h4]; exact c, by rw [h4]; exact d⟩
theorem q_tap_by {I M : g_I} (h : q_tap I M) : q_by M 704 0 = I 2 := by
  funext j
  show g_and (M 704 (0 + j)) 255 = I 2 j
  rw [Int.zero_add]
  exact (h.2.2.1 j).symm
set_option maxHeartbeats 4000000 in
set_option maxRecDepth 100000 in
/-- X13_fault -/
theorem c_X13_fault (w : g_W) {I : g_I} {J : g_J} {R : g_R} {lb tx : Nat} (hR : g_rf w R lb tx) {M : g_I} (hg : ∀ k j, g32 (M k j)) (hx : x_lk I) (hT : q_tap I M) (hl3 : 0 ≤ I 0 10 ∧ I 0 10 ≤ 3) {v : Int} (g1 : g32 v) : g_Met w g_n M J R yX13_fault cX13_fault 2 (some .int) 33 0 0 [(gvr w 703), (gvI v)] (x_fp w I M J lb v) := by
  refine g_intro (own := RX13) [some (gvr w 703), some (gvI v)] (by decide +kernel) rfl (by decide) (Nat.le_of_ble_eq_true rfl) rfl (fun i v hv => g_args 0 i v hv rfl) (fun x hc hm => ?_)
  have hfM : ∀ (k : Nat) (j : Int), ¬ x_fl k j → M k j = M k j := fun _ _ _ => rfl
  have hgM := hg
  have hI := hg
  refine g_aldn hc dX13_fault_0 rfl ?_
  refine g_iconst hc dX13_fault_1 ?_
  refine g_putI' hc lk_X13_102 ca_703 0 rfl dX13_fault_2 (fun I3 hI3 => ?_)
  have hgI3 : ∀ (a : Nat) (c : Int), g32 (I3 a c) := by rw [hI3]; exact x_up32 hgM (show g32 _ from ⟨by decide, by decide⟩)
  have hfI3 : ∀ (a : Nat) (c : Int), ¬ x_fl a c → I3 a c = M a c := fun a c hk => by rw [hI3]; exact (g_up_n (by unfold x_fl at hk; omega)).trans (hfM a c hk)
  have hT2 : q_tap I I3 := q_tap_cg hT (hfI3 703 6 (by unfold x_fl z_sc; omega)) (funext fun j => hfI3 704 j (by unfold x_fl z_sc; omega))
  refine g_iload_n hc dX13_fault_5 rfl ?_
  refine g_i2l hc dX13_fault_6 (by first | exact hI _ _ | exact hxI2 _ _ | exact hIa _ _ | exact hIb _ _ | exact g_b32 | exact g_and32 | assumption | exact ⟨by omega, by omega⟩) ?_
  refine g_lconst hc dX13_fault_7 0 (by decide +kernel) ?_
  refine g_lconst hc dX13_fault_8 1 (by decide +kernel) ?_
  refine g_S3r hc (c_X13_isIn w (by first | exact hI _ _ | exact hmM.g _ _ | exact g_b32 | exact g_and32 | exact g_or32 | exact g_shl32 | assumption | exact ⟨by omega, by omega⟩) (by first | exact hI _ _ | exact hmM.g _ _ | exact g_b32 | exact g_and32 | exact g_or32 | exact g_shl32 | assumption | exact ⟨by omega, by omega⟩) (by first | exact hI _ _ | exact hmM.g _ _ | exact g_b32 | exact g_and32 | exact g_or32 | exact g_shl32 | assumption | exact ⟨by omega, by omega⟩)) my_X13_isIn ms_X13_isIn lm_X13_231 rfl (by decide) (Nat.le_of_ble_eq_true rfl) hm dX13_fault_9 ?_
  refine g_ifb_ne (tgt := 18) hc dX13_fault_12 (by decide)  (fun c1 => ?_) (fun c1 => ?_)
  · skip
    refine g_iload_n hc dX13_fault_18 rfl ?_
    refine g_if_ne (tgt := 29) hc dX13_fault_19 (by decide) (by first | exact hI _ _ | exact hxI2 _ _ | exact hIa _ _ | exact hIb _ _ | exact g_b32 | exact g_and32 | assumption | exact ⟨by omega, by omega⟩) (fun c2 => ?_) (fun c2 => ?_)
    · skip
      have hv0 : ¬ v = 0 := c2
      refine g_aldn hc dX13_fault_29 rfl ?_
      refine g_aldn hc dX13_fault_30 rfl ?_
      refine g_getRk hc lk_X13_9 ca_703 (rc_703_1 hR) dX13_fault_31 ?_
      refine g_iconst hc dX13_fault_34 ?_
      refine g_aldn hc dX13_fault_35 rfl ?_
      refine g_getIe hc lk_X13_115 ca_703 6 rfl (show I3 703 6 = I 1 1 from hT2.1) dX13_fault_36 ?_
      obtain ⟨Lf, hLf⟩ := @y_Lf I3
      have hxn := hx.2.1
      refine g_V3 hc (c_X13_goThrough w hR (tx := 704) (ln := 240) (o := 0) (n := I 1 1) (Lf := Lf) ⟨⟨by decide, by omega, by decide⟩, hxn, hT2.2.2.2, hgI3, hLf, ca_704, Or.inl rfl⟩) my_X13_goThrough mv_X13_goThrough ca_703 rfl rfl lm_X13_278 rfl (by decide) (Nat.le_of_ble_eq_true rfl) hm dX13_fault_39 (fun rT nT IT JT RT hpT => ?_)
      obtain ⟨rfl, rfl, rfl, hRL, hfl, hgIT, hql, -⟩ := hpT
      rw [q_tap_by hT2] at hql
      have hfIT : ∀ (a : Nat) (c : Int), ¬ x_fl a c → IT a c = M a c := fun a c hk => (hfl a c (fun z => hk (by unfold x_fl; omega))).trans (hfI3 a c hk)
      have hV : IT 703 11 = x_flt I v := by rw [hql, x_flt, if_neg hv0, if_pos (by omega)]
      have hend : v = 0 → x_flt I v = -1 → q_lf (m_life (4 + 128 * (I 0 10).toNat) I) (4 + 128 * (I 0 10).toNat) IT 3 := fun z => absurd z hv0
      clear hR
      have hR := hRL
      refine g_aldn hc dX13_fault_42 rfl ?_
      refine g_getIe hc lk_X13_134 ca_703 11 rfl (show IT 703 11 = x_flt I v from by rw [hV]) dX13_fault_43 ?_
      refine g_iret hc hm dX13_fault_46 ?_
      exact ⟨rfl, rfl, rfl, ⟨704, hR⟩, hfIT, hgIT, hend⟩
    · skip
      have hv0 : v = 0 := c2
      refine g_aldn hc dX13_fault_22 rfl ?_
      refine g_V0 hc (c_X13_readLife w (b := (4 + 128 * (I 0 10).toNat)) hR hgI3 (gl_of (i := I 0 10) (by omega) (by omega)) hx hT2) my_X13_readLife mv_X13_readLife ca_703 rfl rfl lm_X13_275 rfl (by decide) (Nat.le_of_ble_eq_true rfl) hm dX13_fault_23 (fun rL nL IL JL RL hpL => ?_)
      obtain ⟨rfl, rfl, rfl, hRL, hfl, hgIL, hql, hll⟩ := hpL
      have hfIL : ∀ (a : Nat) (c : Int), ¬ x_fl a c → IL a c = M a c := fun a c hk => (hfl a c (fun z => hk (by unfold x_fl; omega))).trans (hfI3 a c hk)
      have hV : IL 703 11 = x_flt I v := by rw [hql, x_flt, if_pos hv0]
      have hend : v = 0 → x_flt I v = -1 → q_lf (m_life (4 + 128 * (I 0 10).toNat) I) (4 + 128 * (I 0 10).toNat) IL 3 := fun _ z => hll (by rw [x_flt, if_pos hv0] at z; exact z)
      clear hR
      have hR := hRL
      refine g_goto (tgt := 42) hc dX13_fault_26 (by decide) ?_
      refine g_aldn hc dX13_fault_42 rfl ?_
      refine g_getIe hc lk_X13_134 ca_703 11 rfl (show IL 703 11 = x_flt I v from by rw [hV]) dX13_fault_43 ?_
      refine g_iret hc hm dX13_fault_46 ?_
      exact ⟨rfl, rfl, rfl, ⟨704, hR⟩, hfIL, hgIL, hend⟩
  · skip
    refine g_bipush hc dX13_fault_15 (by decide +kernel) ?_
    refine g_iret hc hm dX13_fault_17 ?_
    exact ⟨by rw [x_flt, if_neg (by omega), if_neg (by omega)], rfl, rfl, ⟨tx, hR⟩, hfI3, hgI3, fun z => by omega⟩
