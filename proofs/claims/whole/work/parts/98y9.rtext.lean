theorem t_rdn_ok {B : Int → Int} {n : Int} (hn : n ≤ 240) : ∀ (k : Nat) (s : g_S), t_ok n s → t_ok n (t_rdn B n k s)
  | 0, _, h => h
  | k + 1, s, h => by
    have h1 := t_cls_ok (B := B) hn h
    rw [t_rdn]
    split
    · exact t_rdn_ok hn k _ (t_tk_ok h1 (by decide))
    · exact t_tk_ok h1 (by decide)
theorem t_read_ok {B : Int → Int} {n : Int} (hn : 0 ≤ n ∧ n ≤ 240) : t_ok n (t_read B n) := t_fin_ok (t_rdn_ok hn.2 240 _ ⟨⟨by decide, hn.1⟩, by decide, by decide, fun z hz => by cases hz⟩) hn.2
set_option maxHeartbeats 4000000 in
set_option maxRecDepth 100000 in
/-- X13_text -/
theorem c_X13_text (w : g_W) {I : g_I} {J : g_J} {R : g_R} {lb tx : Nat} (hR : g_rf w R lb tx) {M : g_I} (hg : ∀ k j, g32 (M k j)) (hx : x_lk I) (hT : q_tap I M) (hp : q_pre I M) (hz3 : q_01 M 713) (h5 : ∀ j : Int, -128 ≤ M 705 j ∧ M 705 j ≤ 127) {v : Int} (g1 : g32 v) : g_Met w g_n M J R yX13_text cX13_text 4 (some .int) 34 0 0 [(gvr w 703), (gvI v)] (fun rr nn II JJ RR => rr = some (gvI (if (v = 0 ∧ I 0 10 < 3 ∧ x_flt I v = -1) then I 0 10 else if (v = 1 ∧ I 0 11 < 6 ∧ x_flt I v = -1) then I 0 11 else -1)) ∧ nn = g_n ∧ JJ = J ∧ (∃ t2, g_rf w RR lb t2) ∧ (∀ k j, g32 (II k j)) ∧ (¬ (v = 0 ∧ I 0 10 < 3 ∧ x_flt I v = -1) → ¬ (v = 1 ∧ I 0 11 < 6 ∧ x_flt I v = -1) → ∀ (k : Nat) (j : Int), ¬ x_fl k j → II k j = M k j) ∧ ((v = 0 ∧ I 0 10 < 3 ∧ x_flt I v = -1) → (∀ I2, x_cal (x_tld I) (I 0 10) I2 → q_rel I2 (4 + 128 * (I 0 10).toNat) II) ∧ (II 703 24 = I 0 10 ∧ II 703 32 = 0 ∧ II 703 41 = 0 ∧ II 703 45 = 0) ∧ q_01 II 713 ∧ II 703 6 = 0 ∧ ∀ (k : Nat) (j : Int), ¬ ((x_tl (I 0 10)) k j ∨ x_b8 k j) → II k j = M k j) ∧ ((v = 1 ∧ I 0 11 < 6 ∧ x_flt I v = -1) → (II 703 6 = 0 ∧ II 703 7 = I 0 11 + 1 ∧ II 706 (I 0 11) = I 1 1) ∧ (∀ c : Int, 0 ≤ c → c < I 1 1 → II 705 (240 * I 0 11 + c) = M 704 c) ∧ (∀ (k : Nat) (j : Int), ¬ (x_tq (I 0 11)) k j → II k j = M k j) ∧ ∀ c : Int, -128 ≤ II 705 c ∧ II 705 c ≤ 127)) := by
  refine g_intro (own := RX13) [some (gvr w 703), some (gvI v), none, none] (by decide +kernel) rfl (by decide) (Nat.le_of_ble_eq_true rfl) rfl (fun i v hv => g_args 2 i v hv rfl) (fun x hc hm => ?_)
  have hfM : ∀ (k : Nat) (j : Int), ¬ (x_tl (I 0 10)) k j → M k j = M k j := fun _ _ _ => rfl
  have hgM := hg
  have hI := hg
  have hqM : ∀ (k : Nat) (j : Int), ¬ (x_tq (I 0 11)) k j → M k j = M k j := fun _ _ _ => rfl
  have hLv := hp.lv
  have hTs := hp.2.2.1.1
  have hxn := hx.2.1
  have hfltr : g32 (t_read (I 2) (I 1 1)).2.1 := by
    have := (t_read_ok (B := I 2) (n := I 1 1) hxn).2.1
    exact ⟨by omega, by omega⟩
  have hfv : g32 (x_flt I v) := by
    unfold x_flt
    split
    · exact (z_life_K (gl_of (i := I 0 10) (by omega) (by omega)) hx).2.1.1 _ _
    · split
      · exact hfltr
      · exact ⟨by decide, by decide⟩
  refine g_aldn hc dX13_text_0 rfl ?_
  refine g_iconst hc dX13_text_1 ?_
  refine g_putI' hc lk_X13_102 ca_703 0 rfl dX13_text_2 (fun I3 hI3 => ?_)
  have hgI3 : ∀ (a : Nat) (c : Int), g32 (I3 a c) := by rw [hI3]; exact x_up32 hgM (show g32 _ from ⟨by decide, by decide⟩)
  have hfI3 : ∀ (a : Nat) (c : Int), ¬ (x_tl (I 0 10)) a c → I3 a c = M a c := fun a c hk => by rw [hI3]; exact (g_up_n (by unfold x_tl x_tq x_fl z_sc at *; omega)).trans (hfM a c hk)
  have hqI3 : ∀ (a : Nat) (c : Int), ¬ (x_tq (I 0 11)) a c → I3 a c = M a c := fun a c hk => by rw [hI3]; exact (g_up_n (by unfold x_tl x_tq x_fl z_sc at *; omega)).trans (hqM a c hk)
  have hx9 : ∀ (k : Nat) (j : Int), ¬ x_fl k j → I3 k j = M k j := fun a c hk => by rw [hI3]; exact g_up_n (by unfold x_fl z_sc at hk; omega)
  have hlI3 : I3 703 23 = I 0 10 := by rw [hI3, g_up_i (by decide)]; exact hp.2.2.2.2.1.1
  have htI3 : I3 703 7 = I 0 11 := by rw [hI3, g_up_i (by decide)]; exact hp.2.2.2.2.1.2
  have hT2 : q_tap I I3 := q_tap_cg hT (hx9 703 6 (by unfold x_fl z_sc; omega)) (funext fun j => hx9 704 j (by unfold x_fl z_sc; omega))
  refine g_iload_n hc dX13_text_5 rfl ?_
  refine g_i2l hc dX13_text_6 (by first | exact hI _ _ | exact hxI2 _ _ | exact hIa _ _ | exact hIb _ _ | exact g_b32 | exact g_and32 | assumption | exact ⟨by omega, by omega⟩) ?_
  refine g_lconst hc dX13_text_7 0 (by decide +kernel) ?_
  refine g_lconst hc dX13_text_8 1 (by decide +kernel) ?_
  refine g_S3r hc (c_X13_isIn w (by first | exact hI _ _ | exact hmM.g _ _ | exact g_b32 | exact g_and32 | exact g_or32 | exact g_shl32 | assumption | exact ⟨by omega, by omega⟩) (by first | exact hI _ _ | exact hmM.g _ _ | exact g_b32 | exact g_and32 | exact g_or32 | exact g_shl32 | assumption | exact ⟨by omega, by omega⟩) (by first | exact hI _ _ | exact hmM.g _ _ | exact g_b32 | exact g_and32 | exact g_or32 | exact g_shl32 | assumption | exact ⟨by omega, by omega⟩)) my_X13_isIn ms_X13_isIn lm_X13_231 rfl (by decide) (Nat.le_of_ble_eq_true rfl) hm dX13_text_9 ?_
  refine g_ifb_eq (tgt := 50) hc dX13_text_12 (by decide)  (fun c1 => ?_) (fun c1 => ?_)
  · skip
    refine g_iconst hc dX13_text_50 ?_
    refine g_iret hc hm dX13_text_51 ?_
    exact ⟨by rw [if_neg (by omega), if_neg (by omega)], rfl, rfl, ⟨_, hR⟩, hgI3, fun _ _ => hx9, fun z => by omega, fun z => by omega⟩
  · skip
    refine g_iload_n hc dX13_text_15 rfl ?_
    refine g_if_ne (tgt := 27) hc dX13_text_16 (by decide) (by first | exact hI _ _ | exact hxI2 _ _ | exact hIa _ _ | exact hIb _ _ | exact g_b32 | exact g_and32 | assumption | exact ⟨by omega, by omega⟩) (fun c2 => ?_) (fun c2 => ?_)
    · skip
      refine g_iload_n hc dX13_text_27 rfl ?_
      refine g_iconst hc dX13_text_28 ?_
      refine g_icmp_ne (tgt := 41) hc dX13_text_29 (by decide) (by first | exact hI _ _ | exact hxI2 _ _ | exact hIa _ _ | exact hIb _ _ | exact g_b32 | exact g_and32 | assumption | exact ⟨by omega, by omega⟩) (by first | exact hI _ _ | exact hxI2 _ _ | exact hIa _ _ | exact hIb _ _ | exact g_b32 | exact g_and32 | assumption | exact ⟨by omega, by omega⟩) (fun c3 => ?_) (fun c3 => ?_)
      · exfalso; omega
      · skip
        refine g_aldn hc dX13_text_32 rfl ?_
        refine g_getIe hc lk_X13_284 ca_703 7 rfl (show I3 703 7 = I 0 11 from htI3) dX13_text_33 ?_
        refine g_bipush hc dX13_text_36 (by decide +kernel) ?_
        refine g_icmp_eq (tgt := 50) hc dX13_text_38 (by decide) (by first | exact hI _ _ | exact hxI2 _ _ | exact hIa _ _ | exact hIb _ _ | exact g_b32 | exact g_and32 | assumption | exact ⟨by omega, by omega⟩) (by first | exact hI _ _ | exact hxI2 _ _ | exact hIa _ _ | exact hIb _ _ | exact g_b32 | exact g_and32 | assumption | exact ⟨by omega, by omega⟩) (fun c4 => ?_) (fun c4 => ?_)
        · skip
          refine g_iconst hc dX13_text_50 ?_
          refine g_iret hc hm dX13_text_51 ?_
          exact ⟨by rw [if_neg (by omega), if_neg (by omega)], rfl, rfl, ⟨_, hR⟩, hgI3, fun _ _ => hx9, fun z => by omega, fun z => by omega⟩
        · skip
          refine g_aldn hc dX13_text_41 rfl ?_
          refine g_iload_n hc dX13_text_42 rfl ?_
          refine g_V1 hc (c_X13_fault w hR hgI3 hx hT2 hp.lv g1) my_X13_fault mv_X13_fault ca_703 rfl rfl lm_X13_287 rfl (by decide) (Nat.le_of_ble_eq_true rfl) hm dX13_text_43 (fun rF nF IF JF RF hpF => ?_)
          obtain ⟨rfl, rfl, hJ9, ⟨t2, hR2⟩, hfl, hgIF, hqf⟩ := hpF
          obtain rfl : J = JF := hJ9.symm
          have hfIF : ∀ (a : Nat) (c : Int), ¬ (x_tl (I 0 10)) a c → IF a c = M a c := fun a c hk => (hfl a c (fun z => hk (Or.inl z))).trans (hfI3 a c hk)
          have hqIF : ∀ (a : Nat) (c : Int), ¬ (x_tq (I 0 11)) a c → IF a c = M a c := fun a c hk => (hfl a c (fun z => hk (Or.inl z))).trans (hqI3 a c hk)
          have hlIF : IF 703 23 = I 0 10 := (hfl 703 23 (by unfold x_fl z_sc; omega)).trans hlI3
          have htIF : IF 703 7 = I 0 11 := (hfl 703 7 (by unfold x_fl z_sc; omega)).trans htI3
          have hx9 : ∀ (k : Nat) (j : Int), ¬ x_fl k j → IF k j = M k j := fun k j hk => (hfl k j hk).trans (hx9 k j hk)
          have hT2 : q_tap I IF := q_tap_cg hT (hx9 703 6 (by unfold x_fl z_sc; omega)) (funext fun j => hx9 704 j (by unfold x_fl z_sc; omega))
          clear hR
          have hR := hR2
          refine g_iconst hc dX13_text_46 ?_
          refine g_icmp_eq (tgt := 52) hc dX13_text_47 (by decide) (by first | exact hI _ _ | exact hxI2 _ _ | exact hIa _ _ | exact hIb _ _ | exact g_b32 | exact g_and32 | assumption | exact ⟨by omega, by omega⟩) (by first | exact hI _ _ | exact hxI2 _ _ | exact hIa _ _ | exact hIb _ _ | exact g_b32 | exact g_and32 | assumption | exact ⟨by omega, by omega⟩) (fun c5 => ?_) (fun c5 => ?_)
          · skip
            have hv9 : x_flt I v = -1 := c5
            refine g_aldn hc dX13_text_52 rfl ?_
            refine g_getIe hc lk_X13_115 ca_703 6 rfl (show IF 703 6 = I 1 1 from hT2.1) dX13_text_53 ?_
            refine g_istore_2 hc dX13_text_56 rfl ?_
            refine g_aldn hc dX13_text_57 rfl ?_
            refine g_iconst hc dX13_text_58 ?_
            refine g_putI' hc lk_X13_115 ca_703 6 rfl dX13_text_59 (fun I4 hI4 => ?_)
            have hgI4 : ∀ (a : Nat) (c : Int), g32 (I4 a c) := by rw [hI4]; exact x_up32 hgIF (show g32 _ from ⟨by decide, by decide⟩)
            have hfI4 : ∀ (a : Nat) (c : Int), ¬ (x_tl (I 0 10)) a c → I4 a c = M a c := fun a c hk => by rw [hI4]; exact (g_up_n (by unfold x_tl x_tq x_fl z_sc at *; omega)).trans (hfIF a c hk)
            have hqI4 : ∀ (a : Nat) (c : Int), ¬ (x_tq (I 0 11)) a c → I4 a c = M a c := fun a c hk => by rw [hI4]; exact (g_up_n (by unfold x_tl x_tq x_fl z_sc at *; omega)).trans (hqIF a c hk)
            have hlI4 : I4 703 23 = I 0 10 := by rw [hI4, g_up_i (by decide)]; exact hlIF
            have htI4 : I4 703 7 = I 0 11 := by rw [hI4, g_up_i (by decide)]; exact htIF
            have h6I4 : I4 703 6 = 0 := by rw [hI4, g_up_s]
            have hqI : v = 0 → q_lf (m_life (4 + 128 * (I 0 10).toNat) I) (4 + 128 * (I 0 10).toNat) I4 3 := fun z => q_lf_cg (fun k a c => by funext j; rw [hI4, g_up_k (by omega)]) (hqf z hv9)
            obtain ⟨IA, rfl⟩ : ∃ z, z = I4 := ⟨_, rfl⟩
            have hgIA := hgI4
            have hfIA := hfI4
            have hqIA := hqI4
            have hlIA := hlI4
            have htIA := htI4
            have h6IA := h6I4
            refine g_iload_n hc dX13_text_62 rfl ?_
            refine g_iconst hc dX13_text_63 ?_
            refine g_icmp_ne (tgt := 128) hc dX13_text_64 (by decide) (by first | exact hI _ _ | exact hxI2 _ _ | exact hIa _ _ | exact hIb _ _ | exact g_b32 | exact g_and32 | assumption | exact ⟨by omega, by omega⟩) (by first | exact hI _ _ | exact hxI2 _ _ | exact hIa _ _ | exact hIb _ _ | exact g_b32 | exact g_and32 | assumption | exact ⟨by omega, by omega⟩) (fun c6 => ?_) (fun c6 => ?_)
            · exfalso; omega
            · skip
              have h5IA : ∀ c : Int, -128 ≤ IA 705 c ∧ IA 705 c ≤ 127 := fun c => by rw [hfIA 705 c (by unfold x_tl x_fl z_sc; omega)]; exact h5 c
              have hfIA := hqIA
              refine g_iconst hc dX13_text_67 ?_
              refine g_istore_3 hc dX13_text_68 rfl ?_
              have lp_69 : ∀ (fu : Nat) (i : Int) (Mk : g_I), 0 ≤ i ∧ i ≤ I 1 1 → (∀ c : Int, 0 ≤ c → c < i → Mk 705 (240 * I 0 11 + c) = M 704 c) → (∀ (a : Nat) (c : Int), ¬ (a = 705 ∧ 240 * I 0 11 ≤ c ∧ c < 240 * I 0 11 + 240) → Mk a c = IA a c) → (∀ c : Int, -128 ≤ Mk 705 c ∧ Mk 705 c ≤ 127) → (∀ (k : Nat) (j : Int), g32 (Mk k j)) → (∀ (k : Nat) (j : Int), ¬ (x_tq (I 0 11)) k j → Mk k j = M k j) → I 1 1 - i < (fu : Int) → G w x (fun rr nn II JJ RR => rr = some (gvI (if (v = 0 ∧ I 0 10 < 3 ∧ x_flt I v = -1) then I 0 10 else if (v = 1 ∧ I 0 11 < 6 ∧ x_flt I v = -1) then I 0 11 else -1)) ∧ nn = g_n ∧ JJ = J ∧ (∃ t2, g_rf w RR lb t2) ∧ (∀ k j, g32 (II k j)) ∧ (¬ (v = 0 ∧ I 0 10 < 3 ∧ x_flt I v = -1) → ¬ (v = 1 ∧ I 0 11 < 6 ∧ x_flt I v = -1) → ∀ (k : Nat) (j : Int), ¬ x_fl k j → II k j = M k j) ∧ ((v = 0 ∧ I 0 10 < 3 ∧ x_flt I v = -1) → (∀ I2, x_cal (x_tld I) (I 0 10) I2 → q_rel I2 (4 + 128 * (I 0 10).toNat) II) ∧ (II 703 24 = I 0 10 ∧ II 703 32 = 0 ∧ II 703 41 = 0 ∧ II 703 45 = 0) ∧ q_01 II 713 ∧ II 703 6 = 0 ∧ ∀ (k : Nat) (j : Int), ¬ ((x_tl (I 0 10)) k j ∨ x_b8 k j) → II k j = M k j) ∧ ((v = 1 ∧ I 0 11 < 6 ∧ x_flt I v = -1) → (II 703 6 = 0 ∧ II 703 7 = I 0 11 + 1 ∧ II 706 (I 0 11) = I 1 1) ∧ (∀ c : Int, 0 ≤ c → c < I 1 1 → II 705 (240 * I 0 11 + c) = M 704 c) ∧ (∀ (k : Nat) (j : Int), ¬ (x_tq (I 0 11)) k j → II k j = M k j) ∧ ∀ c : Int, -128 ≤ II 705 c ∧ II 705 c ≤ 127)) 0 0 g_n Mk J RF 69 [some (gvr w 703), some (gvI v), some (gvI (I 1 1)), some (gvI i)] [] := by
                intro fu
                induction fu with
                | zero => intro i Mk h3 hcMk hoMk h5Mk hgMk hfMk hfu; exfalso; omega
                | succ fu ih =>
                  intro i Mk h3 hcMk hoMk h5Mk hgMk hfMk hfu
                  have hlMk : Mk 703 23 = I 0 10 := (hoMk 703 23 (by omega)).trans hlIA
                  have htMk : Mk 703 7 = I 0 11 := (hoMk 703 7 (by omega)).trans htIA
                  have ih_69 := ih
                  refine g_iload_n hc dX13_text_69 rfl ?_
                  refine g_iload_n hc dX13_text_70 rfl ?_
                  refine g_icmp_ge (tgt := 101) hc dX13_text_71 (by decide) (by first | exact hI _ _ | exact hxI2 _ _ | exact hIa _ _ | exact hIb _ _ | exact g_b32 | exact g_and32 | assumption | exact ⟨by omega, by omega⟩) (by first | exact hI _ _ | exact hxI2 _ _ | exact hIa _ _ | exact hIb _ _ | exact g_b32 | exact g_and32 | assumption | exact ⟨by omega, by omega⟩) (fun c7 => ?_) (fun c7 => ?_)
                  · skip
                    refine g_aldn hc dX13_text_101 rfl ?_
                    refine g_getRk hc lk_X13_16 ca_703 (rc_703_3 hR) dX13_text_102 ?_
                    refine g_aldn hc dX13_text_105 rfl ?_
                    refine g_getIe hc lk_X13_284 ca_703 7 rfl (show Mk 703 7 = I 0 11 from htMk) dX13_text_106 ?_
                    refine g_iload_n hc dX13_text_109 rfl ?_
                    refine g_iast' hc ca_706 (by decide) (by omega) (by omega)  dX13_text_110 (fun I5 hI5 => ?_)
                    have hgI5 : ∀ (a : Nat) (c : Int), g32 (I5 a c) := by rw [hI5]; exact x_up32 hgMk (show g32 _ from ⟨by omega, by omega⟩)
                    have hfI5 : ∀ (a : Nat) (c : Int), ¬ (x_tq (I 0 11)) a c → I5 a c = M a c := fun a c hk => by rw [hI5]; exact (g_up_n (by unfold x_tl x_tq x_fl z_sc at *; omega)).trans (hfMk a c hk)
                    have ho9 : ∀ (a : Nat) (c : Int), ¬ ((a = 706 ∧ c = I 0 11) ∨ (a = 703 ∧ c = 7)) → I5 a c = Mk a c := fun a c hk => by rw [hI5]; exact (g_up_n (by omega)).trans (rfl)
                    have htI5 : I5 703 7 = I 0 11 := by rw [hI5, g_up_k (by decide)]; exact htMk
                    have k706 : I5 706 (I 0 11) = I 1 1 := by rw [hI5, g_up_s]
                    refine g_aldn hc dX13_text_111 rfl ?_
                    refine g_dup hc dX13_text_112 rfl ?_
                    refine g_getIe hc lk_X13_284 ca_703 7 rfl (show I5 703 7 = I 0 11 from htI5) dX13_text_113 ?_
                    refine g_iconst hc dX13_text_116 ?_
                    refine g_iadd hc dX13_text_117 ?_
                    refine g_putI' hc lk_X13_284 ca_703 7 rfl dX13_text_118 (fun I6 hI6 => ?_)
                    have hgI6 : ∀ (a : Nat) (c : Int), g32 (I6 a c) := by rw [hI6]; exact x_up32 hgI5 (show g32 _ from ⟨by omega, by omega⟩)
                    have hfI6 : ∀ (a : Nat) (c : Int), ¬ (x_tq (I 0 11)) a c → I6 a c = M a c := fun a c hk => by rw [hI6]; exact (g_up_n (by unfold x_tl x_tq x_fl z_sc at *; omega)).trans (hfI5 a c hk)
                    have ho9 : ∀ (a : Nat) (c : Int), ¬ ((a = 706 ∧ c = I 0 11) ∨ (a = 703 ∧ c = 7)) → I6 a c = Mk a c := fun a c hk => by rw [hI6]; exact (g_up_n (by omega)).trans (ho9 a c hk)
                    have k7 : I6 703 7 = I 0 11 + 1 := by rw [hI6, g_up_s]
                    have k706 : I6 706 (I 0 11) = I 1 1 := by rw [hI6, g_up_k (by decide)]; exact k706
                    refine g_aldn hc dX13_text_121 rfl ?_
                    refine g_getIe hc lk_X13_284 ca_703 7 rfl (show I6 703 7 = I 0 11 + 1 from k7) dX13_text_122 ?_
                    refine g_iconst hc dX13_text_125 ?_
                    refine g_isub hc dX13_text_126 ?_
                    refine g_iret hc hm dX13_text_127 ?_
                    exact ⟨by rw [if_neg (by omega), if_pos ⟨by omega, by omega, hv9⟩, show I 0 11 + 1 - 1 = I 0 11 by omega], rfl, rfl, ⟨_, hR⟩, hgI6, fun _ z => absurd ⟨by omega, by omega, hv9⟩ z, fun z => by omega, fun _ => ⟨⟨by rw [ho9 703 6 (by omega), hoMk 703 6 (by omega)]; exact h6IA, k7, k706⟩, fun c c0 c1 => by rw [ho9 705 _ (by omega)]; exact hcMk c c0 (by omega), hfI6, fun c => by rw [ho9 705 c (by omega)]; exact h5Mk c⟩⟩
                  · skip
                    refine g_aldn hc dX13_text_74 rfl ?_
                    refine g_getRk hc lk_X13_13 ca_703 (rc_703_2 hR) dX13_text_75 ?_
                    refine g_sipush hc dX13_text_78 (by decide +kernel) ?_
                    refine g_aldn hc dX13_text_81 rfl ?_
                    refine g_getIe hc lk_X13_284 ca_703 7 rfl (show Mk 703 7 = I 0 11 from htMk) dX13_text_82 ?_
                    refine g_imul hc dX13_text_85 ?_
                    refine g_iload_n hc dX13_text_86 rfl ?_
                    refine g_iadd hc dX13_text_87 ?_
                    refine g_aldn hc dX13_text_88 rfl ?_
                    refine g_getRk hc lk_X13_9 ca_703 (rc_703_1 hR) dX13_text_89 ?_
                    refine g_iload_n hc dX13_text_92 rfl ?_
                    refine g_balde hc ca_704 (by decide) (by omega) (by omega) (show Mk 704 i = M 704 i from (hfMk 704 i (by unfold x_tq x_fl z_sc; omega))) dX13_text_93 ?_
                    refine g_bast' hc ca_705 (by decide) (by omega) (by omega) (x_nar8 (hT.2.2.2 i)) dX13_text_94 (fun I7 hI7 => ?_)
                    have hgI7 : ∀ (a : Nat) (c : Int), g32 (I7 a c) := by rw [hI7]; exact x_up32 hgMk (hg _ _)
                    have hfI7 : ∀ (a : Nat) (c : Int), ¬ (x_tq (I 0 11)) a c → I7 a c = M a c := fun a c hk => by rw [hI7]; exact (g_up_n (by unfold x_tl x_tq x_fl z_sc at *; omega)).trans (hfMk a c hk)
                    refine g_iinc_3 hc dX13_text_95 rfl ?_
                    refine g_goto (tgt := 69) hc dX13_text_98 (by decide) ?_
                    refine ih_69 _ _ ?_ ?_ ?_ ?_ ?_ ?_ ?_
                    · omega
                    · intro c c0 c1
                      rw [hI7]
                      by_cases e : c = i
                      · rw [e, g_up_s]
                      · rw [g_up_i (by omega)]; exact hcMk c c0 (by omega)
                    · intro a c hk
                      rw [hI7]
                      exact (g_up_n (by omega)).trans (hoMk a c hk)
                    · intro c
                      rw [hI7]
                      by_cases e : c = 240 * I 0 11 + i
                      · rw [e, g_up_s]; exact hT.2.2.2 i
                      · rw [g_up_i e]; exact h5Mk c
                    · exact hgI7
                    · exact hfI7
                    · omega
              refine lp_69 (I 1 1 + 1).toNat _ _ ?_ ?_ ?_ ?_ ?_ ?_ (?_)
              · omega
              · intro c c0 c1; omega
              · intro a c hk; rfl
              · exact h5IA
              · exact hgIA
              · exact hfIA
              · omega
          · skip
            have hv9 : ¬ x_flt I v = -1 := c5
            refine g_iconst hc dX13_text_50 ?_
            refine g_iret hc hm dX13_text_51 ?_
            exact ⟨by rw [if_neg (by omega), if_neg (by omega)], rfl, rfl, ⟨_, hR⟩, hgIF, fun _ _ => hx9, fun z => by omega, fun z => by omega⟩
    · skip
      refine g_aldn hc dX13_text_19 rfl ?_
      refine g_getIe hc lk_X13_281 ca_703 23 rfl (show I3 703 23 = I 0 10 from hlI3) dX13_text_20 ?_
      refine g_iconst hc dX13_text_23 ?_
      refine g_icmp_eq (tgt := 50) hc dX13_text_24 (by decide) (by first | exact hI _ _ | exact hxI2 _ _ | exact hIa _ _ | exact hIb _ _ | exact g_b32 | exact g_and32 | assumption | exact ⟨by omega, by omega⟩) (by first | exact hI _ _ | exact hxI2 _ _ | exact hIa _ _ | exact hIb _ _ | exact g_b32 | exact g_and32 | assumption | exact ⟨by omega, by omega⟩) (fun c8 => ?_) (fun c8 => ?_)
      · skip
        refine g_iconst hc dX13_text_50 ?_
        refine g_iret hc hm dX13_text_51 ?_
        exact ⟨by rw [if_neg (by omega), if_neg (by omega)], rfl, rfl, ⟨_, hR⟩, hgI3, fun _ _ => hx9, fun z => by omega, fun z => by omega⟩
      · skip
        refine g_iload_n hc dX13_text_27 rfl ?_
        refine g_iconst hc dX13_text_28 ?_
        refine g_icmp_ne (tgt := 41) hc dX13_text_29 (by decide) (by first | exact hI _ _ | exact hxI2 _ _ | exact hIa _ _ | exact hIb _ _ | exact g_b32 | exact g_and32 | assumption | exact ⟨by omega, by omega⟩) (by first | exact hI _ _ | exact hxI2 _ _ | exact hIa _ _ | exact hIb _ _ | exact g_b32 | exact g_and32 | assumption | exact ⟨by omega, by omega⟩) (fun c9 => ?_) (fun c9 => ?_)
        · skip
          refine g_aldn hc dX13_text_41 rfl ?_
          refine g_iload_n hc dX13_text_42 rfl ?_
          refine g_V1 hc (c_X13_fault w hR hgI3 hx hT2 hp.lv g1) my_X13_fault mv_X13_fault ca_703 rfl rfl lm_X13_287 rfl (by decide) (Nat.le_of_ble_eq_true rfl) hm dX13_text_43 (fun rF nF IF JF RF hpF => ?_)
          obtain ⟨rfl, rfl, hJ9, ⟨t2, hR2⟩, hfl, hgIF, hqf⟩ := hpF
          obtain rfl : J = JF := hJ9.symm
          have hfIF : ∀ (a : Nat) (c : Int), ¬ (x_tl (I 0 10)) a c → IF a c = M a c := fun a c hk => (hfl a c (fun z => hk (Or.inl z))).trans (hfI3 a c hk)
          have hqIF : ∀ (a : Nat) (c : Int), ¬ (x_tq (I 0 11)) a c → IF a c = M a c := fun a c hk => (hfl a c (fun z => hk (Or.inl z))).trans (hqI3 a c hk)
          have hlIF : IF 703 23 = I 0 10 := (hfl 703 23 (by unfold x_fl z_sc; omega)).trans hlI3
          have htIF : IF 703 7 = I 0 11 := (hfl 703 7 (by unfold x_fl z_sc; omega)).trans htI3
          have hx9 : ∀ (k : Nat) (j : Int), ¬ x_fl k j → IF k j = M k j := fun k j hk => (hfl k j hk).trans (hx9 k j hk)
          have hT2 : q_tap I IF := q_tap_cg hT (hx9 703 6 (by unfold x_fl z_sc; omega)) (funext fun j => hx9 704 j (by unfold x_fl z_sc; omega))
          clear hR
          have hR := hR2
          refine g_iconst hc dX13_text_46 ?_
          refine g_icmp_eq (tgt := 52) hc dX13_text_47 (by decide) (by first | exact hI _ _ | exact hxI2 _ _ | exact hIa _ _ | exact hIb _ _ | exact g_b32 | exact g_and32 | assumption | exact ⟨by omega, by omega⟩) (by first | exact hI _ _ | exact hxI2 _ _ | exact hIa _ _ | exact hIb _ _ | exact g_b32 | exact g_and32 | assumption | exact ⟨by omega, by omega⟩) (fun c10 => ?_) (fun c10 => ?_)
          · skip
            have hv9 : x_flt I v = -1 := c10
            refine g_aldn hc dX13_text_52 rfl ?_
            refine g_getIe hc lk_X13_115 ca_703 6 rfl (show IF 703 6 = I 1 1 from hT2.1) dX13_text_53 ?_
            refine g_istore_2 hc dX13_text_56 rfl ?_
            refine g_aldn hc dX13_text_57 rfl ?_
            refine g_iconst hc dX13_text_58 ?_
            refine g_putI' hc lk_X13_115 ca_703 6 rfl dX13_text_59 (fun I8 hI8 => ?_)
            have hgI8 : ∀ (a : Nat) (c : Int), g32 (I8 a c) := by rw [hI8]; exact x_up32 hgIF (show g32 _ from ⟨by decide, by decide⟩)
            have hfI8 : ∀ (a : Nat) (c : Int), ¬ (x_tl (I 0 10)) a c → I8 a c = M a c := fun a c hk => by rw [hI8]; exact (g_up_n (by unfold x_tl x_tq x_fl z_sc at *; omega)).trans (hfIF a c hk)
            have hqI8 : ∀ (a : Nat) (c : Int), ¬ (x_tq (I 0 11)) a c → I8 a c = M a c := fun a c hk => by rw [hI8]; exact (g_up_n (by unfold x_tl x_tq x_fl z_sc at *; omega)).trans (hqIF a c hk)
            have hlI8 : I8 703 23 = I 0 10 := by rw [hI8, g_up_i (by decide)]; exact hlIF
            have htI8 : I8 703 7 = I 0 11 := by rw [hI8, g_up_i (by decide)]; exact htIF
            have h6I8 : I8 703 6 = 0 := by rw [hI8, g_up_s]
            have hqI : v = 0 → q_lf (m_life (4 + 128 * (I 0 10).toNat) I) (4 + 128 * (I 0 10).toNat) I8 3 := fun z => q_lf_cg (fun k a c => by funext j; rw [hI8, g_up_k (by omega)]) (hqf z hv9)
            obtain ⟨IA, rfl⟩ : ∃ z, z = I8 := ⟨_, rfl⟩
            have hgIA := hgI8
            have hfIA := hfI8
            have hqIA := hqI8
            have hlIA := hlI8
            have htIA := htI8
            have h6IA := h6I8
            refine g_iload_n hc dX13_text_62 rfl ?_
            refine g_iconst hc dX13_text_63 ?_
            refine g_icmp_ne (tgt := 128) hc dX13_text_64 (by decide) (by first | exact hI _ _ | exact hxI2 _ _ | exact hIa _ _ | exact hIb _ _ | exact g_b32 | exact g_and32 | assumption | exact ⟨by omega, by omega⟩) (by first | exact hI _ _ | exact hxI2 _ _ | exact hIa _ _ | exact hIb _ _ | exact g_b32 | exact g_and32 | assumption | exact ⟨by omega, by omega⟩) (fun c11 => ?_) (fun c11 => ?_)
            · skip
              refine g_iconst hc dX13_text_128 ?_
              refine g_istore_3 hc dX13_text_129 rfl ?_
              have lp_130 : ∀ (fu : Nat) (i : Int) (Ma : g_I), 0 ≤ i ∧ i ≤ 84 → (∀ c : Int, 0 ≤ c → c < i → Ma 708 (I 0 10 * 12 * 7 + c) = IA 708 (252 + c)) → (∀ (a : Nat) (c : Int), ¬ (a = 708 ∧ I 0 10 * 12 * 7 ≤ c ∧ c < I 0 10 * 12 * 7 + 84) → Ma a c = IA a c) → (∀ (k : Nat) (j : Int), g32 (Ma k j)) → (∀ (k : Nat) (j : Int), ¬ (x_tl (I 0 10)) k j → Ma k j = M k j) → 84 - i < (fu : Int) → G w x (fun rr nn II JJ RR => rr = some (gvI (if (v = 0 ∧ I 0 10 < 3 ∧ x_flt I v = -1) then I 0 10 else if (v = 1 ∧ I 0 11 < 6 ∧ x_flt I v = -1) then I 0 11 else -1)) ∧ nn = g_n ∧ JJ = J ∧ (∃ t2, g_rf w RR lb t2) ∧ (∀ k j, g32 (II k j)) ∧ (¬ (v = 0 ∧ I 0 10 < 3 ∧ x_flt I v = -1) → ¬ (v = 1 ∧ I 0 11 < 6 ∧ x_flt I v = -1) → ∀ (k : Nat) (j : Int), ¬ x_fl k j → II k j = M k j) ∧ ((v = 0 ∧ I 0 10 < 3 ∧ x_flt I v = -1) → (∀ I2, x_cal (x_tld I) (I 0 10) I2 → q_rel I2 (4 + 128 * (I 0 10).toNat) II) ∧ (II 703 24 = I 0 10 ∧ II 703 32 = 0 ∧ II 703 41 = 0 ∧ II 703 45 = 0) ∧ q_01 II 713 ∧ II 703 6 = 0 ∧ ∀ (k : Nat) (j : Int), ¬ ((x_tl (I 0 10)) k j ∨ x_b8 k j) → II k j = M k j) ∧ ((v = 1 ∧ I 0 11 < 6 ∧ x_flt I v = -1) → (II 703 6 = 0 ∧ II 703 7 = I 0 11 + 1 ∧ II 706 (I 0 11) = I 1 1) ∧ (∀ c : Int, 0 ≤ c → c < I 1 1 → II 705 (240 * I 0 11 + c) = M 704 c) ∧ (∀ (k : Nat) (j : Int), ¬ (x_tq (I 0 11)) k j → II k j = M k j) ∧ ∀ c : Int, -128 ≤ II 705 c ∧ II 705 c ≤ 127)) 0 0 g_n Ma J RF 130 [some (gvr w 703), some (gvI v), some (gvI (I 1 1)), some (gvI i)] [] := by
                intro fu
                induction fu with
                | zero => intro i Ma h3 hcMa hoMa hgMa hfMa hfu; exfalso; omega
                | succ fu ih =>
                  intro i Ma h3 hcMa hoMa hgMa hfMa hfu
                  have hlMa : Ma 703 23 = I 0 10 := (hoMa 703 23 (by omega)).trans hlIA
                  have htMa : Ma 703 7 = I 0 11 := (hoMa 703 7 (by omega)).trans htIA
                  have ih_130 := ih
                  refine g_iload_n hc dX13_text_130 rfl ?_
                  refine g_bipush hc dX13_text_131 (by decide +kernel) ?_
                  refine g_icmp_ge (tgt := 169) hc dX13_text_133 (by decide) (by first | exact hI _ _ | exact hxI2 _ _ | exact hIa _ _ | exact hIb _ _ | exact g_b32 | exact g_and32 | assumption | exact ⟨by omega, by omega⟩) (by first | exact hI _ _ | exact hxI2 _ _ | exact hIa _ _ | exact hIb _ _ | exact g_b32 | exact g_and32 | assumption | exact ⟨by omega, by omega⟩) (fun c12 => ?_) (fun c12 => ?_)
                  · skip
                    refine g_iconst hc dX13_text_169 ?_
                    refine g_istore_3 hc dX13_text_170 rfl ?_
                    have lp_171 : ∀ (fu : Nat) (i : Int) (Mb : g_I), 0 ≤ i ∧ i ≤ 90 → (∀ c : Int, 0 ≤ c → c < i → Mb 709 (I 0 10 * 18 * 5 + c) = Ma 709 (270 + c)) → (∀ (a : Nat) (c : Int), ¬ (a = 709 ∧ I 0 10 * 18 * 5 ≤ c ∧ c < I 0 10 * 18 * 5 + 90) → Mb a c = Ma a c) → (∀ (k : Nat) (j : Int), g32 (Mb k j)) → (∀ (k : Nat) (j : Int), ¬ (x_tl (I 0 10)) k j → Mb k j = M k j) → 90 - i < (fu : Int) → G w x (fun rr nn II JJ RR => rr = some (gvI (if (v = 0 ∧ I 0 10 < 3 ∧ x_flt I v = -1) then I 0 10 else if (v = 1 ∧ I 0 11 < 6 ∧ x_flt I v = -1) then I 0 11 else -1)) ∧ nn = g_n ∧ JJ = J ∧ (∃ t2, g_rf w RR lb t2) ∧ (∀ k j, g32 (II k j)) ∧ (¬ (v = 0 ∧ I 0 10 < 3 ∧ x_flt I v = -1) → ¬ (v = 1 ∧ I 0 11 < 6 ∧ x_flt I v = -1) → ∀ (k : Nat) (j : Int), ¬ x_fl k j → II k j = M k j) ∧ ((v = 0 ∧ I 0 10 < 3 ∧ x_flt I v = -1) → (∀ I2, x_cal (x_tld I) (I 0 10) I2 → q_rel I2 (4 + 128 * (I 0 10).toNat) II) ∧ (II 703 24 = I 0 10 ∧ II 703 32 = 0 ∧ II 703 41 = 0 ∧ II 703 45 = 0) ∧ q_01 II 713 ∧ II 703 6 = 0 ∧ ∀ (k : Nat) (j : Int), ¬ ((x_tl (I 0 10)) k j ∨ x_b8 k j) → II k j = M k j) ∧ ((v = 1 ∧ I 0 11 < 6 ∧ x_flt I v = -1) → (II 703 6 = 0 ∧ II 703 7 = I 0 11 + 1 ∧ II 706 (I 0 11) = I 1 1) ∧ (∀ c : Int, 0 ≤ c → c < I 1 1 → II 705 (240 * I 0 11 + c) = M 704 c) ∧ (∀ (k : Nat) (j : Int), ¬ (x_tq (I 0 11)) k j → II k j = M k j) ∧ ∀ c : Int, -128 ≤ II 705 c ∧ II 705 c ≤ 127)) 0 0 g_n Mb J RF 171 [some (gvr w 703), some (gvI v), some (gvI (I 1 1)), some (gvI i)] [] := by
                      intro fu
                      induction fu with
                      | zero => intro i Mb h3 hcMb hoMb hgMb hfMb hfu; exfalso; omega
                      | succ fu ih =>
                        intro i Mb h3 hcMb hoMb hgMb hfMb hfu
                        have hlMb : Mb 703 23 = I 0 10 := (hoMb 703 23 (by omega)).trans hlMa
                        have htMb : Mb 703 7 = I 0 11 := (hoMb 703 7 (by omega)).trans htMa
                        have ih_171 := ih
                        refine g_iload_n hc dX13_text_171 rfl ?_
                        refine g_bipush hc dX13_text_172 (by decide +kernel) ?_
                        refine g_icmp_ge (tgt := 209) hc dX13_text_174 (by decide) (by first | exact hI _ _ | exact hxI2 _ _ | exact hIa _ _ | exact hIb _ _ | exact g_b32 | exact g_and32 | assumption | exact ⟨by omega, by omega⟩) (by first | exact hI _ _ | exact hxI2 _ _ | exact hIa _ _ | exact hIb _ _ | exact g_b32 | exact g_and32 | assumption | exact ⟨by omega, by omega⟩) (fun c13 => ?_) (fun c13 => ?_)
                        · skip
                          refine g_iconst hc dX13_text_209 ?_
                          refine g_istore_3 hc dX13_text_210 rfl ?_
                          have lp_211 : ∀ (fu : Nat) (i : Int) (Mc : g_I), 0 ≤ i ∧ i ≤ 432 → (∀ c : Int, 0 ≤ c → c < i → Mc 710 (I 0 10 * 18 * 4 * 6 + c) = Mb 710 (1296 + c)) → (∀ (a : Nat) (c : Int), ¬ (a = 710 ∧ I 0 10 * 18 * 4 * 6 ≤ c ∧ c < I 0 10 * 18 * 4 * 6 + 432) → Mc a c = Mb a c) → (∀ (k : Nat) (j : Int), g32 (Mc k j)) → (∀ (k : Nat) (j : Int), ¬ (x_tl (I 0 10)) k j → Mc k j = M k j) → 432 - i < (fu : Int) → G w x (fun rr nn II JJ RR => rr = some (gvI (if (v = 0 ∧ I 0 10 < 3 ∧ x_flt I v = -1) then I 0 10 else if (v = 1 ∧ I 0 11 < 6 ∧ x_flt I v = -1) then I 0 11 else -1)) ∧ nn = g_n ∧ JJ = J ∧ (∃ t2, g_rf w RR lb t2) ∧ (∀ k j, g32 (II k j)) ∧ (¬ (v = 0 ∧ I 0 10 < 3 ∧ x_flt I v = -1) → ¬ (v = 1 ∧ I 0 11 < 6 ∧ x_flt I v = -1) → ∀ (k : Nat) (j : Int), ¬ x_fl k j → II k j = M k j) ∧ ((v = 0 ∧ I 0 10 < 3 ∧ x_flt I v = -1) → (∀ I2, x_cal (x_tld I) (I 0 10) I2 → q_rel I2 (4 + 128 * (I 0 10).toNat) II) ∧ (II 703 24 = I 0 10 ∧ II 703 32 = 0 ∧ II 703 41 = 0 ∧ II 703 45 = 0) ∧ q_01 II 713 ∧ II 703 6 = 0 ∧ ∀ (k : Nat) (j : Int), ¬ ((x_tl (I 0 10)) k j ∨ x_b8 k j) → II k j = M k j) ∧ ((v = 1 ∧ I 0 11 < 6 ∧ x_flt I v = -1) → (II 703 6 = 0 ∧ II 703 7 = I 0 11 + 1 ∧ II 706 (I 0 11) = I 1 1) ∧ (∀ c : Int, 0 ≤ c → c < I 1 1 → II 705 (240 * I 0 11 + c) = M 704 c) ∧ (∀ (k : Nat) (j : Int), ¬ (x_tq (I 0 11)) k j → II k j = M k j) ∧ ∀ c : Int, -128 ≤ II 705 c ∧ II 705 c ≤ 127)) 0 0 g_n Mc J RF 211 [some (gvr w 703), some (gvI v), some (gvI (I 1 1)), some (gvI i)] [] := by
                            intro fu
                            induction fu with
                            | zero => intro i Mc h3 hcMc hoMc hgMc hfMc hfu; exfalso; omega
                            | succ fu ih =>
                              intro i Mc h3 hcMc hoMc hgMc hfMc hfu
                              have hlMc : Mc 703 23 = I 0 10 := (hoMc 703 23 (by omega)).trans hlMb
                              have htMc : Mc 703 7 = I 0 11 := (hoMc 703 7 (by omega)).trans htMb
                              have ih_211 := ih
                              refine g_iload_n hc dX13_text_211 rfl ?_
                              refine g_sipush hc dX13_text_212 (by decide +kernel) ?_
                              refine g_icmp_ge (tgt := 253) hc dX13_text_215 (by decide) (by first | exact hI _ _ | exact hxI2 _ _ | exact hIa _ _ | exact hIb _ _ | exact g_b32 | exact g_and32 | assumption | exact ⟨by omega, by omega⟩) (by first | exact hI _ _ | exact hxI2 _ _ | exact hIa _ _ | exact hIb _ _ | exact g_b32 | exact g_and32 | assumption | exact ⟨by omega, by omega⟩) (fun c14 => ?_) (fun c14 => ?_)
                              · skip
                                refine g_aldn hc dX13_text_253 rfl ?_
                                refine g_getRk hc lk_X13_46 ca_703 (rc_703_21 hR) dX13_text_254 ?_
                                refine g_aldn hc dX13_text_257 rfl ?_
                                refine g_getIe hc lk_X13_281 ca_703 23 rfl (show Mc 703 23 = I 0 10 from hlMc) dX13_text_258 ?_
                                refine g_aldn hc dX13_text_261 rfl ?_
                                refine g_getRk hc lk_X13_46 ca_703 (rc_703_21 hR) dX13_text_262 ?_
                                refine g_iconst hc dX13_text_265 ?_
                                refine g_iald hc ca_711 (by decide) (by omega) (by omega) dX13_text_266 ?_
                                refine g_iast' hc ca_711 (by decide) (by omega) (by omega)  dX13_text_267 (fun I9 hI9 => ?_)
                                have hgI9 : ∀ (a : Nat) (c : Int), g32 (I9 a c) := by rw [hI9]; exact x_up32 hgMc (hgMc _ _)
                                have hfI9 : ∀ (a : Nat) (c : Int), ¬ (x_tl (I 0 10)) a c → I9 a c = M a c := fun a c hk => by rw [hI9]; exact (g_up_n (by unfold x_tl x_tq x_fl z_sc at *; omega)).trans (hfMc a c hk)
                                have ho9 : ∀ (a : Nat) (c : Int), ¬ (((a = 711 ∨ a = 712) ∧ c = I 0 10) ∨ (a = 703 ∧ c = 23)) → I9 a c = Mc a c := fun a c hk => by rw [hI9]; exact (g_up_n (by omega)).trans (rfl)
                                have hlI9 : I9 703 23 = I 0 10 := by rw [hI9, g_up_k (by decide)]; exact hlMc
                                have k711 : I9 711 (I 0 10) = Mc 711 3 := by rw [hI9, g_up_s]
                                refine g_aldn hc dX13_text_268 rfl ?_
                                refine g_getRk hc lk_X13_49 ca_703 (rc_703_22 hR) dX13_text_269 ?_
                                refine g_aldn hc dX13_text_272 rfl ?_
                                refine g_getIe hc lk_X13_281 ca_703 23 rfl (show I9 703 23 = I 0 10 from hlI9) dX13_text_273 ?_
                                refine g_aldn hc dX13_text_276 rfl ?_
                                refine g_getRk hc lk_X13_49 ca_703 (rc_703_22 hR) dX13_text_277 ?_
                                have ho9p := ho9
                                refine g_iconst hc dX13_text_280 ?_
                                refine g_iald hc ca_712 (by decide) (by omega) (by omega) dX13_text_281 ?_
                                refine g_iast' hc ca_712 (by decide) (by omega) (by omega)  dX13_text_282 (fun I10 hI10 => ?_)
                                have hgI10 : ∀ (a : Nat) (c : Int), g32 (I10 a c) := by rw [hI10]; exact x_up32 hgI9 (hgI9 _ _)
                                have hfI10 : ∀ (a : Nat) (c : Int), ¬ (x_tl (I 0 10)) a c → I10 a c = M a c := fun a c hk => by rw [hI10]; exact (g_up_n (by unfold x_tl x_tq x_fl z_sc at *; omega)).trans (hfI9 a c hk)
                                have ho9 : ∀ (a : Nat) (c : Int), ¬ (((a = 711 ∨ a = 712) ∧ c = I 0 10) ∨ (a = 703 ∧ c = 23)) → I10 a c = Mc a c := fun a c hk => by rw [hI10]; exact (g_up_n (by omega)).trans (ho9 a c hk)
                                have hlI10 : I10 703 23 = I 0 10 := by rw [hI10, g_up_k (by decide)]; exact hlI9
                                have k711 : I10 711 (I 0 10) = Mc 711 3 := by rw [hI10, g_up_k (by decide)]; exact k711
                                have k712 : I10 712 (I 0 10) = Mc 712 3 := by rw [hI10, g_up_s]; exact ho9p 712 3 (by omega)
                                refine g_aldn hc dX13_text_283 rfl ?_
                                refine g_dup hc dX13_text_284 rfl ?_
                                refine g_getIe hc lk_X13_281 ca_703 23 rfl (show I10 703 23 = I 0 10 from hlI10) dX13_text_285 ?_
                                refine g_iconst hc dX13_text_288 ?_
                                refine g_iadd hc dX13_text_289 ?_
                                refine g_putI' hc lk_X13_281 ca_703 23 rfl dX13_text_290 (fun I11 hI11 => ?_)
                                have hgI11 : ∀ (a : Nat) (c : Int), g32 (I11 a c) := by rw [hI11]; exact x_up32 hgI10 (show g32 _ from ⟨by omega, by omega⟩)
                                have hfI11 : ∀ (a : Nat) (c : Int), ¬ (x_tl (I 0 10)) a c → I11 a c = M a c := fun a c hk => by rw [hI11]; exact (g_up_n (by unfold x_tl x_tq x_fl z_sc at *; omega)).trans (hfI10 a c hk)
                                have ho9 : ∀ (a : Nat) (c : Int), ¬ (((a = 711 ∨ a = 712) ∧ c = I 0 10) ∨ (a = 703 ∧ c = 23)) → I11 a c = Mc a c := fun a c hk => by rw [hI11]; exact (g_up_n (by omega)).trans (ho9 a c hk)
                                have k23 : I11 703 23 = I 0 10 + 1 := by rw [hI11, g_up_s]
                                have k711 : I11 711 (I 0 10) = Mc 711 3 := by rw [hI11, g_up_k (by decide)]; exact k711
                                have k712 : I11 712 (I 0 10) = Mc 712 3 := by rw [hI11, g_up_k (by decide)]; exact k712
                                have hpre : q_pre (x_tld I) I11 := z_tld (IF := IA) hp hx (by omega) (hqI (by omega)) (fun c c0 c1 => by rw [ho9 708 _ (by omega), hoMc 708 _ (by omega), hoMb 708 _ (by omega)]; exact hcMa c c0 (by omega)) (fun c c0 c1 => by rw [ho9 709 _ (by omega), hoMc 709 _ (by omega), hcMb c c0 (by omega)]; exact hoMa 709 _ (by omega)) (fun c c0 c1 => by rw [ho9 710 _ (by omega), hcMc c c0 (by omega), hoMb 710 _ (by omega)]; exact hoMa 710 _ (by omega)) (by rw [k711, hoMc 711 _ (by omega), hoMb 711 _ (by omega)]; exact hoMa 711 _ (by omega)) (by rw [k712, hoMc 712 _ (by omega), hoMb 712 _ (by omega)]; exact hoMa 712 _ (by omega)) hfI11 k23 hgI11
                                have hz9 : q_01 I11 713 := fun j => by rw [hfI11 713 j (by unfold x_tl x_fl z_sc; omega)]; exact hz3 j
                                have e10 : x_tld I 0 10 = I 0 10 + 1 := by unfold x_tld; rw [g_up_s]
                                have k6 : I11 703 6 = 0 := by rw [ho9 703 6 (by omega), hoMc 703 6 (by omega), hoMb 703 6 (by omega), hoMa 703 6 (by omega)]; exact h6IA
                                refine g_aldn hc dX13_text_293 rfl ?_
                                refine g_aldn hc dX13_text_294 rfl ?_
                                refine g_getIe hc lk_X13_281 ca_703 23 rfl (show I11 703 23 = I 0 10 + 1 from k23) dX13_text_295 ?_
                                refine g_iconst hc dX13_text_298 ?_
                                skip
                                refine g_isub hc dX13_text_299 ?_
                                rw [show (I 0 10 + 1) - 1 = I 0 10 from (by omega)]
                                refine g_V1 hc (c2_X13_call w (I := x_tld I) (l := I 0 10) hR hgI11 hpre (by exact ⟨by omega, by omega⟩) hz9) my_X13_call mv_X13_call ca_703 rfl rfl lm_X13_289 rfl (by decide) (Nat.le_of_ble_eq_true rfl) hm dX13_text_300 (fun rC nC IC JC RC hpC => ?_)
                                obtain ⟨⟨rfl, rfl, rfl, rfl, hf8, hgIC⟩, -, hcl⟩ := hpC
                                obtain ⟨hc1, hc2, hc3, hc4, hc5, hc6⟩ := hcl ⟨by omega, by omega⟩
                                refine g_pop hc dX13_text_303 rfl ?_
                                refine g_aldn hc dX13_text_304 rfl ?_
                                refine g_getIe hc lk_X13_281 ca_703 23 rfl (show IC 703 23 = I 0 10 + 1 from (hf8 703 23 (by unfold x_b8; omega)).trans k23) dX13_text_305 ?_
                                refine g_iconst hc dX13_text_308 ?_
                                refine g_isub hc dX13_text_309 ?_
                                refine g_iret hc hm dX13_text_310 ?_
                                exact ⟨by rw [if_pos ⟨by omega, by omega, hv9⟩, show I 0 10 + 1 - 1 = I 0 10 by omega], rfl, rfl, ⟨_, hR⟩, hgIC, fun z => absurd ⟨by omega, by omega, hv9⟩ z, fun _ => ⟨hc1, ⟨hc2, hc3, hc4, hc5⟩, hc6, (hf8 703 6 (by unfold x_b8; omega)).trans k6, fun k j hk => (hf8 k j (fun z => hk (Or.inr z))).trans (hfI11 k j (fun z => hk (Or.inl z)))⟩, fun z => by omega⟩
                              · skip
                                refine g_aldn hc dX13_text_218 rfl ?_
                                refine g_getRk hc lk_X13_43 ca_703 (rc_703_20 hR) dX13_text_219 ?_
                                refine g_aldn hc dX13_text_222 rfl ?_
                                refine g_getIe hc lk_X13_281 ca_703 23 rfl (show Mc 703 23 = I 0 10 from hlMc) dX13_text_223 ?_
                                refine g_bipush hc dX13_text_226 (by decide +kernel) ?_
                                refine g_imul hc dX13_text_228 ?_
                                refine g_iconst hc dX13_text_229 ?_
                                refine g_imul hc dX13_text_230 ?_
                                refine g_bipush hc dX13_text_231 (by decide +kernel) ?_
                                refine g_imul hc dX13_text_233 ?_
                                refine g_iload_n hc dX13_text_234 rfl ?_
                                refine g_iadd hc dX13_text_235 ?_
                                refine g_aldn hc dX13_text_236 rfl ?_
                                refine g_getRk hc lk_X13_43 ca_703 (rc_703_20 hR) dX13_text_237 ?_
                                refine g_sipush hc dX13_text_240 (by decide +kernel) ?_
                                refine g_iload_n hc dX13_text_243 rfl ?_
                                refine g_iadd hc dX13_text_244 ?_
                                refine g_ialde hc ca_710 (by decide) (by omega) (by omega) (show Mc 710 (1296 + i) = Mb 710 (1296 + i) from (hoMc 710 _ (by omega))) dX13_text_245 ?_
                                refine g_iast' hc ca_710 (by decide) (by omega) (by omega)  dX13_text_246 (fun I12 hI12 => ?_)
                                have hgI12 : ∀ (a : Nat) (c : Int), g32 (I12 a c) := by rw [hI12]; exact x_up32 hgMc (hgMb _ _)
                                have hfI12 : ∀ (a : Nat) (c : Int), ¬ (x_tl (I 0 10)) a c → I12 a c = M a c := fun a c hk => by rw [hI12]; exact (g_up_n (by unfold x_tl x_tq x_fl z_sc at *; omega)).trans (hfMc a c hk)
                                refine g_iinc_3 hc dX13_text_247 rfl ?_
                                refine g_goto (tgt := 211) hc dX13_text_250 (by decide) ?_
                                refine ih_211 _ _ ?_ ?_ ?_ ?_ ?_ ?_
                                · omega
                                · intro c c0 c1
                                  rw [hI12]
                                  by_cases e : c = i
                                  · rw [e, g_up_s]
                                  · rw [g_up_i (by omega)]; exact hcMc c c0 (by omega)
                                · intro a c hk
                                  rw [hI12]
                                  exact (g_up_n (by omega)).trans (hoMc a c hk)
                                · exact hgI12
                                · exact hfI12
                                · omega
                          refine lp_211 433 _ _ ?_ ?_ ?_ ?_ ?_ (?_)
                          · omega
                          · intro c c0 c1; omega
                          · intro a c hk; rfl
                          · exact hgMb
                          · exact hfMb
                          · omega
                        · skip
                          refine g_aldn hc dX13_text_177 rfl ?_
                          refine g_getRk hc lk_X13_40 ca_703 (rc_703_19 hR) dX13_text_178 ?_
                          refine g_aldn hc dX13_text_181 rfl ?_
                          refine g_getIe hc lk_X13_281 ca_703 23 rfl (show Mb 703 23 = I 0 10 from hlMb) dX13_text_182 ?_
                          refine g_bipush hc dX13_text_185 (by decide +kernel) ?_
                          refine g_imul hc dX13_text_187 ?_
                          refine g_iconst hc dX13_text_188 ?_
                          refine g_imul hc dX13_text_189 ?_
                          refine g_iload_n hc dX13_text_190 rfl ?_
                          refine g_iadd hc dX13_text_191 ?_
                          refine g_aldn hc dX13_text_192 rfl ?_
                          refine g_getRk hc lk_X13_40 ca_703 (rc_703_19 hR) dX13_text_193 ?_
                          refine g_sipush hc dX13_text_196 (by decide +kernel) ?_
                          refine g_iload_n hc dX13_text_199 rfl ?_
                          refine g_iadd hc dX13_text_200 ?_
                          refine g_ialde hc ca_709 (by decide) (by omega) (by omega) (show Mb 709 (270 + i) = Ma 709 (270 + i) from (hoMb 709 _ (by omega))) dX13_text_201 ?_
                          refine g_iast' hc ca_709 (by decide) (by omega) (by omega)  dX13_text_202 (fun I13 hI13 => ?_)
                          have hgI13 : ∀ (a : Nat) (c : Int), g32 (I13 a c) := by rw [hI13]; exact x_up32 hgMb (hgMa _ _)
                          have hfI13 : ∀ (a : Nat) (c : Int), ¬ (x_tl (I 0 10)) a c → I13 a c = M a c := fun a c hk => by rw [hI13]; exact (g_up_n (by unfold x_tl x_tq x_fl z_sc at *; omega)).trans (hfMb a c hk)
                          refine g_iinc_3 hc dX13_text_203 rfl ?_
                          refine g_goto (tgt := 171) hc dX13_text_206 (by decide) ?_
                          refine ih_171 _ _ ?_ ?_ ?_ ?_ ?_ ?_
                          · omega
                          · intro c c0 c1
                            rw [hI13]
                            by_cases e : c = i
                            · rw [e, g_up_s]
                            · rw [g_up_i (by omega)]; exact hcMb c c0 (by omega)
                          · intro a c hk
                            rw [hI13]
                            exact (g_up_n (by omega)).trans (hoMb a c hk)
                          · exact hgI13
                          · exact hfI13
                          · omega
                    refine lp_171 91 _ _ ?_ ?_ ?_ ?_ ?_ (?_)
                    · omega
                    · intro c c0 c1; omega
                    · intro a c hk; rfl
                    · exact hgMa
                    · exact hfMa
                    · omega
                  · skip
                    refine g_aldn hc dX13_text_136 rfl ?_
                    refine g_getRk hc lk_X13_37 ca_703 (rc_703_18 hR) dX13_text_137 ?_
                    refine g_aldn hc dX13_text_140 rfl ?_
                    refine g_getIe hc lk_X13_281 ca_703 23 rfl (show Ma 703 23 = I 0 10 from hlMa) dX13_text_141 ?_
                    refine g_bipush hc dX13_text_144 (by decide +kernel) ?_
                    refine g_imul hc dX13_text_146 ?_
                    refine g_bipush hc dX13_text_147 (by decide +kernel) ?_
                    refine g_imul hc dX13_text_149 ?_
                    refine g_iload_n hc dX13_text_150 rfl ?_
                    refine g_iadd hc dX13_text_151 ?_
                    refine g_aldn hc dX13_text_152 rfl ?_
                    refine g_getRk hc lk_X13_37 ca_703 (rc_703_18 hR) dX13_text_153 ?_
                    refine g_sipush hc dX13_text_156 (by decide +kernel) ?_
                    refine g_iload_n hc dX13_text_159 rfl ?_
                    refine g_iadd hc dX13_text_160 ?_
                    refine g_ialde hc ca_708 (by decide) (by omega) (by omega) (show Ma 708 (252 + i) = IA 708 (252 + i) from (hoMa 708 _ (by omega))) dX13_text_161 ?_
                    refine g_iast' hc ca_708 (by decide) (by omega) (by omega)  dX13_text_162 (fun I14 hI14 => ?_)
                    have hgI14 : ∀ (a : Nat) (c : Int), g32 (I14 a c) := by rw [hI14]; exact x_up32 hgMa (hgIA _ _)
                    have hfI14 : ∀ (a : Nat) (c : Int), ¬ (x_tl (I 0 10)) a c → I14 a c = M a c := fun a c hk => by rw [hI14]; exact (g_up_n (by unfold x_tl x_tq x_fl z_sc at *; omega)).trans (hfMa a c hk)
                    refine g_iinc_3 hc dX13_text_163 rfl ?_
                    refine g_goto (tgt := 130) hc dX13_text_166 (by decide) ?_
                    refine ih_130 _ _ ?_ ?_ ?_ ?_ ?_ ?_
                    · omega
                    · intro c c0 c1
                      rw [hI14]
                      by_cases e : c = i
                      · rw [e, g_up_s]
                      · rw [g_up_i (by omega)]; exact hcMa c c0 (by omega)
                    · intro a c hk
                      rw [hI14]
                      exact (g_up_n (by omega)).trans (hoMa a c hk)
                    · exact hgI14
                    · exact hfI14
                    · omega
              refine lp_130 85 _ _ ?_ ?_ ?_ ?_ ?_ (?_)
              · omega
              · intro c c0 c1; omega
              · intro a c hk; rfl
              · exact hgIA
              · exact hfIA
              · omega
            · exfalso; omega
          · skip
            have hv9 : ¬ x_flt I v = -1 := c10
            refine g_iconst hc dX13_text_50 ?_
            refine g_iret hc hm dX13_text_51 ?_
            exact ⟨by rw [if_neg (by omega), if_neg (by omega)], rfl, rfl, ⟨_, hR⟩, hgIF, fun _ _ => hx9, fun z => by omega, fun z => by omega⟩
        · exfalso; omega
