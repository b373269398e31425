/-- the winner as it is found, TASTE after TASTE -/
def x_el (V : Int → Int) (i e v : Int) : Prop := (v = if i = 0 then 0 else V (g_wnn V i.toNat)) ∧ (e = if v = 0 then -1 else g_wnn V i.toNat)
theorem x_wnn1 {V : Int → Int} : g_wnn V (0 + 1 : Int).toNat = 0 := by
  rw [g_wnn_i (by decide)]
  show (if V 0 < V 0 then (0 : Int) else 0) = 0
  split <;> rfl
theorem x_el.up {V : Int → Int} {i e v : Int} (h : x_el V i e v) (h0 : 0 ≤ i) (hv : 0 ≤ v) (hg : v < V i) : x_el V (i + 1) i (V i) := by
  obtain ⟨h1, h2⟩ := h
  have hw : g_wnn V (i + 1).toNat = i := by
    by_cases z : i = 0
    · rw [z]; exact x_wnn1
    · rw [if_neg z] at h1
      rw [g_wnn_i h0, if_pos (by omega)]
  refine ⟨?_, ?_⟩
  · rw [if_neg (by omega), hw]
  · rw [if_neg (by omega), hw]
theorem x_el.keep {V : Int → Int} {i e v : Int} (h : x_el V i e v) (h0 : 0 ≤ i) (hV : 0 ≤ V i) (hg : ¬ v < V i) : x_el V (i + 1) e v := by
  obtain ⟨h1, h2⟩ := h
  by_cases z : i = 0
  · subst z
    rw [if_pos rfl] at h1
    rw [if_pos h1] at h2
    have : V (g_wnn V (0 + 1 : Int).toNat) = V 0 := by rw [x_wnn1]
    refine ⟨?_, ?_⟩
    · rw [if_neg (by omega), this]; omega
    · rw [if_pos h1]; exact h2
  · rw [if_neg z] at h1
    have hw : g_wnn V (i + 1).toNat = g_wnn V i.toNat := by rw [g_wnn_i h0, if_neg (by omega)]
    refine ⟨?_, ?_⟩
    · rw [if_neg (by omega), hw]; exact h1
    · rw [hw]; exact h2
theorem x_wnn_in {V : Int → Int} : ∀ n : Nat, 0 ≤ g_wnn V n ∧ g_wnn V n ≤ n
  | 0 => by rw [g_wnn]; omega
  | n + 1 => by
    have := @x_wnn_in V n
    rw [g_wnn]
    split <;> omega
theorem x_ahd0 {I : g_I} {b : Nat} {t : Int} : g_ahd I b t t = 0 := by
  have := @x_ahd_neg I b t t
  omega
theorem x_cmn {I : g_I} {b : Nat} (hL : g_lok I b) {m : Int} : ∀ n : Nat, (n : Int) ≤ I b 0 → 0 ≤ g_cmn I b m n ∧ g_cmn I b m n ≤ 1023
  | 0, _ => by rw [g_cmn]; omega
  | n + 1, h => by
    obtain ⟨i1, i2⟩ := x_cmn hL (m := m) n (by omega)
    have hf := (hL.2.2.1 n (by omega) (by omega)).2.2.2.2.2.2.2.2
    rw [g_cmn]
    have key : ∀ x : Int, 0 ≤ x → x ≤ 1023 → 0 ≤ g_and (g_cmn I b m n) x ∧ g_and (g_cmn I b m n) x ≤ 1023 := by
      intro x x0 x1
      obtain ⟨a, ha⟩ := Int.eq_ofNat_of_zero_le i1
      obtain ⟨c, hc⟩ := Int.eq_ofNat_of_zero_le x0
      rw [ha, hc, g_and_n (by omega) (by omega)]
      have := Nat.and_le_left (n := a) (m := c)
      omega
    split
    · exact key _ hf.1 hf.2
    · exact key _ (by decide) (by decide)
theorem x_cmn1 {a : Int} (h : 0 ≤ a ∧ a ≤ 1023) : g_and a 1023 = a ∧ g_and a (-1) = a := by
  obtain ⟨n, hn⟩ := Int.eq_ofNat_of_zero_le h.1
  subst hn
  constructor
  · have := g_and_n (a := n) (b := 1023) (by omega) (by decide)
    rw [show ((1023 : Nat) : Int) = 1023 from rfl] at this
    rw [this, show (1023 : Nat) = 2 ^ 10 - 1 from rfl, Nat.and_two_pow_sub_one_eq_mod, Nat.mod_eq_of_lt (by omega)]
  · unfold g_and
    rw [show Int32.ofInt (-1) = -1 from by decide +kernel, Int32.and_neg_one]
    exact Int32.toInt_ofInt_of_le (by omega) (by omega)
set_option maxHeartbeats 4000000 in
set_option maxRecDepth 100000 in
/-- X13_elected -/
theorem c_X13_elected (w : g_W) {I : g_I} {J : g_J} {R : g_R} {lb tx : Nat} (hR : g_rf w R lb tx) {M : g_I} (hmM : q_rel I lb M) {k : Int} (g1 : g32 k) : g_Met w g_n M J R yX13_elected cX13_elected 7 (some .int) 36 0 0 [(gvr w 703), (gvI k)] (x_rel w (some (gvI (if 0 ≤ I 0 12 ∧ ¬ I 0 11 = 0 ∧ 0 ≤ k ∧ k ≤ 1 then g_win I lb (I 0 11) k else -1))) x_a M J lb) := by
  refine g_intro (own := RX13) [some (gvr w 703), some (gvI k), none, none, none, none, none] (by decide +kernel) rfl (by decide) (Nat.le_of_ble_eq_true rfl) rfl (fun i v hv => g_args 5 i v hv rfl) (fun x hc hm => ?_)
  have hfM : ∀ (k : Nat) (j : Int), ¬ x_a k j → M k j = M k j := fun _ _ _ => rfl
  have hI := hmM.gi
  have hTb := q_b1 hmM
  have hLv := hmM.lv
  have hC := hmM.cin
  have hL := hC.1
  obtain ⟨hn0, hn1, hLs, hLf⟩ := id hL
  obtain ⟨-, hC1, hC2, hC3, hC4, hC5, hC6, hC7⟩ := id hC
  have hN0 := q_n0 hmM
  refine g_aldn hc dX13_elected_0 rfl ?_
  refine g_iconst hc dX13_elected_1 ?_
  refine g_putI' hc lk_X13_102 ca_703 0 rfl dX13_elected_2 (fun I3 hI3 => ?_)
  have hmI3 : q_rel I lb I3 := by rw [hI3]; exact q_up hmM (by unfold x_a; omega) (by first | exact hI _ _ | exact hmM.g _ _ | exact g_b32 | exact g_and32 | exact g_or32 | exact g_shl32 | assumption | exact ⟨by omega, by omega⟩)
  have hfI3 : ∀ (k : Nat) (j : Int), ¬ x_a k j → I3 k j = M k j := fun k j hk => by rw [hI3]; exact (g_up_n (by unfold x_a at hk; omega)).trans (hfM k j hk)
  refine g_aldn hc dX13_elected_5 rfl ?_
  refine g_getIe hc lk_X13_52 ca_703 24 rfl (show I3 703 24 = I 0 12 from hmI3.tab) dX13_elected_6 ?_
  refine g_iconst hc dX13_elected_9 ?_
  refine g_icmp_eq (tgt := 30) hc dX13_elected_10 (by decide) (by first | exact hI _ _ | exact hxI2 _ _ | exact hIa _ _ | exact hIb _ _ | exact g_b32 | exact g_and32 | assumption | exact ⟨by omega, by omega⟩) (by first | exact hI _ _ | exact hxI2 _ _ | exact hIa _ _ | exact hIb _ _ | exact g_b32 | exact g_and32 | assumption | exact ⟨by omega, by omega⟩) (fun c1 => ?_) (fun c1 => ?_)
  · skip
    refine g_iconst hc dX13_elected_30 ?_
    refine g_iret hc hm dX13_elected_31 ?_
    exact x_end (by rw [if_neg (by omega)]) hfI3 hmI3.g hR
  · skip
    refine g_aldn hc dX13_elected_13 rfl ?_
    refine g_getIe hc lk_X13_284 ca_703 7 rfl (show I3 703 7 = I 0 11 from hmI3.tas) dX13_elected_14 ?_
    refine g_if_eq (tgt := 30) hc dX13_elected_17 (by decide) (by first | exact hI _ _ | exact hxI2 _ _ | exact hIa _ _ | exact hIb _ _ | exact g_b32 | exact g_and32 | assumption | exact ⟨by omega, by omega⟩) (fun c2 => ?_) (fun c2 => ?_)
    · skip
      refine g_iconst hc dX13_elected_30 ?_
      refine g_iret hc hm dX13_elected_31 ?_
      exact x_end (by rw [if_neg (by omega)]) hfI3 hmI3.g hR
    · skip
      refine g_iload_n hc dX13_elected_20 rfl ?_
      refine g_i2l hc dX13_elected_21 (by first | exact hI _ _ | exact hxI2 _ _ | exact hIa _ _ | exact hIb _ _ | exact g_b32 | exact g_and32 | assumption | exact ⟨by omega, by omega⟩) ?_
      refine g_lconst hc dX13_elected_22 0 (by decide +kernel) ?_
      refine g_lconst hc dX13_elected_23 1 (by decide +kernel) ?_
      refine g_S3r hc (c_X13_isIn w (by first | exact hI _ _ | exact hmM.g _ _ | exact g_b32 | exact g_and32 | exact g_or32 | exact g_shl32 | assumption | exact ⟨by omega, by omega⟩) (by first | exact hI _ _ | exact hmM.g _ _ | exact g_b32 | exact g_and32 | exact g_or32 | exact g_shl32 | assumption | exact ⟨by omega, by omega⟩) (by first | exact hI _ _ | exact hmM.g _ _ | exact g_b32 | exact g_and32 | exact g_or32 | exact g_shl32 | assumption | exact ⟨by omega, by omega⟩)) my_X13_isIn ms_X13_isIn lm_X13_231 rfl (by decide) (Nat.le_of_ble_eq_true rfl) hm dX13_elected_24 ?_
      refine g_ifb_ne (tgt := 32) hc dX13_elected_27 (by decide)  (fun c3 => ?_) (fun c3 => ?_)
      · skip
        have hTs := q_ts hmM (by omega)
        refine g_iconst hc dX13_elected_32 ?_
        refine g_istore_2 hc dX13_elected_33 rfl ?_
        refine g_iconst hc dX13_elected_34 ?_
        refine g_istore_3 hc dX13_elected_35 rfl ?_
        refine g_iconst hc dX13_elected_36 ?_
        refine g_istore_4 hc dX13_elected_37 rfl ?_
        have lp_39 : ∀ (fu : Nat) (best votes i : Int) (Mm : g_I) (Rm : g_R), 0 ≤ i ∧ i ≤ I 0 11 → x_el (fun t => g_vts I lb (I 0 11) t (I lb 0).toNat) i best votes → (0 ≤ votes ∧ votes ≤ 12) → (-1 ≤ best ∧ best < 6) → (∃ tm, g_rf w Rm lb tm) → q_rel I lb Mm → (∀ (k : Nat) (j : Int), ¬ x_a k j → Mm k j = M k j) → I 0 11 - i < (fu : Int) → G w x (x_rel w (some (gvI (if 0 ≤ I 0 12 ∧ ¬ I 0 11 = 0 ∧ 0 ≤ k ∧ k ≤ 1 then g_win I lb (I 0 11) k else -1))) x_a M J lb) 0 0 g_n Mm J Rm 39 [some (gvr w 703), some (gvI k), some (gvI best), some (gvI votes), some (gvI i), none, none] [] := by
          intro fu
          induction fu with
          | zero => intro best votes i Mm Rm h3 h4 h6 h7 hR hmMm hfMm hfu; exfalso; omega
          | succ fu ih =>
            intro best votes i Mm Rm h3 h4 h6 h7 hR hmMm hfMm hfu
            obtain ⟨tm, hR⟩ := hR
            have ih_39 := ih
            refine g_iload hc dX13_elected_39 rfl ?_
            refine g_aldn hc dX13_elected_41 rfl ?_
            refine g_getIe hc lk_X13_284 ca_703 7 rfl (show Mm 703 7 = I 0 11 from hmMm.tas) dX13_elected_42 ?_
            refine g_icmp_ge (tgt := 125) hc dX13_elected_45 (by decide) (by first | exact hI _ _ | exact hxI2 _ _ | exact hIa _ _ | exact hIb _ _ | exact g_b32 | exact g_and32 | assumption | exact ⟨by omega, by omega⟩) (by first | exact hI _ _ | exact hxI2 _ _ | exact hIa _ _ | exact hIb _ _ | exact g_b32 | exact g_and32 | assumption | exact ⟨by omega, by omega⟩) (fun c4 => ?_) (fun c4 => ?_)
            · skip
              have hvx := x_vtb (I := I) (b := lb) (m := (I 0 11)) hn0 (by omega)
              obtain ⟨hx1, hx2⟩ := id h4
              have hxw := @x_wnn_in (fun t => g_vts I lb (I 0 11) t (I lb 0).toNat) (I 0 11).toNat
              rw [if_neg (by omega), show i = I 0 11 by omega] at hx1
              rw [show i = I 0 11 by omega] at hx2
              have hx1b : votes = g_vts I lb (I 0 11) (g_wnn (fun t => g_vts I lb (I 0 11) t (I lb 0).toNat) (I 0 11).toNat) (I lb 0).toNat := hx1
              rw [← hx1b] at hvx
              refine g_iload_n hc dX13_elected_125 rfl ?_
              refine g_iconst hc dX13_elected_126 ?_
              refine g_icmp_ne (tgt := 134) hc dX13_elected_127 (by decide) (by first | exact hI _ _ | exact hxI2 _ _ | exact hIa _ _ | exact hIb _ _ | exact g_b32 | exact g_and32 | assumption | exact ⟨by omega, by omega⟩) (by first | exact hI _ _ | exact hxI2 _ _ | exact hIa _ _ | exact hIb _ _ | exact g_b32 | exact g_and32 | assumption | exact ⟨by omega, by omega⟩) (fun c5 => ?_) (fun c5 => ?_)
              · skip
                refine g_iload_n hc dX13_elected_134 rfl ?_
                refine g_if_ne (tgt := 142) hc dX13_elected_135 (by decide) (by first | exact hI _ _ | exact hxI2 _ _ | exact hIa _ _ | exact hIb _ _ | exact g_b32 | exact g_and32 | assumption | exact ⟨by omega, by omega⟩) (fun c6 => ?_) (fun c6 => ?_)
                · skip
                  refine g_iload_n hc dX13_elected_142 rfl ?_
                  refine g_iret hc hm dX13_elected_143 ?_
                  have hvz : ¬ votes = 0 := fun z => by rw [if_pos z] at hx2; omega
                  exact x_end (by rw [if_pos (by omega), g_win, if_neg (fun z => (hvx.mp z) (by omega)), if_neg (by omega)]; exact hx1) hfMm hmMm.g hR
                · skip
                  refine g_iload_n hc dX13_elected_138 rfl ?_
                  refine g_goto (tgt := 143) hc dX13_elected_139 (by decide) ?_
                  refine g_iret hc hm dX13_elected_143 ?_
                  have hvz : ¬ votes = 0 := fun z => by rw [if_pos z] at hx2; omega
                  exact x_end (by rw [if_pos (by omega), g_win, if_neg (fun z => (hvx.mp z) (by omega)), if_pos (by omega)]; rw [hx2, if_neg hvz]) hfMm hmMm.g hR
              · skip
                refine g_iconst hc dX13_elected_130 ?_
                refine g_goto (tgt := 143) hc dX13_elected_131 (by decide) ?_
                refine g_iret hc hm dX13_elected_143 ?_
                exact x_end (by rw [if_pos (by omega), g_win, if_pos (hvx.mpr (by split at hx2 <;> omega))]) hfMm hmMm.g hR
            · skip
              refine g_iconst hc dX13_elected_48 ?_
              refine g_istore_5 hc dX13_elected_49 rfl ?_
              refine g_iconst hc dX13_elected_51 ?_
              refine g_istore_6 hc dX13_elected_52 rfl ?_
              have lp_54 : ∀ (fu : Nat) (n t : Int) (Mm : g_I) (Rm : g_R), 0 ≤ t ∧ t ≤ I lb 0 → n = g_vts I lb (I 0 11) i t.toNat → (0 ≤ n ∧ n ≤ t) → (∃ tm, g_rf w Rm lb tm) → q_rel I lb Mm → (∀ (k : Nat) (j : Int), ¬ x_a k j → Mm k j = M k j) → I lb 0 - t < (fu : Int) → G w x (x_rel w (some (gvI (if 0 ≤ I 0 12 ∧ ¬ I 0 11 = 0 ∧ 0 ≤ k ∧ k ≤ 1 then g_win I lb (I 0 11) k else -1))) x_a M J lb) 0 0 g_n Mm J Rm 54 [some (gvr w 703), some (gvI k), some (gvI best), some (gvI votes), some (gvI i), some (gvI n), some (gvI t)] [] := by
                intro fu
                induction fu with
                | zero => intro n t Mm Rm k3 k4 k5 hR hmMm hfMm hfu; exfalso; omega
                | succ fu ih =>
                  intro n t Mm Rm k3 k4 k5 hR hmMm hfMm hfu
                  obtain ⟨tm, hR⟩ := hR
                  have ih_54 := ih
                  refine g_iload hc dX13_elected_54 rfl ?_
                  refine g_aldn hc dX13_elected_56 rfl ?_
                  refine g_getRk hc lk_X13_46 ca_703 (rc_703_21 hR) dX13_elected_57 ?_
                  refine g_aldn hc dX13_elected_60 rfl ?_
                  refine g_getIe hc lk_X13_52 ca_703 24 rfl (show Mm 703 24 = I 0 12 from hmMm.tab) dX13_elected_61 ?_
                  refine g_ialde hc ca_711 (by decide) (by omega) (by omega) (show Mm 711 (I 0 12) = I lb 0 from q_lm hmMm (by omega)) dX13_elected_64 ?_
                  refine g_icmp_ge (tgt := 104) hc dX13_elected_65 (by decide) (by first | exact hI _ _ | exact hxI2 _ _ | exact hIa _ _ | exact hIb _ _ | exact g_b32 | exact g_and32 | assumption | exact ⟨by omega, by omega⟩) (by first | exact hI _ _ | exact hxI2 _ _ | exact hIa _ _ | exact hIb _ _ | exact g_b32 | exact g_and32 | assumption | exact ⟨by omega, by omega⟩) (fun c7 => ?_) (fun c7 => ?_)
                  · skip
                    have hnv : n = (fun t => g_vts I lb (I 0 11) t (I lb 0).toNat) i := by rw [k4, show I lb 0 = t by omega]
                    have hnv0 : n = g_vts I lb (I 0 11) i (I lb 0).toNat := hnv
                    refine g_iload hc dX13_elected_104 rfl ?_
                    refine g_iload_n hc dX13_elected_106 rfl ?_
                    refine g_icmp_gt (tgt := 113) hc dX13_elected_107 (by decide) (by first | exact hI _ _ | exact hxI2 _ _ | exact hIa _ _ | exact hIb _ _ | exact g_b32 | exact g_and32 | assumption | exact ⟨by omega, by omega⟩) (by first | exact hI _ _ | exact hxI2 _ _ | exact hIa _ _ | exact hIb _ _ | exact g_b32 | exact g_and32 | assumption | exact ⟨by omega, by omega⟩) (fun c8 => ?_) (fun c8 => ?_)
                    · skip
                      have hgt : votes < n := c8
                      refine g_iload hc dX13_elected_113 rfl ?_
                      refine g_istore_2 hc dX13_elected_115 rfl ?_
                      refine g_iload hc dX13_elected_116 rfl ?_
                      refine g_istore_3 hc dX13_elected_118 rfl ?_
                      refine g_iinc_4 hc dX13_elected_119 rfl ?_
                      refine g_goto (tgt := 39) hc dX13_elected_122 (by decide) ?_
                      refine G_sub (L' := [some (gvr w 703), some (gvI k), some (gvI i), some (gvI n), some (gvI (i + 1)), none, none]) (show g_le _ _ from ⟨rfl, ⟨rfl, ⟨rfl, ⟨rfl, ⟨rfl, trivial⟩⟩⟩⟩⟩) ?_
                      refine ih_39 _ _ _ _ _ ?_ ?_ ?_ ?_ ?_ ?_ ?_ ?_
                      · omega
                      · rw [hnv]; exact h4.up h3.1 h6.1 (by show votes < g_vts I lb (I 0 11) i (I lb 0).toNat; omega)
                      · omega
                      · omega
                      · exact ⟨_, hR⟩
                      · exact hmMm
                      · exact hfMm
                      · omega
                    · skip
                      have hgt : ¬ votes < n := c8
                      refine g_goto (tgt := 119) hc dX13_elected_110 (by decide) ?_
                      refine g_iinc_4 hc dX13_elected_119 rfl ?_
                      refine g_goto (tgt := 39) hc dX13_elected_122 (by decide) ?_
                      refine G_sub (L' := [some (gvr w 703), some (gvI k), some (gvI best), some (gvI votes), some (gvI (i + 1)), none, none]) (show g_le _ _ from ⟨rfl, ⟨rfl, ⟨rfl, ⟨rfl, ⟨rfl, trivial⟩⟩⟩⟩⟩) ?_
                      refine ih_39 _ _ _ _ _ ?_ ?_ ?_ ?_ ?_ ?_ ?_ ?_
                      · omega
                      · exact h4.keep h3.1 (by show 0 ≤ g_vts I lb (I 0 11) i (I lb 0).toNat; omega) (by show ¬ votes < g_vts I lb (I 0 11) i (I lb 0).toNat; omega)
                      · omega
                      · omega
                      · exact ⟨_, hR⟩
                      · exact hmMm
                      · exact hfMm
                      · omega
                  · skip
                    refine g_iload hc dX13_elected_68 rfl ?_
                    refine g_aldn hc dX13_elected_70 rfl ?_
                    refine g_iload hc dX13_elected_71 rfl ?_
                    refine g_V1 hc (c_X13_isVoter w hR hmMm (by omega)) my_X13_isVoter mv_X13_isVoter ca_703 rfl rfl lm_X13_418 rfl (by decide) (Nat.le_of_ble_eq_true rfl) hm dX13_elected_73 (fun r4 n4 I4 J4 R4 hp4 => ?_)
                    obtain ⟨rfl, rfl, hK4, hX4, rfl, t4, hR⟩ := hp4
                    have hmI4 : q_rel I lb I4 := q_cg (fun k j hk => hK4 k j (fun z => hk (x_wa z))) hX4 hmMm
                    have hfI4 : ∀ (k : Nat) (j : Int), ¬ x_a k j → I4 k j = M k j := fun k j hk => (hK4 k j (fun z => hk (x_wa z))).trans (hfMm k j hk)
                    refine g_ifb_eq (tgt := 94) hc dX13_elected_76 (by decide)  (fun c9 => ?_) (fun c9 => ?_)
                    · skip
                      have hno : ¬ (g_vtr I lb t ∧ g_vfn I lb t (I 0 11).toNat = i) := fun z => c9 z.1
                      refine g_iconst hc dX13_elected_94 ?_
                      refine g_iadd hc dX13_elected_95 ?_
                      refine g_istore_5 hc dX13_elected_96 rfl ?_
                      refine g_iinc_6 hc dX13_elected_98 rfl ?_
                      refine g_goto (tgt := 54) hc dX13_elected_101 (by decide) ?_
                      refine ih_54 _ _ _ _ ?_ ?_ ?_ ?_ ?_ ?_ ?_
                      · omega
                      · rw [g_vts, g_sum_i k3.1, k4, g_vts, if_neg hno]
                      · omega
                      · exact ⟨_, hR⟩
                      · exact hmI4
                      · exact hfI4
                      · omega
                    · skip
                      have hvt := c9
                      refine g_aldn hc dX13_elected_79 rfl ?_
                      refine g_iload hc dX13_elected_80 rfl ?_
                      have hvf := g_vfn_in (I := I) (b := lb) (s := t) (I 0 11).toNat (by omega)
                      refine g_V1 hc (c_X13_motionFor w hR hmI4 (by omega) (by omega)) my_X13_motionFor mv_X13_motionFor ca_703 rfl rfl lm_X13_421 rfl (by decide) (Nat.le_of_ble_eq_true rfl) hm dX13_elected_82 (fun r5 n5 I5 J5 R5 hp5 => ?_)
                      obtain ⟨rfl, rfl, hK5, hX5, rfl, t5, hR⟩ := hp5
                      have hmI5 : q_rel I lb I5 := q_cg hK5 hX5 hmI4
                      have hfI5 : ∀ (k : Nat) (j : Int), ¬ x_a k j → I5 k j = M k j := fun k j hk => (hK5 k j hk).trans (hfI4 k j hk)
                      refine g_iload hc dX13_elected_85 rfl ?_
                      refine g_icmp_ne (tgt := 94) hc dX13_elected_87 (by decide) (by first | exact hI _ _ | exact hxI2 _ _ | exact hIa _ _ | exact hIb _ _ | exact g_b32 | exact g_and32 | assumption | exact ⟨by omega, by omega⟩) (by first | exact hI _ _ | exact hxI2 _ _ | exact hIa _ _ | exact hIb _ _ | exact g_b32 | exact g_and32 | assumption | exact ⟨by omega, by omega⟩) (fun c10 => ?_) (fun c10 => ?_)
                      · skip
                        have hno : ¬ (g_vtr I lb t ∧ g_vfn I lb t (I 0 11).toNat = i) := fun z => c10 z.2
                        refine g_iconst hc dX13_elected_94 ?_
                        refine g_iadd hc dX13_elected_95 ?_
                        refine g_istore_5 hc dX13_elected_96 rfl ?_
                        refine g_iinc_6 hc dX13_elected_98 rfl ?_
                        refine g_goto (tgt := 54) hc dX13_elected_101 (by decide) ?_
                        refine ih_54 _ _ _ _ ?_ ?_ ?_ ?_ ?_ ?_ ?_
                        · omega
                        · rw [g_vts, g_sum_i k3.1, k4, g_vts, if_neg hno]
                        · omega
                        · exact ⟨_, hR⟩
                        · exact hmI5
                        · exact hfI5
                        · omega
                      · skip
                        have hyes : (g_vtr I lb t ∧ g_vfn I lb t (I 0 11).toNat = i) := ⟨hvt, c10⟩
                        refine g_iconst hc dX13_elected_90 ?_
                        refine g_goto (tgt := 95) hc dX13_elected_91 (by decide) ?_
                        refine g_iadd hc dX13_elected_95 ?_
                        refine g_istore_5 hc dX13_elected_96 rfl ?_
                        refine g_iinc_6 hc dX13_elected_98 rfl ?_
                        refine g_goto (tgt := 54) hc dX13_elected_101 (by decide) ?_
                        refine ih_54 _ _ _ _ ?_ ?_ ?_ ?_ ?_ ?_ ?_
                        · omega
                        · rw [g_vts, g_sum_i k3.1, k4, g_vts, if_pos hyes]
                        · omega
                        · exact ⟨_, hR⟩
                        · exact hmI5
                        · exact hfI5
                        · omega
              refine lp_54 13 _ _ _ _ ?_ ?_ ?_ ?_ ?_ ?_ (?_)
              · omega
              · rfl
              · omega
              · exact ⟨_, hR⟩
              · exact hmMm
              · exact hfMm
              · omega
        refine lp_39 7 _ _ _ _ _ ?_ ?_ ?_ ?_ ?_ ?_ ?_ (?_)
        · omega
        · exact ⟨by rw [if_pos rfl], by rw [if_pos rfl]⟩
        · omega
        · omega
        · exact ⟨_, hR⟩
        · exact hmI3
        · exact hfI3
        · omega
      · skip
        refine g_iconst hc dX13_elected_30 ?_
        refine g_iret hc hm dX13_elected_31 ?_
        exact x_end (by rw [if_neg (by omega)]) hfI3 hmI3.g hR
set_option maxHeartbeats 4000000 in
set_option maxRecDepth 100000 in
/-- X13_beats -/
theorem c_X13_beats (w : g_W) {I : g_I} {J : g_J} {R : g_R} {lb tx : Nat} (hR : g_rf w R lb tx) {M : g_I} (hmM : q_rel I lb M)  : g_Met w g_n M J R yX13_beats cX13_beats 4 (some .int) 36 0 0 [(gvr w 703)] (x_rel w (some (gvI (if 0 ≤ I 0 12 ∧ 2 ≤ I 0 11 then g_bta I lb (I 0 11) else -1))) x_a M J lb) := by
  refine g_intro (own := RX13) [some (gvr w 703), none, none, none] (by decide +kernel) rfl (by decide) (Nat.le_of_ble_eq_true rfl) rfl (fun i v hv => g_args 3 i v hv rfl) (fun x hc hm => ?_)
  have hfM : ∀ (k : Nat) (j : Int), ¬ x_a k j → M k j = M k j := fun _ _ _ => rfl
  have hI := hmM.gi
  have hTb := q_b1 hmM
  have hLv := hmM.lv
  have hC := hmM.cin
  have hL := hC.1
  obtain ⟨hn0, hn1, hLs, hLf⟩ := id hL
  obtain ⟨-, hC1, hC2, hC3, hC4, hC5, hC6, hC7⟩ := id hC
  have hN0 := q_n0 hmM
  refine g_aldn hc dX13_beats_0 rfl ?_
  refine g_iconst hc dX13_beats_1 ?_
  refine g_putI' hc lk_X13_102 ca_703 0 rfl dX13_beats_2 (fun I3 hI3 => ?_)
  have hmI3 : q_rel I lb I3 := by rw [hI3]; exact q_up hmM (by unfold x_a; omega) (by first | exact hI _ _ | exact hmM.g _ _ | exact g_b32 | exact g_and32 | exact g_or32 | exact g_shl32 | assumption | exact ⟨by omega, by omega⟩)
  have hfI3 : ∀ (k : Nat) (j : Int), ¬ x_a k j → I3 k j = M k j := fun k j hk => by rw [hI3]; exact (g_up_n (by unfold x_a at hk; omega)).trans (hfM k j hk)
  refine g_aldn hc dX13_beats_5 rfl ?_
  refine g_getIe hc lk_X13_52 ca_703 24 rfl (show I3 703 24 = I 0 12 from hmI3.tab) dX13_beats_6 ?_
  refine g_iconst hc dX13_beats_9 ?_
  refine g_icmp_eq (tgt := 21) hc dX13_beats_10 (by decide) (by first | exact hI _ _ | exact hxI2 _ _ | exact hIa _ _ | exact hIb _ _ | exact g_b32 | exact g_and32 | assumption | exact ⟨by omega, by omega⟩) (by first | exact hI _ _ | exact hxI2 _ _ | exact hIa _ _ | exact hIb _ _ | exact g_b32 | exact g_and32 | assumption | exact ⟨by omega, by omega⟩) (fun c1 => ?_) (fun c1 => ?_)
  · skip
    refine g_iconst hc dX13_beats_21 ?_
    refine g_iret hc hm dX13_beats_22 ?_
    exact x_end (by rw [if_neg (by omega)]) hfI3 hmI3.g hR
  · skip
    have hTs := q_ts hmM (by omega)
    refine g_aldn hc dX13_beats_13 rfl ?_
    refine g_getIe hc lk_X13_284 ca_703 7 rfl (show I3 703 7 = I 0 11 from hmI3.tas) dX13_beats_14 ?_
    refine g_iconst hc dX13_beats_17 ?_
    refine g_icmp_ge (tgt := 23) hc dX13_beats_18 (by decide) (by first | exact hI _ _ | exact hxI2 _ _ | exact hIa _ _ | exact hIb _ _ | exact g_b32 | exact g_and32 | assumption | exact ⟨by omega, by omega⟩) (by first | exact hI _ _ | exact hxI2 _ _ | exact hIa _ _ | exact hIb _ _ | exact g_b32 | exact g_and32 | assumption | exact ⟨by omega, by omega⟩) (fun c2 => ?_) (fun c2 => ?_)
    · skip
      refine g_iconst hc dX13_beats_23 ?_
      refine g_istore_1 hc dX13_beats_24 rfl ?_
      have lp_25 : ∀ (fu : Nat) (i : Int) (Mm : g_I) (Rm : g_R), 0 ≤ i ∧ i ≤ I 0 11 → g_bta I lb (I 0 11) = g_first (fun t => g_btw I lb (I 0 11) t) (I 0 11 - i).toNat i → (∃ tm, g_rf w Rm lb tm) → q_rel I lb Mm → (∀ (k : Nat) (j : Int), ¬ x_a k j → Mm k j = M k j) → I 0 11 - i < (fu : Int) → G w x (x_rel w (some (gvI (if 0 ≤ I 0 12 ∧ 2 ≤ I 0 11 then g_bta I lb (I 0 11) else -1))) x_a M J lb) 0 0 g_n Mm J Rm 25 [some (gvr w 703), some (gvI i), none, none] [] := by
        intro fu
        induction fu with
        | zero => intro i Mm Rm h3 h4 hR hmMm hfMm hfu; exfalso; omega
        | succ fu ih =>
          intro i Mm Rm h3 h4 hR hmMm hfMm hfu
          obtain ⟨tm, hR⟩ := hR
          have ih_25 := ih
          refine g_iload_n hc dX13_beats_25 rfl ?_
          refine g_aldn hc dX13_beats_26 rfl ?_
          refine g_getIe hc lk_X13_284 ca_703 7 rfl (show Mm 703 7 = I 0 11 from hmMm.tas) dX13_beats_27 ?_
          refine g_icmp_ge (tgt := 87) hc dX13_beats_30 (by decide) (by first | exact hI _ _ | exact hxI2 _ _ | exact hIa _ _ | exact hIb _ _ | exact g_b32 | exact g_and32 | assumption | exact ⟨by omega, by omega⟩) (by first | exact hI _ _ | exact hxI2 _ _ | exact hIa _ _ | exact hIb _ _ | exact g_b32 | exact g_and32 | assumption | exact ⟨by omega, by omega⟩) (fun c3 => ?_) (fun c3 => ?_)
          · skip
            refine g_iconst hc dX13_beats_87 ?_
            refine g_iret hc hm dX13_beats_88 ?_
            exact x_end (by rw [if_pos (by omega), h4, g_first_e (by omega)]) hfMm hmMm.g hR
          · skip
            refine g_iconst hc dX13_beats_33 ?_
            refine g_istore_2 hc dX13_beats_34 rfl ?_
            refine g_iconst hc dX13_beats_35 ?_
            refine g_istore_3 hc dX13_beats_36 rfl ?_
            have lp_37 : ∀ (fu : Nat) (z t : Int) (Mm : g_I) (Rm : g_R), 0 ≤ t ∧ t ≤ I 0 11 → (z = 1 ∧ g_btw I lb (I 0 11) i = g_all (fun q => decide (q = i ∨ 0 < g_ahd I lb i q)) (I 0 11 - t).toNat t ∨ z = 0 ∧ g_btw I lb (I 0 11) i = false) → (∃ tm, g_rf w Rm lb tm) → q_rel I lb Mm → (∀ (k : Nat) (j : Int), ¬ x_a k j → Mm k j = M k j) → I 0 11 - t < (fu : Int) → G w x (x_rel w (some (gvI (if 0 ≤ I 0 12 ∧ 2 ≤ I 0 11 then g_bta I lb (I 0 11) else -1))) x_a M J lb) 0 0 g_n Mm J Rm 37 [some (gvr w 703), some (gvI i), some (gvI z), some (gvI t)] [] := by
              intro fu
              induction fu with
              | zero => intro z t Mm Rm h5 h6 hR hmMm hfMm hfu; exfalso; omega
              | succ fu ih =>
                intro z t Mm Rm h5 h6 hR hmMm hfMm hfu
                obtain ⟨tm, hR⟩ := hR
                have ih_37 := ih
                refine g_iload_n hc dX13_beats_37 rfl ?_
                refine g_aldn hc dX13_beats_38 rfl ?_
                refine g_getIe hc lk_X13_284 ca_703 7 rfl (show Mm 703 7 = I 0 11 from hmMm.tas) dX13_beats_39 ?_
                refine g_icmp_ge (tgt := 75) hc dX13_beats_42 (by decide) (by first | exact hI _ _ | exact hxI2 _ _ | exact hIa _ _ | exact hIb _ _ | exact g_b32 | exact g_and32 | assumption | exact ⟨by omega, by omega⟩) (by first | exact hI _ _ | exact hxI2 _ _ | exact hIa _ _ | exact hIb _ _ | exact g_b32 | exact g_and32 | assumption | exact ⟨by omega, by omega⟩) (fun c4 => ?_) (fun c4 => ?_)
                · skip
                  refine g_iload_n hc dX13_beats_75 rfl ?_
                  refine g_if_eq (tgt := 81) hc dX13_beats_76 (by decide) (by first | exact hI _ _ | exact hxI2 _ _ | exact hIa _ _ | exact hIb _ _ | exact g_b32 | exact g_and32 | assumption | exact ⟨by omega, by omega⟩) (fun c5 => ?_) (fun c5 => ?_)
                  · skip
                    have hnb : ¬ g_btw I lb (I 0 11) i = true := by
                      rcases h6 with z9 | z9
                      · omega
                      · rw [z9.2]; decide
                    refine g_iinc_1 hc dX13_beats_81 rfl ?_
                    refine g_goto (tgt := 25) hc dX13_beats_84 (by decide) ?_
                    refine G_sub (L' := [some (gvr w 703), some (gvI (i + 1)), none, none]) (show g_le _ _ from ⟨rfl, ⟨rfl, trivial⟩⟩) ?_
                    refine ih_25 _ _ _ ?_ ?_ ?_ ?_ ?_ ?_
                    · omega
                    · rw [h4, g_first_f (by omega) hnb]
                    · exact ⟨_, hR⟩
                    · exact hmMm
                    · exact hfMm
                    · omega
                  · skip
                    have hyb : g_btw I lb (I 0 11) i = true := by
                      rcases h6 with z9 | z9
                      · rw [z9.2, g_all_e (by omega)]
                      · omega
                    refine g_iload_n hc dX13_beats_79 rfl ?_
                    refine g_iret hc hm dX13_beats_80 ?_
                    exact x_end (by rw [if_pos (by omega), h4, g_first_t (by omega) hyb]) hfMm hmMm.g hR
                · skip
                  refine g_iload_n hc dX13_beats_45 rfl ?_
                  refine g_if_eq (tgt := 67) hc dX13_beats_46 (by decide) (by first | exact hI _ _ | exact hxI2 _ _ | exact hIa _ _ | exact hIb _ _ | exact g_b32 | exact g_and32 | assumption | exact ⟨by omega, by omega⟩) (fun c6 => ?_) (fun c6 => ?_)
                  · skip
                    have hst9 : ((0 : Int) = 1 ∧ g_btw I lb (I 0 11) i = g_all (fun q => decide (q = i ∨ 0 < g_ahd I lb i q)) (I 0 11 - (t + 1)).toNat (t + 1) ∨ (0 : Int) = 0 ∧ g_btw I lb (I 0 11) i = false) := by
                      rcases h6 with z9 | z9
                      · omega
                      · exact Or.inr ⟨rfl, z9.2⟩
                    refine g_iconst hc dX13_beats_67 ?_
                    refine g_istore_2 hc dX13_beats_68 rfl ?_
                    refine g_iinc_3 hc dX13_beats_69 rfl ?_
                    refine g_goto (tgt := 37) hc dX13_beats_72 (by decide) ?_
                    refine ih_37 _ _ _ _ ?_ ?_ ?_ ?_ ?_ ?_
                    · omega
                    · exact hst9
                    · exact ⟨_, hR⟩
                    · exact hmMm
                    · exact hfMm
                    · omega
                  · skip
                    have hz1 : g_btw I lb (I 0 11) i = g_all (fun q => decide (q = i ∨ 0 < g_ahd I lb i q)) (I 0 11 - t).toNat t := by
                      rcases h6 with z9 | z9
                      · exact z9.2
                      · omega
                    refine g_iload_n hc dX13_beats_49 rfl ?_
                    refine g_iload_n hc dX13_beats_50 rfl ?_
                    refine g_icmp_eq (tgt := 63) hc dX13_beats_51 (by decide) (by first | exact hI _ _ | exact hxI2 _ _ | exact hIa _ _ | exact hIb _ _ | exact g_b32 | exact g_and32 | assumption | exact ⟨by omega, by omega⟩) (by first | exact hI _ _ | exact hxI2 _ _ | exact hIa _ _ | exact hIb _ _ | exact g_b32 | exact g_and32 | assumption | exact ⟨by omega, by omega⟩) (fun c7 => ?_) (fun c7 => ?_)
                    · skip
                      have hst9 : ((1 : Int) = 1 ∧ g_btw I lb (I 0 11) i = g_all (fun q => decide (q = i ∨ 0 < g_ahd I lb i q)) (I 0 11 - (t + 1)).toNat (t + 1) ∨ (1 : Int) = 0 ∧ g_btw I lb (I 0 11) i = false) := Or.inl ⟨rfl, by rw [hz1, g_all_t (by omega) (decide_eq_true (Or.inl (by omega)))]⟩
                      refine g_iconst hc dX13_beats_63 ?_
                      refine g_goto (tgt := 68) hc dX13_beats_64 (by decide) ?_
                      refine g_istore_2 hc dX13_beats_68 rfl ?_
                      refine g_iinc_3 hc dX13_beats_69 rfl ?_
                      refine g_goto (tgt := 37) hc dX13_beats_72 (by decide) ?_
                      refine ih_37 _ _ _ _ ?_ ?_ ?_ ?_ ?_ ?_
                      · omega
                      · exact hst9
                      · exact ⟨_, hR⟩
                      · exact hmMm
                      · exact hfMm
                      · omega
                    · skip
                      refine g_aldn hc dX13_beats_54 rfl ?_
                      refine g_iload_n hc dX13_beats_55 rfl ?_
                      refine g_iload_n hc dX13_beats_56 rfl ?_
                      refine g_V2 hc (c_X13_duelOf w hR hmMm (by omega) (by omega) (by omega)) my_X13_duelOf mv_X13_duelOf ca_703 rfl rfl lm_X13_430 rfl (by decide) (Nat.le_of_ble_eq_true rfl) hm dX13_beats_57 (fun r4 n4 I4 J4 R4 hp4 => ?_)
                      obtain ⟨rfl, rfl, hK4, hX4, rfl, t4, hR⟩ := hp4
                      have hmI4 : q_rel I lb I4 := q_cg hK4 hX4 hmMm
                      have hfI4 : ∀ (k : Nat) (j : Int), ¬ x_a k j → I4 k j = M k j := fun k j hk => (hK4 k j hk).trans (hfMm k j hk)
                      have hah := g_ahd_in (I := I) (b := lb) (t := i) (q := t) hn0
                      refine g_if_le (tgt := 67) hc dX13_beats_60 (by decide) (by first | exact hI _ _ | exact hxI2 _ _ | exact hIa _ _ | exact hIb _ _ | exact g_b32 | exact g_and32 | assumption | exact ⟨by omega, by omega⟩) (fun c8 => ?_) (fun c8 => ?_)
                      · skip
                        have hst9 : ((0 : Int) = 1 ∧ g_btw I lb (I 0 11) i = g_all (fun q => decide (q = i ∨ 0 < g_ahd I lb i q)) (I 0 11 - (t + 1)).toNat (t + 1) ∨ (0 : Int) = 0 ∧ g_btw I lb (I 0 11) i = false) := Or.inr ⟨rfl, by rw [hz1, g_all_f (by omega) (fun z => by have := of_decide_eq_true z; omega)]⟩
                        refine g_iconst hc dX13_beats_67 ?_
                        refine g_istore_2 hc dX13_beats_68 rfl ?_
                        refine g_iinc_3 hc dX13_beats_69 rfl ?_
                        refine g_goto (tgt := 37) hc dX13_beats_72 (by decide) ?_
                        refine ih_37 _ _ _ _ ?_ ?_ ?_ ?_ ?_ ?_
                        · omega
                        · exact hst9
                        · exact ⟨_, hR⟩
                        · exact hmI4
                        · exact hfI4
                        · omega
                      · skip
                        have hst9 : ((1 : Int) = 1 ∧ g_btw I lb (I 0 11) i = g_all (fun q => decide (q = i ∨ 0 < g_ahd I lb i q)) (I 0 11 - (t + 1)).toNat (t + 1) ∨ (1 : Int) = 0 ∧ g_btw I lb (I 0 11) i = false) := Or.inl ⟨rfl, by rw [hz1, g_all_t (by omega) (decide_eq_true (Or.inr (by omega)))]⟩
                        refine g_iconst hc dX13_beats_63 ?_
                        refine g_goto (tgt := 68) hc dX13_beats_64 (by decide) ?_
                        refine g_istore_2 hc dX13_beats_68 rfl ?_
                        refine g_iinc_3 hc dX13_beats_69 rfl ?_
                        refine g_goto (tgt := 37) hc dX13_beats_72 (by decide) ?_
                        refine ih_37 _ _ _ _ ?_ ?_ ?_ ?_ ?_ ?_
                        · omega
                        · exact hst9
                        · exact ⟨_, hR⟩
                        · exact hmI4
                        · exact hfI4
                        · omega
            refine lp_37 7 _ _ _ _ ?_ ?_ ?_ ?_ ?_ (?_)
            · omega
            · exact Or.inl ⟨rfl, by rw [Int.sub_zero]; rfl⟩
            · exact ⟨_, hR⟩
            · exact hmMm
            · exact hfMm
            · omega
      refine lp_25 7 _ _ _ ?_ ?_ ?_ ?_ ?_ (?_)
      · omega
      · rw [Int.sub_zero]; rfl
      · exact ⟨_, hR⟩
      · exact hmI3
      · exact hfI3
      · omega
    · skip
      refine g_iconst hc dX13_beats_21 ?_
      refine g_iret hc hm dX13_beats_22 ?_
      exact x_end (by rw [if_neg (by omega)]) hfI3 hmI3.g hR
set_option maxHeartbeats 4000000 in
set_option maxRecDepth 100000 in
/-- X13_ring -/
theorem c_X13_ring (w : g_W) {I : g_I} {J : g_J} {R : g_R} {lb tx : Nat} (hR : g_rf w R lb tx) {M : g_I} (hmM : q_rel I lb M)  : g_Met w g_n M J R yX13_ring cX13_ring 4 (some .int) 36 0 0 [(gvr w 703)] (x_rel w (some (gvI (if 0 ≤ I 0 12 then g_rng I lb (I 0 11) else -1))) x_a M J lb) := by
  refine g_intro (own := RX13) [some (gvr w 703), none, none, none] (by decide +kernel) rfl (by decide) (Nat.le_of_ble_eq_true rfl) rfl (fun i v hv => g_args 3 i v hv rfl) (fun x hc hm => ?_)
  have hfM : ∀ (k : Nat) (j : Int), ¬ x_a k j → M k j = M k j := fun _ _ _ => rfl
  have hI := hmM.gi
  have hTb := q_b1 hmM
  have hLv := hmM.lv
  have hC := hmM.cin
  have hL := hC.1
  obtain ⟨hn0, hn1, hLs, hLf⟩ := id hL
  obtain ⟨-, hC1, hC2, hC3, hC4, hC5, hC6, hC7⟩ := id hC
  have hN0 := q_n0 hmM
  refine g_aldn hc dX13_ring_0 rfl ?_
  refine g_iconst hc dX13_ring_1 ?_
  refine g_putI' hc lk_X13_102 ca_703 0 rfl dX13_ring_2 (fun I3 hI3 => ?_)
  have hmI3 : q_rel I lb I3 := by rw [hI3]; exact q_up hmM (by unfold x_a; omega) (by first | exact hI _ _ | exact hmM.g _ _ | exact g_b32 | exact g_and32 | exact g_or32 | exact g_shl32 | assumption | exact ⟨by omega, by omega⟩)
  have hfI3 : ∀ (k : Nat) (j : Int), ¬ x_a k j → I3 k j = M k j := fun k j hk => by rw [hI3]; exact (g_up_n (by unfold x_a at hk; omega)).trans (hfM k j hk)
  refine g_aldn hc dX13_ring_5 rfl ?_
  refine g_getIe hc lk_X13_52 ca_703 24 rfl (show I3 703 24 = I 0 12 from hmI3.tab) dX13_ring_6 ?_
  refine g_iconst hc dX13_ring_9 ?_
  refine g_icmp_ne (tgt := 15) hc dX13_ring_10 (by decide) (by first | exact hI _ _ | exact hxI2 _ _ | exact hIa _ _ | exact hIb _ _ | exact g_b32 | exact g_and32 | assumption | exact ⟨by omega, by omega⟩) (by first | exact hI _ _ | exact hxI2 _ _ | exact hIa _ _ | exact hIb _ _ | exact g_b32 | exact g_and32 | assumption | exact ⟨by omega, by omega⟩) (fun c1 => ?_) (fun c1 => ?_)
  · skip
    have hTs := q_ts hmM (by omega)
    refine g_iconst hc dX13_ring_15 ?_
    refine g_istore_1 hc dX13_ring_16 rfl ?_
    have lp_17 : ∀ (fu : Nat) (a : Int) (Mm : g_I) (Rm : g_R), 0 ≤ a ∧ a ≤ I 0 11 → g_rn3 I lb (I 0 11) = g_first (fun t => decide (¬ g_rn2 I lb (I 0 11) t = -1)) (I 0 11 - a).toNat a → (∃ tm, g_rf w Rm lb tm) → q_rel I lb Mm → (∀ (k : Nat) (j : Int), ¬ x_a k j → Mm k j = M k j) → I 0 11 - a < (fu : Int) → G w x (x_rel w (some (gvI (if 0 ≤ I 0 12 then g_rng I lb (I 0 11) else -1))) x_a M J lb) 0 0 g_n Mm J Rm 17 [some (gvr w 703), some (gvI a), none, none] [] := by
      intro fu
      induction fu with
      | zero => intro a Mm Rm h3 h4 hR hmMm hfMm hfu; exfalso; omega
      | succ fu ih =>
        intro a Mm Rm h3 h4 hR hmMm hfMm hfu
        obtain ⟨tm, hR⟩ := hR
        have ih_17 := ih
        refine g_iload_n hc dX13_ring_17 rfl ?_
        refine g_aldn hc dX13_ring_18 rfl ?_
        refine g_getIe hc lk_X13_284 ca_703 7 rfl (show Mm 703 7 = I 0 11 from hmMm.tas) dX13_ring_19 ?_
        refine g_icmp_ge (tgt := 120) hc dX13_ring_22 (by decide) (by first | exact hI _ _ | exact hxI2 _ _ | exact hIa _ _ | exact hIb _ _ | exact g_b32 | exact g_and32 | assumption | exact ⟨by omega, by omega⟩) (by first | exact hI _ _ | exact hxI2 _ _ | exact hIa _ _ | exact hIb _ _ | exact g_b32 | exact g_and32 | assumption | exact ⟨by omega, by omega⟩) (fun c2 => ?_) (fun c2 => ?_)
        · skip
          refine g_iconst hc dX13_ring_120 ?_
          refine g_iret hc hm dX13_ring_121 ?_
          exact x_end (by rw [if_pos (by omega), g_rng, if_pos (by rw [h4, g_first_e (by omega)])]) hfMm hmMm.g hR
        · skip
          refine g_iconst hc dX13_ring_25 ?_
          refine g_istore_2 hc dX13_ring_26 rfl ?_
          have lp_27 : ∀ (fu : Nat) (q : Int) (Mm : g_I) (Rm : g_R), 0 ≤ q ∧ q ≤ I 0 11 → g_rn2 I lb (I 0 11) a = g_first (fun q => decide (0 < g_ahd I lb a q ∧ ¬ g_rnd I lb (I 0 11) a q = -1)) (I 0 11 - q).toNat q → (∃ tm, g_rf w Rm lb tm) → q_rel I lb Mm → (∀ (k : Nat) (j : Int), ¬ x_a k j → Mm k j = M k j) → I 0 11 - q < (fu : Int) → G w x (x_rel w (some (gvI (if 0 ≤ I 0 12 then g_rng I lb (I 0 11) else -1))) x_a M J lb) 0 0 g_n Mm J Rm 27 [some (gvr w 703), some (gvI a), some (gvI q), none] [] := by
            intro fu
            induction fu with
            | zero => intro q Mm Rm h5 h6 hR hmMm hfMm hfu; exfalso; omega
            | succ fu ih =>
              intro q Mm Rm h5 h6 hR hmMm hfMm hfu
              obtain ⟨tm, hR⟩ := hR
              have ih_27 := ih
              refine g_iload_n hc dX13_ring_27 rfl ?_
              refine g_aldn hc dX13_ring_28 rfl ?_
              refine g_getIe hc lk_X13_284 ca_703 7 rfl (show Mm 703 7 = I 0 11 from hmMm.tas) dX13_ring_29 ?_
              refine g_icmp_ge (tgt := 114) hc dX13_ring_32 (by decide) (by first | exact hI _ _ | exact hxI2 _ _ | exact hIa _ _ | exact hIb _ _ | exact g_b32 | exact g_and32 | assumption | exact ⟨by omega, by omega⟩) (by first | exact hI _ _ | exact hxI2 _ _ | exact hIa _ _ | exact hIb _ _ | exact g_b32 | exact g_and32 | assumption | exact ⟨by omega, by omega⟩) (fun c3 => ?_) (fun c3 => ?_)
              · skip
                refine g_iinc_1 hc dX13_ring_114 rfl ?_
                refine g_goto (tgt := 17) hc dX13_ring_117 (by decide) ?_
                refine G_sub (L' := [some (gvr w 703), some (gvI (a + 1)), none, none]) (show g_le _ _ from ⟨rfl, ⟨rfl, trivial⟩⟩) ?_
                refine ih_17 _ _ _ ?_ ?_ ?_ ?_ ?_ ?_
                · omega
                · rw [h4, g_first_f (by omega) (fun z => (of_decide_eq_true z) (by rw [h6, g_first_e (by omega)]))]
                · exact ⟨_, hR⟩
                · exact hmMm
                · exact hfMm
                · omega
              · skip
                refine g_iconst hc dX13_ring_35 ?_
                refine g_istore_3 hc dX13_ring_36 rfl ?_
                have lp_37 : ∀ (fu : Nat) (l : Int) (Mm : g_I) (Rm : g_R), 0 ≤ l ∧ l ≤ I 0 11 → (0 < g_ahd I lb a q → g_rnd I lb (I 0 11) a q = g_first (fun l => decide (0 < g_ahd I lb q l ∧ 0 < g_ahd I lb l a)) (I 0 11 - l).toNat l) → (∃ tm, g_rf w Rm lb tm) → q_rel I lb Mm → (∀ (k : Nat) (j : Int), ¬ x_a k j → Mm k j = M k j) → I 0 11 - l < (fu : Int) → G w x (x_rel w (some (gvI (if 0 ≤ I 0 12 then g_rng I lb (I 0 11) else -1))) x_a M J lb) 0 0 g_n Mm J Rm 37 [some (gvr w 703), some (gvI a), some (gvI q), some (gvI l)] [] := by
                  intro fu
                  induction fu with
                  | zero => intro l Mm Rm k5 k6 hR hmMm hfMm hfu; exfalso; omega
                  | succ fu ih =>
                    intro l Mm Rm k5 k6 hR hmMm hfMm hfu
                    obtain ⟨tm, hR⟩ := hR
                    have ih_37 := ih
                    refine g_iload_n hc dX13_ring_37 rfl ?_
                    refine g_aldn hc dX13_ring_38 rfl ?_
                    refine g_getIe hc lk_X13_284 ca_703 7 rfl (show Mm 703 7 = I 0 11 from hmMm.tas) dX13_ring_39 ?_
                    refine g_icmp_ge (tgt := 108) hc dX13_ring_42 (by decide) (by first | exact hI _ _ | exact hxI2 _ _ | exact hIa _ _ | exact hIb _ _ | exact g_b32 | exact g_and32 | assumption | exact ⟨by omega, by omega⟩) (by first | exact hI _ _ | exact hxI2 _ _ | exact hIa _ _ | exact hIb _ _ | exact g_b32 | exact g_and32 | assumption | exact ⟨by omega, by omega⟩) (fun c4 => ?_) (fun c4 => ?_)
                    · skip
                      refine g_iinc_2 hc dX13_ring_108 rfl ?_
                      refine g_goto (tgt := 27) hc dX13_ring_111 (by decide) ?_
                      refine G_sub (L' := [some (gvr w 703), some (gvI a), some (gvI (q + 1)), none]) (show g_le _ _ from ⟨rfl, ⟨rfl, ⟨rfl, trivial⟩⟩⟩) ?_
                      refine ih_27 _ _ _ ?_ ?_ ?_ ?_ ?_ ?_
                      · omega
                      · rw [h6, g_first_f (by omega) (fun z => (of_decide_eq_true z).2 (by rw [k6 (of_decide_eq_true z).1, g_first_e (by omega)]))]
                      · exact ⟨_, hR⟩
                      · exact hmMm
                      · exact hfMm
                      · omega
                    · skip
                      refine g_iload_n hc dX13_ring_45 rfl ?_
                      refine g_iload_n hc dX13_ring_46 rfl ?_
                      refine g_icmp_eq (tgt := 102) hc dX13_ring_47 (by decide) (by first | exact hI _ _ | exact hxI2 _ _ | exact hIa _ _ | exact hIb _ _ | exact g_b32 | exact g_and32 | assumption | exact ⟨by omega, by omega⟩) (by first | exact hI _ _ | exact hxI2 _ _ | exact hIa _ _ | exact hIb _ _ | exact g_b32 | exact g_and32 | assumption | exact ⟨by omega, by omega⟩) (fun c5 => ?_) (fun c5 => ?_)
                      · skip
                        have hst9 : (0 < g_ahd I lb a q → g_rnd I lb (I 0 11) a q = g_first (fun l => decide (0 < g_ahd I lb q l ∧ 0 < g_ahd I lb l a)) (I 0 11 - (l + 1)).toNat (l + 1)) := fun z9 => by
                          exfalso
                          have e9 : a = q := c5
                          rw [e9] at z9
                          have := @x_ahd0 I lb q
                          omega
                        refine g_iinc_3 hc dX13_ring_102 rfl ?_
                        refine g_goto (tgt := 37) hc dX13_ring_105 (by decide) ?_
                        refine ih_37 _ _ _ ?_ ?_ ?_ ?_ ?_ ?_
                        · omega
                        · exact hst9
                        · exact ⟨_, hR⟩
                        · exact hmMm
                        · exact hfMm
                        · omega
                      · skip
                        refine g_iload_n hc dX13_ring_50 rfl ?_
                        refine g_iload_n hc dX13_ring_51 rfl ?_
                        refine g_icmp_eq (tgt := 102) hc dX13_ring_52 (by decide) (by first | exact hI _ _ | exact hxI2 _ _ | exact hIa _ _ | exact hIb _ _ | exact g_b32 | exact g_and32 | assumption | exact ⟨by omega, by omega⟩) (by first | exact hI _ _ | exact hxI2 _ _ | exact hIa _ _ | exact hIb _ _ | exact g_b32 | exact g_and32 | assumption | exact ⟨by omega, by omega⟩) (fun c6 => ?_) (fun c6 => ?_)
                        · skip
                          have hst9 : (0 < g_ahd I lb a q → g_rnd I lb (I 0 11) a q = g_first (fun l => decide (0 < g_ahd I lb q l ∧ 0 < g_ahd I lb l a)) (I 0 11 - (l + 1)).toNat (l + 1)) := fun z9 => by
                            rw [k6 z9, g_first_f (by omega) (fun z => by have z8 := of_decide_eq_true z; have e9 : q = l := c6; rw [e9] at z8; have := @x_ahd0 I lb l; omega)]
                          refine g_iinc_3 hc dX13_ring_102 rfl ?_
                          refine g_goto (tgt := 37) hc dX13_ring_105 (by decide) ?_
                          refine ih_37 _ _ _ ?_ ?_ ?_ ?_ ?_ ?_
                          · omega
                          · exact hst9
                          · exact ⟨_, hR⟩
                          · exact hmMm
                          · exact hfMm
                          · omega
                        · skip
                          refine g_iload_n hc dX13_ring_55 rfl ?_
                          refine g_iload_n hc dX13_ring_56 rfl ?_
                          refine g_icmp_eq (tgt := 102) hc dX13_ring_57 (by decide) (by first | exact hI _ _ | exact hxI2 _ _ | exact hIa _ _ | exact hIb _ _ | exact g_b32 | exact g_and32 | assumption | exact ⟨by omega, by omega⟩) (by first | exact hI _ _ | exact hxI2 _ _ | exact hIa _ _ | exact hIb _ _ | exact g_b32 | exact g_and32 | assumption | exact ⟨by omega, by omega⟩) (fun c7 => ?_) (fun c7 => ?_)
                          · skip
                            have hst9 : (0 < g_ahd I lb a q → g_rnd I lb (I 0 11) a q = g_first (fun l => decide (0 < g_ahd I lb q l ∧ 0 < g_ahd I lb l a)) (I 0 11 - (l + 1)).toNat (l + 1)) := fun z9 => by
                              rw [k6 z9, g_first_f (by omega) (fun z => by have z8 := of_decide_eq_true z; have e9 : a = l := c7; rw [← e9] at z8; have := @x_ahd0 I lb a; omega)]
                            refine g_iinc_3 hc dX13_ring_102 rfl ?_
                            refine g_goto (tgt := 37) hc dX13_ring_105 (by decide) ?_
                            refine ih_37 _ _ _ ?_ ?_ ?_ ?_ ?_ ?_
                            · omega
                            · exact hst9
                            · exact ⟨_, hR⟩
                            · exact hmMm
                            · exact hfMm
                            · omega
                          · skip
                            refine g_aldn hc dX13_ring_60 rfl ?_
                            refine g_iload_n hc dX13_ring_61 rfl ?_
                            refine g_iload_n hc dX13_ring_62 rfl ?_
                            refine g_V2 hc (c_X13_duelOf w hR hmMm (by omega) (by omega) (by omega)) my_X13_duelOf mv_X13_duelOf ca_703 rfl rfl lm_X13_430 rfl (by decide) (Nat.le_of_ble_eq_true rfl) hm dX13_ring_63 (fun r4 n4 I4 J4 R4 hp4 => ?_)
                            obtain ⟨rfl, rfl, hK4, hX4, rfl, t4, hR⟩ := hp4
                            have hmI4 : q_rel I lb I4 := q_cg hK4 hX4 hmMm
                            have hfI4 : ∀ (k : Nat) (j : Int), ¬ x_a k j → I4 k j = M k j := fun k j hk => (hK4 k j hk).trans (hfMm k j hk)
                            have hah := g_ahd_in (I := I) (b := lb) (t := a) (q := q) hn0
                            refine g_if_le (tgt := 102) hc dX13_ring_66 (by decide) (by first | exact hI _ _ | exact hxI2 _ _ | exact hIa _ _ | exact hIb _ _ | exact g_b32 | exact g_and32 | assumption | exact ⟨by omega, by omega⟩) (fun c8 => ?_) (fun c8 => ?_)
                            · skip
                              have hst9 : (0 < g_ahd I lb a q → g_rnd I lb (I 0 11) a q = g_first (fun l => decide (0 < g_ahd I lb q l ∧ 0 < g_ahd I lb l a)) (I 0 11 - (l + 1)).toNat (l + 1)) := fun z9 => by
                                exfalso
                                omega
                              refine g_iinc_3 hc dX13_ring_102 rfl ?_
                              refine g_goto (tgt := 37) hc dX13_ring_105 (by decide) ?_
                              refine ih_37 _ _ _ ?_ ?_ ?_ ?_ ?_ ?_
                              · omega
                              · exact hst9
                              · exact ⟨_, hR⟩
                              · exact hmI4
                              · exact hfI4
                              · omega
                            · skip
                              have ha1 : 0 < g_ahd I lb a q := by omega
                              refine g_aldn hc dX13_ring_69 rfl ?_
                              refine g_iload_n hc dX13_ring_70 rfl ?_
                              refine g_iload_n hc dX13_ring_71 rfl ?_
                              refine g_V2 hc (c_X13_duelOf w hR hmI4 (by omega) (by omega) (by omega)) my_X13_duelOf mv_X13_duelOf ca_703 rfl rfl lm_X13_430 rfl (by decide) (Nat.le_of_ble_eq_true rfl) hm dX13_ring_72 (fun r5 n5 I5 J5 R5 hp5 => ?_)
                              obtain ⟨rfl, rfl, hK5, hX5, rfl, t5, hR⟩ := hp5
                              have hmI5 : q_rel I lb I5 := q_cg hK5 hX5 hmI4
                              have hfI5 : ∀ (k : Nat) (j : Int), ¬ x_a k j → I5 k j = M k j := fun k j hk => (hK5 k j hk).trans (hfI4 k j hk)
                              have hah2 := g_ahd_in (I := I) (b := lb) (t := q) (q := l) hn0
                              refine g_if_le (tgt := 102) hc dX13_ring_75 (by decide) (by first | exact hI _ _ | exact hxI2 _ _ | exact hIa _ _ | exact hIb _ _ | exact g_b32 | exact g_and32 | assumption | exact ⟨by omega, by omega⟩) (fun c9 => ?_) (fun c9 => ?_)
                              · skip
                                have hst9 : (0 < g_ahd I lb a q → g_rnd I lb (I 0 11) a q = g_first (fun l => decide (0 < g_ahd I lb q l ∧ 0 < g_ahd I lb l a)) (I 0 11 - (l + 1)).toNat (l + 1)) := fun z9 => by
                                  rw [k6 z9, g_first_f (by omega) (fun z => by have z8 := of_decide_eq_true z; omega)]
                                refine g_iinc_3 hc dX13_ring_102 rfl ?_
                                refine g_goto (tgt := 37) hc dX13_ring_105 (by decide) ?_
                                refine ih_37 _ _ _ ?_ ?_ ?_ ?_ ?_ ?_
                                · omega
                                · exact hst9
                                · exact ⟨_, hR⟩
                                · exact hmI5
                                · exact hfI5
                                · omega
                              · skip
                                have ha2 : 0 < g_ahd I lb q l := by omega
                                refine g_aldn hc dX13_ring_78 rfl ?_
                                refine g_iload_n hc dX13_ring_79 rfl ?_
                                refine g_iload_n hc dX13_ring_80 rfl ?_
                                refine g_V2 hc (c_X13_duelOf w hR hmI5 (by omega) (by omega) (by omega)) my_X13_duelOf mv_X13_duelOf ca_703 rfl rfl lm_X13_430 rfl (by decide) (Nat.le_of_ble_eq_true rfl) hm dX13_ring_81 (fun r6 n6 I6 J6 R6 hp6 => ?_)
                                obtain ⟨rfl, rfl, hK6, hX6, rfl, t6, hR⟩ := hp6
                                have hmI6 : q_rel I lb I6 := q_cg hK6 hX6 hmI5
                                have hfI6 : ∀ (k : Nat) (j : Int), ¬ x_a k j → I6 k j = M k j := fun k j hk => (hK6 k j hk).trans (hfI5 k j hk)
                                have hah3 := g_ahd_in (I := I) (b := lb) (t := l) (q := a) hn0
                                refine g_if_gt (tgt := 90) hc dX13_ring_84 (by decide) (by first | exact hI _ _ | exact hxI2 _ _ | exact hIa _ _ | exact hIb _ _ | exact g_b32 | exact g_and32 | assumption | exact ⟨by omega, by omega⟩) (fun c10 => ?_) (fun c10 => ?_)
                                · skip
                                  have ha3 : 0 < g_ahd I lb l a := by omega
                                  have r1 : g_rnd I lb (I 0 11) a q = l := by rw [k6 ha1, g_first_t (by omega) (decide_eq_true ⟨ha2, ha3⟩)]
                                  have r2 : g_rn2 I lb (I 0 11) a = q := by rw [h6, g_first_t (by omega) (decide_eq_true ⟨ha1, by omega⟩)]
                                  have r3 : g_rn3 I lb (I 0 11) = a := by rw [h4, g_first_t (by omega) (decide_eq_true (by omega))]
                                  refine g_bipush hc dX13_ring_90 (by decide +kernel) ?_
                                  refine g_iload_n hc dX13_ring_92 rfl ?_
                                  refine g_imul hc dX13_ring_93 ?_
                                  refine g_bipush hc dX13_ring_94 (by decide +kernel) ?_
                                  refine g_iload_n hc dX13_ring_96 rfl ?_
                                  refine g_imul hc dX13_ring_97 ?_
                                  refine g_iadd hc dX13_ring_98 ?_
                                  refine g_iload_n hc dX13_ring_99 rfl ?_
                                  refine g_iadd hc dX13_ring_100 ?_
                                  refine g_iret hc hm dX13_ring_101 ?_
                                  exact x_end (by rw [if_pos (by omega), g_rng, r3, if_neg (by omega), r2, r1]) hfI6 hmI6.g hR
                                · skip
                                  have hst9 : (0 < g_ahd I lb a q → g_rnd I lb (I 0 11) a q = g_first (fun l => decide (0 < g_ahd I lb q l ∧ 0 < g_ahd I lb l a)) (I 0 11 - (l + 1)).toNat (l + 1)) := fun z9 => by
                                    rw [k6 z9, g_first_f (by omega) (fun z => by have z8 := of_decide_eq_true z; omega)]
                                  refine g_goto (tgt := 102) hc dX13_ring_87 (by decide) ?_
                                  refine g_iinc_3 hc dX13_ring_102 rfl ?_
                                  refine g_goto (tgt := 37) hc dX13_ring_105 (by decide) ?_
                                  refine ih_37 _ _ _ ?_ ?_ ?_ ?_ ?_ ?_
                                  · omega
                                  · exact hst9
                                  · exact ⟨_, hR⟩
                                  · exact hmI6
                                  · exact hfI6
                                  · omega
                refine lp_37 7 _ _ _ ?_ ?_ ?_ ?_ ?_ (?_)
                · omega
                · intro _; rw [Int.sub_zero]; rfl
                · exact ⟨_, hR⟩
                · exact hmMm
                · exact hfMm
                · omega
          refine lp_27 7 _ _ _ ?_ ?_ ?_ ?_ ?_ (?_)
          · omega
          · rw [Int.sub_zero]; rfl
          · exact ⟨_, hR⟩
          · exact hmMm
          · exact hfMm
          · omega
    refine lp_17 7 _ _ _ ?_ ?_ ?_ ?_ ?_ (?_)
    · omega
    · rw [Int.sub_zero]; rfl
    · exact ⟨_, hR⟩
    · exact hmI3
    · exact hfI3
    · omega
  · skip
    refine g_iconst hc dX13_ring_13 ?_
    refine g_iret hc hm dX13_ring_14 ?_
    exact x_end (by rw [if_neg (by omega)]) hfI3 hmI3.g hR
set_option maxHeartbeats 4000000 in
set_option maxRecDepth 100000 in
/-- X13_all -/
theorem c_X13_all (w : g_W) {I : g_I} {J : g_J} {R : g_R} {lb tx : Nat} (hR : g_rf w R lb tx) {M : g_I} (hmM : q_rel I lb M) {k : Int} (g1 : g32 k) : g_Met w g_n M J R yX13_all cX13_all 4 (some .int) 3 0 0 [(gvr w 703), (gvI k)] (x_rel w (some (gvI (if 0 ≤ I 0 12 ∧ 0 ≤ k ∧ k < g_shl 1 (I lb 0) then g_com I lb k else -1))) x_a M J lb) := by
  refine g_intro (own := RX13) [some (gvr w 703), some (gvI k), none, none] (by decide +kernel) rfl (by decide) (Nat.le_of_ble_eq_true rfl) rfl (fun i v hv => g_args 2 i v hv rfl) (fun x hc hm => ?_)
  have hfM : ∀ (k : Nat) (j : Int), ¬ x_a k j → M k j = M k j := fun _ _ _ => rfl
  have hI := hmM.gi
  have hTb := q_b1 hmM
  have hLv := hmM.lv
  have hC := hmM.cin
  have hL := hC.1
  obtain ⟨hn0, hn1, hLs, hLf⟩ := id hL
  obtain ⟨-, hC1, hC2, hC3, hC4, hC5, hC6, hC7⟩ := id hC
  have hN0 := q_n0 hmM
  refine g_aldn hc dX13_all_0 rfl ?_
  refine g_iconst hc dX13_all_1 ?_
  refine g_putI' hc lk_X13_102 ca_703 0 rfl dX13_all_2 (fun I3 hI3 => ?_)
  have hmI3 : q_rel I lb I3 := by rw [hI3]; exact q_up hmM (by unfold x_a; omega) (by first | exact hI _ _ | exact hmM.g _ _ | exact g_b32 | exact g_and32 | exact g_or32 | exact g_shl32 | assumption | exact ⟨by omega, by omega⟩)
  have hfI3 : ∀ (k : Nat) (j : Int), ¬ x_a k j → I3 k j = M k j := fun k j hk => by rw [hI3]; exact (g_up_n (by unfold x_a at hk; omega)).trans (hfM k j hk)
  refine g_aldn hc dX13_all_5 rfl ?_
  refine g_getIe hc lk_X13_52 ca_703 24 rfl (show I3 703 24 = I 0 12 from hmI3.tab) dX13_all_6 ?_
  refine g_iconst hc dX13_all_9 ?_
  refine g_icmp_eq (tgt := 32) hc dX13_all_10 (by decide) (by first | exact hI _ _ | exact hxI2 _ _ | exact hIa _ _ | exact hIb _ _ | exact g_b32 | exact g_and32 | assumption | exact ⟨by omega, by omega⟩) (by first | exact hI _ _ | exact hxI2 _ _ | exact hIa _ _ | exact hIb _ _ | exact g_b32 | exact g_and32 | assumption | exact ⟨by omega, by omega⟩) (fun c1 => ?_) (fun c1 => ?_)
  · skip
    refine g_iconst hc dX13_all_32 ?_
    refine g_iret hc hm dX13_all_33 ?_
    exact x_end (by rw [if_neg (by omega)]) hfI3 hmI3.g hR
  · skip
    have hTs := q_ts hmM (by omega)
    refine g_iload_n hc dX13_all_13 rfl ?_
    refine g_if_lt (tgt := 32) hc dX13_all_14 (by decide) (by first | exact hI _ _ | exact hxI2 _ _ | exact hIa _ _ | exact hIb _ _ | exact g_b32 | exact g_and32 | assumption | exact ⟨by omega, by omega⟩) (fun c2 => ?_) (fun c2 => ?_)
    · skip
      refine g_iconst hc dX13_all_32 ?_
      refine g_iret hc hm dX13_all_33 ?_
      exact x_end (by rw [if_neg (by omega)]) hfI3 hmI3.g hR
    · skip
      refine g_iload_n hc dX13_all_17 rfl ?_
      refine g_iconst hc dX13_all_18 ?_
      refine g_aldn hc dX13_all_19 rfl ?_
      refine g_getRk hc lk_X13_46 ca_703 (rc_703_21 hR) dX13_all_20 ?_
      refine g_aldn hc dX13_all_23 rfl ?_
      refine g_getIe hc lk_X13_52 ca_703 24 rfl (show I3 703 24 = I 0 12 from hmI3.tab) dX13_all_24 ?_
      refine g_ialde hc ca_711 (by decide) (by omega) (by omega) (show I3 711 (I 0 12) = I lb 0 from q_lm hmI3 (by omega)) dX13_all_27 ?_
      refine g_ishl hc dX13_all_28 ?_
      refine g_icmp_lt (tgt := 34) hc dX13_all_29 (by decide) g1 g_shl32 (fun c3 => ?_) (fun c3 => ?_)
      · skip
        refine g_sipush hc dX13_all_34 (by decide +kernel) ?_
        refine g_istore_2 hc dX13_all_37 rfl ?_
        refine g_iconst hc dX13_all_38 ?_
        refine g_istore_3 hc dX13_all_39 rfl ?_
        have lp_40 : ∀ (fu : Nat) (a i : Int) (Mm : g_I) (Rm : g_R), 0 ≤ i ∧ i ≤ I lb 0 → a = g_cmn I lb k i.toNat → (∃ tm, g_rf w Rm lb tm) → q_rel I lb Mm → (∀ (k : Nat) (j : Int), ¬ x_a k j → Mm k j = M k j) → I lb 0 - i < (fu : Int) → G w x (x_rel w (some (gvI (if 0 ≤ I 0 12 ∧ 0 ≤ k ∧ k < g_shl 1 (I lb 0) then g_com I lb k else -1))) x_a M J lb) 0 0 g_n Mm J Rm 40 [some (gvr w 703), some (gvI k), some (gvI a), some (gvI i)] [] := by
          intro fu
          induction fu with
          | zero => intro a i Mm Rm h3 h4 hR hmMm hfMm hfu; exfalso; omega
          | succ fu ih =>
            intro a i Mm Rm h3 h4 hR hmMm hfMm hfu
            obtain ⟨tm, hR⟩ := hR
            have ih_40 := ih
            refine g_iload_n hc dX13_all_40 rfl ?_
            refine g_aldn hc dX13_all_41 rfl ?_
            refine g_getRk hc lk_X13_46 ca_703 (rc_703_21 hR) dX13_all_42 ?_
            refine g_aldn hc dX13_all_45 rfl ?_
            refine g_getIe hc lk_X13_52 ca_703 24 rfl (show Mm 703 24 = I 0 12 from hmMm.tab) dX13_all_46 ?_
            refine g_ialde hc ca_711 (by decide) (by omega) (by omega) (show Mm 711 (I 0 12) = I lb 0 from q_lm hmMm (by omega)) dX13_all_49 ?_
            refine g_icmp_ge (tgt := 79) hc dX13_all_50 (by decide) (by first | exact hI _ _ | exact hxI2 _ _ | exact hIa _ _ | exact hIb _ _ | exact g_b32 | exact g_and32 | assumption | exact ⟨by omega, by omega⟩) (by first | exact hI _ _ | exact hxI2 _ _ | exact hIa _ _ | exact hIb _ _ | exact g_b32 | exact g_and32 | assumption | exact ⟨by omega, by omega⟩) (fun c4 => ?_) (fun c4 => ?_)
            · skip
              refine g_iload_n hc dX13_all_79 rfl ?_
              refine g_iret hc hm dX13_all_80 ?_
              exact x_end (by rw [if_pos (by omega), g_com, h4, show I lb 0 = i by omega]) hfMm hmMm.g hR
            · skip
              have hcr := x_cmn hL (m := k) i.toNat (by omega)
              refine g_iload_n hc dX13_all_53 rfl ?_
              refine g_iload_n hc dX13_all_54 rfl ?_
              refine g_iload_n hc dX13_all_55 rfl ?_
              refine g_S2r hc (c_X13_has w) my_X13_has ms_X13_has lm_X13_224 rfl (by decide) (Nat.le_of_ble_eq_true rfl) hm dX13_all_56 ?_
              refine g_ifb_eq (tgt := 70) hc dX13_all_59 (by decide)  (fun c5 => ?_) (fun c5 => ?_)
              · skip
                have hb9 := c5
                refine g_iconst hc dX13_all_70 ?_
                refine g_iand hc dX13_all_71 ?_
                refine g_istore_2 hc dX13_all_72 rfl ?_
                refine g_iinc_3 hc dX13_all_73 rfl ?_
                refine g_goto (tgt := 40) hc dX13_all_76 (by decide) ?_
                refine ih_40 _ _ _ _ ?_ ?_ ?_ ?_ ?_ ?_
                · omega
                · rw [g_cmn_i h3.1, h4]; rw [if_neg hb9, (x_cmn1 hcr).1, (x_cmn1 hcr).2]
                · exact ⟨_, hR⟩
                · exact hmMm
                · exact hfMm
                · omega
              · skip
                have hb9 := c5
                refine g_aldn hc dX13_all_62 rfl ?_
                refine g_iload_n hc dX13_all_63 rfl ?_
                refine g_V1 hc (c_X13_factsOf w hR hmMm (by omega)) my_X13_factsOf mv_X13_factsOf ca_703 rfl rfl lm_X13_321 rfl (by decide) (Nat.le_of_ble_eq_true rfl) hm dX13_all_64 (fun r4 n4 I4 J4 R4 hp4 => ?_)
                obtain ⟨rfl, rfl, hK4, hX4, rfl, t4, hR⟩ := hp4
                have hmI4 : q_rel I lb I4 := q_cg (fun k j hk => hK4 k j (fun z => hk (x_wa z))) hX4 hmMm
                have hfI4 : ∀ (k : Nat) (j : Int), ¬ x_a k j → I4 k j = M k j := fun k j hk => (hK4 k j (fun z => hk (x_wa z))).trans (hfMm k j hk)
                refine g_goto (tgt := 71) hc dX13_all_67 (by decide) ?_
                refine g_iand hc dX13_all_71 ?_
                refine g_istore_2 hc dX13_all_72 rfl ?_
                refine g_iinc_3 hc dX13_all_73 rfl ?_
                refine g_goto (tgt := 40) hc dX13_all_76 (by decide) ?_
                refine ih_40 _ _ _ _ ?_ ?_ ?_ ?_ ?_ ?_
                · omega
                · rw [g_cmn_i h3.1, h4]; rw [if_pos hb9]
                · exact ⟨_, hR⟩
                · exact hmI4
                · exact hfI4
                · omega
        refine lp_40 13 _ _ _ _ ?_ ?_ ?_ ?_ ?_ (?_)
        · omega
        · rfl
        · exact ⟨_, hR⟩
        · exact hmI3
        · exact hfI3
        · omega
      · skip
        refine g_iconst hc dX13_all_32 ?_
        refine g_iret hc hm dX13_all_33 ?_
        exact x_end (by rw [if_neg (by omega)]) hfI3 hmI3.g hR
