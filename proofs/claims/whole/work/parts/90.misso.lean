theorem q_prt_comm {I : g_I} {b : Nat} (h : q_str I b) {s t : Int} (hs : 0 ≤ s ∧ s < I b 0) (ht : 0 ≤ t ∧ t < I b 0) (hst : ¬ s = t) (hl : 0 ≤ I b 1) : g_prt I b s t = g_prt I b t s := by
  obtain ⟨a1, a2⟩ := q_prt h hs ht hst hl
  obtain ⟨c1, c2⟩ := q_prt h ht hs (fun z => hst z.symm) hl
  have e1 := a2 _ ⟨c1.2, c1.1⟩
  have e2 := c2 _ ⟨a1.2, a1.1⟩
  omega
theorem g_lushr33 {v : Int} : 0 ≤ g_lushr v 33 ∧ g_lushr v 33 < 2147483648 := by
  have e : ((Int32.ofInt 33).toInt64.toUInt64 &&& Int64.toUInt64 63).toNat = 33 := by decide +kernel
  unfold g_lushr
  generalize hx : (Int64.ofInt v).toUInt64 >>> ((Int32.ofInt 33).toInt64.toUInt64 &&& Int64.toUInt64 63) = X
  have hX : X.toNat < 2147483648 := by
    rw [← hx, UInt64.toNat_shiftRight, e, Nat.shiftRight_eq_div_pow]
    have := (Int64.ofInt v).toUInt64.toNat_lt
    have e2 : (2 : Nat) ^ (33 % 64) = 8589934592 := by decide
    rw [e2]
    omega
  have hb : X.toInt64.toBitVec = BitVec.ofNat 64 X.toNat := BitVec.eq_of_toNat_eq (by show X.toNat = _; rw [BitVec.toNat_ofNat]; have := X.toNat_lt; omega)
  show 0 ≤ X.toInt64.toBitVec.toInt ∧ X.toInt64.toBitVec.toInt < 2147483648
  rw [hb, BitVec.toInt_ofNat']
  have : (X.toNat : Int) % 18446744073709551616 = X.toNat := by omega
  rw [Int.bmod_def]
  omega
theorem q_drw {x m : Int} (h : 0 < m) : g_drw x m = (g_lushr (g_dnx x) 33).tmod m ∧ 0 ≤ g_drw x m ∧ g_drw x m < m := by
  have := @g_lushr33 (g_dnx x)
  have e : g_drw x m = (g_lushr (g_dnx x) 33).tmod m := by unfold g_drw; rw [if_neg (by omega)]
  rw [e]
  exact ⟨rfl, Int.tmod_nonneg _ this.1, Int.tmod_lt_of_pos _ h⟩
/-- what a BRANCH has of what is drawn from -/
def q_own (I : g_I) (b : Nat) (f e r : Int) : Int := if g_bit (I 550 (4 + f)) r then (if e = 0 then 1 else I (b + 47 + (f * 4 + r).toNat) 0) else 0
def q_tot (I : g_I) (b : Nat) (f e : Int) : Int := if e = 0 then g_bc (I 550 (4 + f)) else g_wt I b f (I 550 (4 + f)) (I (b + 43) f).toNat
theorem q_tot_sum {I M : g_I} {lb : Nat} (h : q_rel I lb M) {f e : Int} (h1 : 0 ≤ f ∧ f < I lb 1) : g_sum (q_own I lb f e) (I (lb + 43) f).toNat = q_tot I lb f e ∧ 1 ≤ q_tot I lb f e ∧ q_tot I lb f e ≤ 36 := by
  obtain ⟨⟨k1, k2⟩, -, -, hit⟩ := (q_lok h).2.2.2 f h1.1 h1.2
  have h7 := h.cin.2.2.2.2.2.2.2 f h1.1 h1.2
  unfold q_tot
  by_cases he : e = 0
  · rw [if_pos he]
    have e1 : q_own I lb f e = fun r => if g_bit (I 550 (4 + f)) r then 1 else 0 := by funext r; unfold q_own; rw [if_pos he]
    rw [e1]
    have := q_bn_bc (m := I 550 (4 + f)) (k := I (lb + 43) f) (by omega) (by omega) (h.msk h1)
    have d := q_bc1 h7
    exact ⟨this, by omega, by omega⟩
  · rw [if_neg he]
    have e1 : q_own I lb f e = fun r => if g_and (g_shr (I 550 (4 + f)) r) 1 = 1 then I (lb + 47 + (f * 4 + r).toNat) 0 else 0 := by funext r; unfold q_own; rw [if_neg he]
    rw [e1]
    have a := g_wt_in (m := I 550 (4 + f)) (fun r a c => (hit r a c).1) (I (lb + 43) f).toNat (by omega)
    exact ⟨rfl, q_wt1 h h1, by omega⟩
/-- some BRANCH is chosen -/
theorem q_chs0 {rank : Int → Int} {m : Int} : ∀ n : Nat, (g_chs rank m n).1 = -1 → ∀ r : Int, 0 ≤ r → r < n → ¬ g_bit m r
  | 0, _, r, a, c => by omega
  | n + 1, h, r, a, c => by
    rw [g_chs] at h
    by_cases hb : g_bit m n
    · rw [if_pos hb] at h
      by_cases h2 : (g_chs rank m n).1 = -1 ∨ (g_chs rank m n).2 < rank n
      · rw [if_pos h2] at h; dsimp only at h; omega
      · rw [if_neg h2] at h
        exact absurd (Or.inl h) h2
    · rw [if_neg hb] at h
      by_cases e : r = n
      · rw [e]; exact hb
      · exact q_chs0 n h r a (by omega)
theorem q_bn0 {m : Int} : ∀ n : Nat, (∀ r : Int, 0 ≤ r → r < n → ¬ g_bit m r) → q_bn m n = 0
  | 0, _ => rfl
  | n + 1, h => by
    show q_bn m n + (if g_bit m n then 1 else 0) = 0
    rw [if_neg (h n (by omega) (by omega)), q_bn0 n (fun r a c => h r a (by omega))]
    rfl
theorem q_cho1 {I M : g_I} {lb : Nat} (h : q_rel I lb M) {f : Int} (h1 : 0 ≤ f ∧ f < I lb 1) : 0 ≤ g_cho I lb f (I 550 (4 + f)) ∧ g_cho I lb f (I 550 (4 + f)) < I (lb + 43) f := by
  obtain ⟨⟨k1, k2⟩, -, -, hit⟩ := (q_lok h).2.2.2 f h1.1 h1.2
  have h7 := h.cin.2.2.2.2.2.2.2 f h1.1 h1.2
  have hin := g_chs_in (rank := fun r => g_rnk I lb f r (g_bc (I 550 (4 + f)))) (mask := I 550 (4 + f)) (I (lb + 43) f).toNat
  have hc := q_bn_bc (m := I 550 (4 + f)) (k := I (lb + 43) f) (by omega) (by omega) (h.msk h1)
  have hd := q_bc1 h7
  by_cases e : (g_chs (fun r => g_rnk I lb f r (g_bc (I 550 (4 + f)))) (I 550 (4 + f)) (I (lb + 43) f).toNat).1 = -1
  · have := q_bn0 (m := I 550 (4 + f)) (I (lb + 43) f).toNat (fun r a c => q_chs0 _ e r a c)
    omega
  · unfold g_cho
    omega
set_option maxHeartbeats 4000000 in
set_option maxRecDepth 100000 in
/-- X13_isSo -/
theorem c_X13_isSo (w : g_W) {I : g_I} {J : g_J} {R : g_R} {lb tx : Nat} (hR : g_rf w R lb tx) {M : g_I} (hmM : q_rel I lb M) {s k : Int} (h1 : 0 ≤ s ∧ s < I lb 0) (h2 : 0 ≤ k ∧ k < I 697 4) : g_Met w g_n M J R yX13_isSo cX13_isSo 4 (some .boolean) 4 0 0 [(gvr w 703), (gvI s), (gvI k)] (x_rel w (some (gvI (g_b (g_hlb I lb k s = true)))) x_w M J lb) := by
  refine g_intro (own := RX13) [some (gvr w 703), some (gvI s), some (gvI k), none] (by decide +kernel) rfl (by decide) (Nat.le_of_ble_eq_true rfl) rfl (fun i v hv => g_args 1 i v hv rfl) (fun x hc hm => ?_)
  have hfM : ∀ (k : Nat) (j : Int), ¬ x_w k j → M k j = M k j := fun _ _ _ => rfl
  have hI := hmM.gi
  have hTb := q_b1 hmM
  have hLv := hmM.lv
  have hC := hmM.cin
  have hL := hC.1
  obtain ⟨hn0, hn1, hLs, hLf⟩ := id hL
  obtain ⟨-, hC1, hC2, hC3, hC4, hC5, hC6, hC7⟩ := id hC
  have hTs := q_ts hmM (by omega)
  obtain ⟨hst, hway, hg0, hg1, hg2, hg3, hg4, hg5, hg6⟩ := hLs s h1.1 h1.2
  have hqS := (q_lfS hmM h1).2.1
  have hck := hmM.clu.1.2 k h2.1 h2.2
  have hcc := hmM.clu.1.1
  refine g_aldn hc dX13_isSo_0 rfl ?_
  refine g_getRk hc lk_X13_84 ca_703 (rc_703_36 hR) dX13_isSo_1 ?_
  refine g_iload_n hc dX13_isSo_4 rfl ?_
  refine g_ialde hc ca_722 (by decide) (by omega) (by omega) (show M 722 k = I 699 k from (hmM.clu.2.2 _ (by omega) (by omega)).2.1) dX13_isSo_5 ?_
  refine g_istore_3 hc dX13_isSo_6 rfl ?_
  refine g_aldn hc dX13_isSo_7 rfl ?_
  refine g_getRk hc lk_X13_81 ca_703 (rc_703_35 hR) dX13_isSo_8 ?_
  refine g_iload_n hc dX13_isSo_11 rfl ?_
  refine g_ialde hc ca_721 (by decide) (by omega) (by omega) (show M 721 k = I 698 k from (hmM.clu.2.2 _ (by omega) (by omega)).1) dX13_isSo_12 ?_
  rcases (show I 698 k < 0 ∨ 4 < I 698 k ∨ I 698 k = 0 ∨ I 698 k = 1 ∨ I 698 k = 2 ∨ I 698 k = 3 ∨ I 698 k = 4 by omega) with hsw | hsw | hsw | hsw | hsw | hsw | hsw
  · skip
    refine g_tableOut (tgt := 154) hc dX13_isSo_13 (by first | exact hI _ _ | exact hxI2 _ _ | exact hIa _ _ | exact hIb _ _ | exact g_b32 | exact g_and32 | assumption | exact ⟨by omega, by omega⟩) (by omega) (by decide) ?_
    have hd : g_hld I lb k s ↔ (¬ I 699 k = s ∧ I 699 k < I lb 0 ∧ g_prt I lb s (I 699 k) = I 700 k) := by
      unfold g_hld
      rw [if_neg (by omega), if_neg (by omega), if_neg (by omega), if_neg (by omega), if_neg (by omega)]
    refine g_aldn hc dX13_isSo_154 rfl ?_
    refine g_iload_n hc dX13_isSo_155 rfl ?_
    refine g_V1r hc (c_X13_isSelf w hR hmM (by first | exact hI _ _ | exact hmM.g _ _ | exact g_b32 | exact g_and32 | exact g_or32 | exact g_shl32 | assumption | exact ⟨by omega, by omega⟩)) my_X13_isSelf mv_X13_isSelf ca_703 rfl rfl lm_X13_313 rfl (by decide) (Nat.le_of_ble_eq_true rfl) hm dX13_isSo_156 ?_
    refine g_ifb_eq (tgt := 186) hc dX13_isSo_159 (by decide)  (fun c1 => ?_) (fun c1 => ?_)
    · skip
      have hn9 : ¬ (¬ I 699 k = s ∧ I 699 k < I lb 0 ∧ g_prt I lb s (I 699 k) = I 700 k) := fun z => c1 ⟨by omega, z.2.1⟩
      refine g_iconst hc dX13_isSo_186 ?_
      refine g_zret hc hm (by first | exact g_b01 | omega) dX13_isSo_187 ?_
      exact x_end (g_b0 (fun z => hn9 (hd.mp (g_hlb_iff.mp z)))).symm hfM hmM.g hR
    · skip
      refine g_iload_n hc dX13_isSo_162 rfl ?_
      refine g_iload_n hc dX13_isSo_163 rfl ?_
      refine g_icmp_eq (tgt := 186) hc dX13_isSo_164 (by decide) (by first | exact hI _ _ | exact hxI2 _ _ | exact hIa _ _ | exact hIb _ _ | exact g_b32 | exact g_and32 | assumption | exact ⟨by omega, by omega⟩) (by first | exact hI _ _ | exact hxI2 _ _ | exact hIa _ _ | exact hIb _ _ | exact g_b32 | exact g_and32 | assumption | exact ⟨by omega, by omega⟩) (fun c2 => ?_) (fun c2 => ?_)
      · skip
        have hn9 : ¬ (¬ I 699 k = s ∧ I 699 k < I lb 0 ∧ g_prt I lb s (I 699 k) = I 700 k) := fun z => z.1 c2
        refine g_iconst hc dX13_isSo_186 ?_
        refine g_zret hc hm (by first | exact g_b01 | omega) dX13_isSo_187 ?_
        exact x_end (g_b0 (fun z => hn9 (hd.mp (g_hlb_iff.mp z)))).symm hfM hmM.g hR
      · skip
        refine g_aldn hc dX13_isSo_167 rfl ?_
        refine g_iload_n hc dX13_isSo_168 rfl ?_
        refine g_iload_n hc dX13_isSo_169 rfl ?_
        refine g_V2 hc (c_X13_partOf w hR hmM (by omega) (by omega) (by omega)) my_X13_partOf mv_X13_partOf ca_703 rfl rfl lm_X13_340 rfl (by decide) (Nat.le_of_ble_eq_true rfl) hm dX13_isSo_170 (fun r3 n3 I3 J3 R3 hp3 => ?_)
        obtain ⟨rfl, rfl, hK3, hX3, rfl, t3, hR⟩ := hp3
        have hmI3 : q_rel I lb I3 := q_cg (fun k j hk => hK3 k j (fun z => hk (x_wa z))) hX3 hmM
        have hfI3 : ∀ (k : Nat) (j : Int), ¬ x_w k j → I3 k j = M k j := fun k j hk => (hK3 k j hk).trans (hfM k j hk)
        have hpc := q_prt_comm hqS h1 (t := I 699 k) ⟨by omega, by omega⟩ (by omega) (by omega)
        rw [← hpc]
        have hpr179 : 0 ≤ g_prt I lb s (I 699 k) ∧ g_prt I lb s (I 699 k) < I lb 1 := by
          obtain ⟨i, i0, i1, i2⟩ := q_on_iff.mp (q_prt hqS h1 (t := I 699 k) ⟨by omega, by omega⟩ (by omega) (by omega)).1.1
          have := (hway i i0 i1).1
          omega
        refine g_aldn hc dX13_isSo_173 rfl ?_
        refine g_getRk hc lk_X13_87 ca_703 (rc_703_37 hR) dX13_isSo_174 ?_
        refine g_iload_n hc dX13_isSo_177 rfl ?_
        refine g_ialde hc ca_723 (by decide) (by omega) (by omega) (show I3 723 k = I 700 k from (hmI3.clu.2.2 _ (by omega) (by omega)).2.2) dX13_isSo_178 ?_
        refine g_icmp_ne (tgt := 186) hc dX13_isSo_179 (by decide) (by have := hpr179; exact ⟨by omega, by omega⟩) (hI _ _) (fun c3 => ?_) (fun c3 => ?_)
        · skip
          have hn9 : ¬ (¬ I 699 k = s ∧ I 699 k < I lb 0 ∧ g_prt I lb s (I 699 k) = I 700 k) := fun z => c3 z.2.2
          refine g_iconst hc dX13_isSo_186 ?_
          refine g_zret hc hm (by first | exact g_b01 | omega) dX13_isSo_187 ?_
          exact x_end (g_b0 (fun z => hn9 (hd.mp (g_hlb_iff.mp z)))).symm hfI3 hmI3.g hR
        · skip
          have hp9 : (¬ I 699 k = s ∧ I 699 k < I lb 0 ∧ g_prt I lb s (I 699 k) = I 700 k) := ⟨by omega, by omega, c3⟩
          refine g_iconst hc dX13_isSo_182 ?_
          refine g_goto (tgt := 187) hc dX13_isSo_183 (by decide) ?_
          refine g_zret hc hm (by first | exact g_b01 | omega) dX13_isSo_187 ?_
          exact x_end (g_b1 (g_hlb_iff.mpr (hd.mpr hp9))).symm hfI3 hmI3.g hR
  · skip
    refine g_tableOut (tgt := 154) hc dX13_isSo_13 (by first | exact hI _ _ | exact hxI2 _ _ | exact hIa _ _ | exact hIb _ _ | exact g_b32 | exact g_and32 | assumption | exact ⟨by omega, by omega⟩) (by omega) (by decide) ?_
    have hd : g_hld I lb k s ↔ (¬ I 699 k = s ∧ I 699 k < I lb 0 ∧ g_prt I lb s (I 699 k) = I 700 k) := by
      unfold g_hld
      rw [if_neg (by omega), if_neg (by omega), if_neg (by omega), if_neg (by omega), if_neg (by omega)]
    refine g_aldn hc dX13_isSo_154 rfl ?_
    refine g_iload_n hc dX13_isSo_155 rfl ?_
    refine g_V1r hc (c_X13_isSelf w hR hmM (by first | exact hI _ _ | exact hmM.g _ _ | exact g_b32 | exact g_and32 | exact g_or32 | exact g_shl32 | assumption | exact ⟨by omega, by omega⟩)) my_X13_isSelf mv_X13_isSelf ca_703 rfl rfl lm_X13_313 rfl (by decide) (Nat.le_of_ble_eq_true rfl) hm dX13_isSo_156 ?_
    refine g_ifb_eq (tgt := 186) hc dX13_isSo_159 (by decide)  (fun c4 => ?_) (fun c4 => ?_)
    · skip
      have hn9 : ¬ (¬ I 699 k = s ∧ I 699 k < I lb 0 ∧ g_prt I lb s (I 699 k) = I 700 k) := fun z => c4 ⟨by omega, z.2.1⟩
      refine g_iconst hc dX13_isSo_186 ?_
      refine g_zret hc hm (by first | exact g_b01 | omega) dX13_isSo_187 ?_
      exact x_end (g_b0 (fun z => hn9 (hd.mp (g_hlb_iff.mp z)))).symm hfM hmM.g hR
    · skip
      refine g_iload_n hc dX13_isSo_162 rfl ?_
      refine g_iload_n hc dX13_isSo_163 rfl ?_
      refine g_icmp_eq (tgt := 186) hc dX13_isSo_164 (by decide) (by first | exact hI _ _ | exact hxI2 _ _ | exact hIa _ _ | exact hIb _ _ | exact g_b32 | exact g_and32 | assumption | exact ⟨by omega, by omega⟩) (by first | exact hI _ _ | exact hxI2 _ _ | exact hIa _ _ | exact hIb _ _ | exact g_b32 | exact g_and32 | assumption | exact ⟨by omega, by omega⟩) (fun c5 => ?_) (fun c5 => ?_)
      · skip
        have hn9 : ¬ (¬ I 699 k = s ∧ I 699 k < I lb 0 ∧ g_prt I lb s (I 699 k) = I 700 k) := fun z => z.1 c5
        refine g_iconst hc dX13_isSo_186 ?_
        refine g_zret hc hm (by first | exact g_b01 | omega) dX13_isSo_187 ?_
        exact x_end (g_b0 (fun z => hn9 (hd.mp (g_hlb_iff.mp z)))).symm hfM hmM.g hR
      · skip
        refine g_aldn hc dX13_isSo_167 rfl ?_
        refine g_iload_n hc dX13_isSo_168 rfl ?_
        refine g_iload_n hc dX13_isSo_169 rfl ?_
        refine g_V2 hc (c_X13_partOf w hR hmM (by omega) (by omega) (by omega)) my_X13_partOf mv_X13_partOf ca_703 rfl rfl lm_X13_340 rfl (by decide) (Nat.le_of_ble_eq_true rfl) hm dX13_isSo_170 (fun r4 n4 I4 J4 R4 hp4 => ?_)
        obtain ⟨rfl, rfl, hK4, hX4, rfl, t4, hR⟩ := hp4
        have hmI4 : q_rel I lb I4 := q_cg (fun k j hk => hK4 k j (fun z => hk (x_wa z))) hX4 hmM
        have hfI4 : ∀ (k : Nat) (j : Int), ¬ x_w k j → I4 k j = M k j := fun k j hk => (hK4 k j hk).trans (hfM k j hk)
        have hpc := q_prt_comm hqS h1 (t := I 699 k) ⟨by omega, by omega⟩ (by omega) (by omega)
        rw [← hpc]
        have hpr179 : 0 ≤ g_prt I lb s (I 699 k) ∧ g_prt I lb s (I 699 k) < I lb 1 := by
          obtain ⟨i, i0, i1, i2⟩ := q_on_iff.mp (q_prt hqS h1 (t := I 699 k) ⟨by omega, by omega⟩ (by omega) (by omega)).1.1
          have := (hway i i0 i1).1
          omega
        refine g_aldn hc dX13_isSo_173 rfl ?_
        refine g_getRk hc lk_X13_87 ca_703 (rc_703_37 hR) dX13_isSo_174 ?_
        refine g_iload_n hc dX13_isSo_177 rfl ?_
        refine g_ialde hc ca_723 (by decide) (by omega) (by omega) (show I4 723 k = I 700 k from (hmI4.clu.2.2 _ (by omega) (by omega)).2.2) dX13_isSo_178 ?_
        refine g_icmp_ne (tgt := 186) hc dX13_isSo_179 (by decide) (by have := hpr179; exact ⟨by omega, by omega⟩) (hI _ _) (fun c6 => ?_) (fun c6 => ?_)
        · skip
          have hn9 : ¬ (¬ I 699 k = s ∧ I 699 k < I lb 0 ∧ g_prt I lb s (I 699 k) = I 700 k) := fun z => c6 z.2.2
          refine g_iconst hc dX13_isSo_186 ?_
          refine g_zret hc hm (by first | exact g_b01 | omega) dX13_isSo_187 ?_
          exact x_end (g_b0 (fun z => hn9 (hd.mp (g_hlb_iff.mp z)))).symm hfI4 hmI4.g hR
        · skip
          have hp9 : (¬ I 699 k = s ∧ I 699 k < I lb 0 ∧ g_prt I lb s (I 699 k) = I 700 k) := ⟨by omega, by omega, c6⟩
          refine g_iconst hc dX13_isSo_182 ?_
          refine g_goto (tgt := 187) hc dX13_isSo_183 (by decide) ?_
          refine g_zret hc hm (by first | exact g_b01 | omega) dX13_isSo_187 ?_
          exact x_end (g_b1 (g_hlb_iff.mpr (hd.mpr hp9))).symm hfI4 hmI4.g hR
  · skip
    refine g_tableIn (tgt := 48) (off := 35) hc dX13_isSo_13 (by first | exact hI _ _ | exact hxI2 _ _ | exact hIa _ _ | exact hIb _ _ | exact g_b32 | exact g_and32 | assumption | exact ⟨by omega, by omega⟩) (by omega) (by omega) (by rw [hsw]; rfl) (by decide) ?_
    have hd : g_hld I lb k s ↔ g_hfa I lb s (I 699 k) := by
      unfold g_hld
      rw [if_pos hsw]
    refine g_iload_n hc dX13_isSo_48 rfl ?_
    refine g_bipush hc dX13_isSo_49 (by decide +kernel) ?_
    refine g_icmp_ge (tgt := 70) hc dX13_isSo_51 (by decide) (by first | exact hI _ _ | exact hxI2 _ _ | exact hIa _ _ | exact hIb _ _ | exact g_b32 | exact g_and32 | assumption | exact ⟨by omega, by omega⟩) (by first | exact hI _ _ | exact hxI2 _ _ | exact hIa _ _ | exact hIb _ _ | exact g_b32 | exact g_and32 | assumption | exact ⟨by omega, by omega⟩) (fun c7 => ?_) (fun c7 => ?_)
    · skip
      have hn9 : ¬ g_hfa I lb s (I 699 k) := fun z => by have := z.1; omega
      refine g_iconst hc dX13_isSo_70 ?_
      refine g_zret hc hm (by first | exact g_b01 | omega) dX13_isSo_71 ?_
      exact x_end (g_b0 (fun z => hn9 (hd.mp (g_hlb_iff.mp z)))).symm hfM hmM.g hR
    · skip
      refine g_aldn hc dX13_isSo_54 rfl ?_
      refine g_iload_n hc dX13_isSo_55 rfl ?_
      refine g_V1 hc (c_X13_factsOf w hR hmM (by omega)) my_X13_factsOf mv_X13_factsOf ca_703 rfl rfl lm_X13_321 rfl (by decide) (Nat.le_of_ble_eq_true rfl) hm dX13_isSo_56 (fun r5 n5 I5 J5 R5 hp5 => ?_)
      obtain ⟨rfl, rfl, hK5, hX5, rfl, t5, hR⟩ := hp5
      have hmI5 : q_rel I lb I5 := q_cg (fun k j hk => hK5 k j (fun z => hk (x_wa z))) hX5 hmM
      have hfI5 : ∀ (k : Nat) (j : Int), ¬ x_w k j → I5 k j = M k j := fun k j hk => (hK5 k j hk).trans (hfM k j hk)
      refine g_iload_n hc dX13_isSo_59 rfl ?_
      refine g_S2r hc (c_X13_has w) my_X13_has ms_X13_has lm_X13_224 rfl (by decide) (Nat.le_of_ble_eq_true rfl) hm dX13_isSo_60 ?_
      refine g_ifb_eq (tgt := 70) hc dX13_isSo_63 (by decide)  (fun c8 => ?_) (fun c8 => ?_)
      · skip
        have hn9 : ¬ g_hfa I lb s (I 699 k) := fun z => c8 z.2
        refine g_iconst hc dX13_isSo_70 ?_
        refine g_zret hc hm (by first | exact g_b01 | omega) dX13_isSo_71 ?_
        exact x_end (g_b0 (fun z => hn9 (hd.mp (g_hlb_iff.mp z)))).symm hfI5 hmI5.g hR
      · skip
        have hp9 : g_hfa I lb s (I 699 k) := ⟨by omega, c8⟩
        refine g_iconst hc dX13_isSo_66 ?_
        refine g_goto (tgt := 71) hc dX13_isSo_67 (by decide) ?_
        refine g_zret hc hm (by first | exact g_b01 | omega) dX13_isSo_71 ?_
        exact x_end (g_b1 (g_hlb_iff.mpr (hd.mpr hp9))).symm hfI5 hmI5.g hR
  · skip
    refine g_tableIn (tgt := 72) (off := 59) hc dX13_isSo_13 (by first | exact hI _ _ | exact hxI2 _ _ | exact hIa _ _ | exact hIb _ _ | exact g_b32 | exact g_and32 | assumption | exact ⟨by omega, by omega⟩) (by omega) (by omega) (by rw [hsw]; rfl) (by decide) ?_
    have hd : g_hld I lb k s ↔ ¬ g_hfa I lb s (I 699 k) := by
      unfold g_hld
      rw [if_neg (by omega), if_pos hsw]
    refine g_iload_n hc dX13_isSo_72 rfl ?_
    refine g_bipush hc dX13_isSo_73 (by decide +kernel) ?_
    refine g_icmp_ge (tgt := 90) hc dX13_isSo_75 (by decide) (by first | exact hI _ _ | exact hxI2 _ _ | exact hIa _ _ | exact hIb _ _ | exact g_b32 | exact g_and32 | assumption | exact ⟨by omega, by omega⟩) (by first | exact hI _ _ | exact hxI2 _ _ | exact hIa _ _ | exact hIb _ _ | exact g_b32 | exact g_and32 | assumption | exact ⟨by omega, by omega⟩) (fun c9 => ?_) (fun c9 => ?_)
    · skip
      have hp9 : ¬ g_hfa I lb s (I 699 k) := fun z => by have := z.1; omega
      refine g_iconst hc dX13_isSo_90 ?_
      refine g_goto (tgt := 95) hc dX13_isSo_91 (by decide) ?_
      refine g_zret hc hm (by first | exact g_b01 | omega) dX13_isSo_95 ?_
      exact x_end (g_b1 (g_hlb_iff.mpr (hd.mpr hp9))).symm hfM hmM.g hR
    · skip
      refine g_aldn hc dX13_isSo_78 rfl ?_
      refine g_iload_n hc dX13_isSo_79 rfl ?_
      refine g_V1 hc (c_X13_factsOf w hR hmM (by omega)) my_X13_factsOf mv_X13_factsOf ca_703 rfl rfl lm_X13_321 rfl (by decide) (Nat.le_of_ble_eq_true rfl) hm dX13_isSo_80 (fun r6 n6 I6 J6 R6 hp6 => ?_)
      obtain ⟨rfl, rfl, hK6, hX6, rfl, t6, hR⟩ := hp6
      have hmI6 : q_rel I lb I6 := q_cg (fun k j hk => hK6 k j (fun z => hk (x_wa z))) hX6 hmM
      have hfI6 : ∀ (k : Nat) (j : Int), ¬ x_w k j → I6 k j = M k j := fun k j hk => (hK6 k j hk).trans (hfM k j hk)
      refine g_iload_n hc dX13_isSo_83 rfl ?_
      refine g_S2r hc (c_X13_has w) my_X13_has ms_X13_has lm_X13_224 rfl (by decide) (Nat.le_of_ble_eq_true rfl) hm dX13_isSo_84 ?_
      refine g_ifb_ne (tgt := 94) hc dX13_isSo_87 (by decide)  (fun c10 => ?_) (fun c10 => ?_)
      · skip
        have hn9 : ¬ ¬ g_hfa I lb s (I 699 k) := fun z => z ⟨by omega, c10⟩
        refine g_iconst hc dX13_isSo_94 ?_
        refine g_zret hc hm (by first | exact g_b01 | omega) dX13_isSo_95 ?_
        exact x_end (g_b0 (fun z => hn9 (hd.mp (g_hlb_iff.mp z)))).symm hfI6 hmI6.g hR
      · skip
        have hp9 : ¬ g_hfa I lb s (I 699 k) := fun z => c10 z.2
        refine g_iconst hc dX13_isSo_90 ?_
        refine g_goto (tgt := 95) hc dX13_isSo_91 (by decide) ?_
        refine g_zret hc hm (by first | exact g_b01 | omega) dX13_isSo_95 ?_
        exact x_end (g_b1 (g_hlb_iff.mpr (hd.mpr hp9))).symm hfI6 hmI6.g hR
  · skip
    refine g_tableIn (tgt := 96) (off := 83) hc dX13_isSo_13 (by first | exact hI _ _ | exact hxI2 _ _ | exact hIa _ _ | exact hIb _ _ | exact g_b32 | exact g_and32 | assumption | exact ⟨by omega, by omega⟩) (by omega) (by omega) (by rw [hsw]; rfl) (by decide) ?_
    have hd : g_hld I lb k s ↔ ¬ g_stp I lb s (I 699 k) = -1 := by
      unfold g_hld
      rw [if_neg (by omega), if_neg (by omega), if_pos hsw]
    refine g_aldn hc dX13_isSo_96 rfl ?_
    refine g_iload_n hc dX13_isSo_97 rfl ?_
    refine g_iload_n hc dX13_isSo_98 rfl ?_
    refine g_V2 hc (c_X13_branchOn w hR hmM (by omega) (by first | exact hI _ _ | exact hmM.g _ _ | exact g_b32 | exact g_and32 | exact g_or32 | exact g_shl32 | assumption | exact ⟨by omega, by omega⟩)) my_X13_branchOn mv_X13_branchOn ca_703 rfl rfl lm_X13_387 rfl (by decide) (Nat.le_of_ble_eq_true rfl) hm dX13_isSo_99 (fun r7 n7 I7 J7 R7 hp7 => ?_)
    obtain ⟨rfl, rfl, hK7, hX7, rfl, t7, hR⟩ := hp7
    have hmI7 : q_rel I lb I7 := q_cg (fun k j hk => hK7 k j (fun z => hk (x_wa z))) hX7 hmM
    have hfI7 : ∀ (k : Nat) (j : Int), ¬ x_w k j → I7 k j = M k j := fun k j hk => (hK7 k j hk).trans (hfM k j hk)
    have hbs : q_bo I lb s (I 699 k) = -1 ↔ g_stp I lb s (I 699 k) = -1 := by
      unfold q_bo
      rcases @q_stp I lb s (I 699 k) with ⟨z, -⟩ | ⟨z1, z2, z3⟩
      · rw [if_pos z]; exact ⟨fun _ => z, fun _ => rfl⟩
      · have := hway _ z1 z2
        rw [if_neg (by omega)]; exact ⟨fun y => by omega, fun y => by omega⟩
    refine g_iconst hc dX13_isSo_102 ?_
    refine g_icmp_eq (tgt := 110) hc dX13_isSo_103 (by decide) (by unfold q_bo; split <;> first | exact hI _ _ | exact ⟨by decide, by decide⟩) (by exact ⟨by decide, by decide⟩) (fun c11 => ?_) (fun c11 => ?_)
    · skip
      have hn9 : ¬ ¬ g_stp I lb s (I 699 k) = -1 := fun z => z (hbs.mp c11)
      refine g_iconst hc dX13_isSo_110 ?_
      refine g_zret hc hm (by first | exact g_b01 | omega) dX13_isSo_111 ?_
      exact x_end (g_b0 (fun z => hn9 (hd.mp (g_hlb_iff.mp z)))).symm hfI7 hmI7.g hR
    · skip
      have hp9 : ¬ g_stp I lb s (I 699 k) = -1 := fun z => c11 (hbs.mpr z)
      refine g_iconst hc dX13_isSo_106 ?_
      refine g_goto (tgt := 111) hc dX13_isSo_107 (by decide) ?_
      refine g_zret hc hm (by first | exact g_b01 | omega) dX13_isSo_111 ?_
      exact x_end (g_b1 (g_hlb_iff.mpr (hd.mpr hp9))).symm hfI7 hmI7.g hR
  · skip
    refine g_tableIn (tgt := 112) (off := 99) hc dX13_isSo_13 (by first | exact hI _ _ | exact hxI2 _ _ | exact hIa _ _ | exact hIb _ _ | exact g_b32 | exact g_and32 | assumption | exact ⟨by omega, by omega⟩) (by omega) (by omega) (by rw [hsw]; rfl) (by decide) ?_
    have hd : g_hld I lb k s ↔ I 699 k ≤ I (lb + 2 + s.toNat) 0 := by
      unfold g_hld
      rw [if_neg (by omega), if_neg (by omega), if_neg (by omega), if_pos hsw]
    refine g_aldn hc dX13_isSo_112 rfl ?_
    refine g_iload_n hc dX13_isSo_113 rfl ?_
    refine g_iconst hc dX13_isSo_114 ?_
    refine g_V2 hc (c_X13_hasOf w hR hmM (by omega) (by omega)) my_X13_hasOf mv_X13_hasOf ca_703 rfl rfl lm_X13_318 rfl (by decide) (Nat.le_of_ble_eq_true rfl) hm dX13_isSo_115 (fun r8 n8 I8 J8 R8 hp8 => ?_)
    obtain ⟨⟨rfl, rfl, hK8, hX8, rfl, t8, hR⟩, hwI8⟩ := hp8
    have hmI8 : q_rel I lb I8 := q_cg (fun k j hk => hK8 k j (fun z => hk (x_wa z))) hX8 hmM
    have hfI8 : ∀ (k : Nat) (j : Int), ¬ x_w k j → I8 k j = M k j := fun k j hk => (hK8 k j hk).trans (hfM k j hk)
    refine g_iload_n hc dX13_isSo_118 rfl ?_
    refine g_icmp_lt (tgt := 126) hc dX13_isSo_119 (by decide) (by first | exact hI _ _ | exact hxI2 _ _ | exact hIa _ _ | exact hIb _ _ | exact g_b32 | exact g_and32 | assumption | exact ⟨by omega, by omega⟩) (by first | exact hI _ _ | exact hxI2 _ _ | exact hIa _ _ | exact hIb _ _ | exact g_b32 | exact g_and32 | assumption | exact ⟨by omega, by omega⟩) (fun c12 => ?_) (fun c12 => ?_)
    · skip
      have hn9 : ¬ I 699 k ≤ I (lb + 2 + s.toNat) 0 := by omega
      refine g_iconst hc dX13_isSo_126 ?_
      refine g_zret hc hm (by first | exact g_b01 | omega) dX13_isSo_127 ?_
      exact x_end (g_b0 (fun z => hn9 (hd.mp (g_hlb_iff.mp z)))).symm hfI8 hmI8.g hR
    · skip
      have hp9 : I 699 k ≤ I (lb + 2 + s.toNat) 0 := by omega
      refine g_iconst hc dX13_isSo_122 ?_
      refine g_goto (tgt := 127) hc dX13_isSo_123 (by decide) ?_
      refine g_zret hc hm (by first | exact g_b01 | omega) dX13_isSo_127 ?_
      exact x_end (g_b1 (g_hlb_iff.mpr (hd.mpr hp9))).symm hfI8 hmI8.g hR
  · skip
    refine g_tableIn (tgt := 128) (off := 115) hc dX13_isSo_13 (by first | exact hI _ _ | exact hxI2 _ _ | exact hIa _ _ | exact hIb _ _ | exact g_b32 | exact g_and32 | assumption | exact ⟨by omega, by omega⟩) (by omega) (by omega) (by rw [hsw]; rfl) (by decide) ?_
    have hd : g_hld I lb k s ↔ I 699 k ≤ I (lb + 2 + s.toNat) 3 := by
      unfold g_hld
      rw [if_neg (by omega), if_neg (by omega), if_neg (by omega), if_neg (by omega), if_pos hsw]
    refine g_aldn hc dX13_isSo_128 rfl ?_
    refine g_getRk hc lk_X13_37 ca_703 (rc_703_18 hR) dX13_isSo_129 ?_
    refine g_aldn hc dX13_isSo_132 rfl ?_
    refine g_aldn hc dX13_isSo_133 rfl ?_
    refine g_getIe hc lk_X13_52 ca_703 24 rfl (show M 703 24 = I 0 12 from hmM.tab) dX13_isSo_134 ?_
    refine g_iload_n hc dX13_isSo_137 rfl ?_
    refine g_V2r hc (c_X13_leafAt w) my_X13_leafAt mv_X13_leafAt ca_703 rfl rfl lm_X13_235 rfl (by decide) (Nat.le_of_ble_eq_true rfl) hm dX13_isSo_138 ?_
    refine g_iconst hc dX13_isSo_141 ?_
    refine g_iadd hc dX13_isSo_142 ?_
    refine g_ialde hc ca_708 (by decide) (by omega) (by omega) (show M 708 ((((I 0 12) * 12 + s) * 7) + 2) = I (lb + 2 + s.toNat) 3 from q_l2 hmM (by omega)) dX13_isSo_143 ?_
    refine g_iload_n hc dX13_isSo_144 rfl ?_
    refine g_icmp_lt (tgt := 152) hc dX13_isSo_145 (by decide) (by first | exact hI _ _ | exact hxI2 _ _ | exact hIa _ _ | exact hIb _ _ | exact g_b32 | exact g_and32 | assumption | exact ⟨by omega, by omega⟩) (by first | exact hI _ _ | exact hxI2 _ _ | exact hIa _ _ | exact hIb _ _ | exact g_b32 | exact g_and32 | assumption | exact ⟨by omega, by omega⟩) (fun c13 => ?_) (fun c13 => ?_)
    · skip
      have hn9 : ¬ I 699 k ≤ I (lb + 2 + s.toNat) 3 := by omega
      refine g_iconst hc dX13_isSo_152 ?_
      refine g_zret hc hm (by first | exact g_b01 | omega) dX13_isSo_153 ?_
      exact x_end (g_b0 (fun z => hn9 (hd.mp (g_hlb_iff.mp z)))).symm hfM hmM.g hR
    · skip
      have hp9 : I 699 k ≤ I (lb + 2 + s.toNat) 3 := by omega
      refine g_iconst hc dX13_isSo_148 ?_
      refine g_goto (tgt := 153) hc dX13_isSo_149 (by decide) ?_
      refine g_zret hc hm (by first | exact g_b01 | omega) dX13_isSo_153 ?_
      exact x_end (g_b1 (g_hlb_iff.mpr (hd.mpr hp9))).symm hfM hmM.g hR
