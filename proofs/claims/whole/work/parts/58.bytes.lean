/-- the byte of a number at a shift -/
def g_by (v sh : Int) : Int := g_and (g_ushr v sh) 255
/-- how many bytes of a number aren't 0 -/
def g_bin (v : Int) : Int := g_sum (fun i => if g_by v (24 - 8 * i) = 0 then 0 else 1) 4
theorem g_by_in {v sh : Int} : 0 ≤ g_by v sh ∧ g_by v sh ≤ 255 := by
  have h := g_andm (a := g_ushr v sh) (m := 255) 8 (by decide +kernel) (by decide)
  have h2 : (2 : Int) ^ 8 = 256 := by decide
  unfold g_by
  omega
/-- a byte put in behind -/
def g_ap1 (I : g_I) (z : Int) : g_I := if ¬ z = 0 ∧ I 1 1 < 240 then g_up (g_up I 2 (I 1 1) z) 1 1 (I 1 1 + 1) else I
def g_apn (I : g_I) (v : Int) : Nat → g_I
  | 0 => I
  | n + 1 => g_ap1 (g_apn I v n) (g_by v (24 - 8 * n))
theorem g_apn_i {I : g_I} {v i : Int} (h : 0 ≤ i) : g_apn I v (i + 1).toNat = g_ap1 (g_apn I v i.toNat) (g_by v (24 - 8 * i)) := by
  rw [show (i + 1).toNat = i.toNat + 1 by omega, g_apn, show ((i.toNat : Nat) : Int) = i by omega]
/-- a number's bytes put in -/
def g_apd (I : g_I) (v : Int) : g_I := g_apn I v 4
set_option maxHeartbeats 4000000 in
set_option maxRecDepth 100000 in
/-- X8_bytesIn -/
theorem c_X8_bytesIn (w : g_W) {I : g_I} {J : g_J} {R : g_R} {v : Int} (h1 : g32 v) : g_Met w g_n I J R yX8_bytesIn cX8_bytesIn 3 (some .int) 0 0 0 [(gvI v)] (g_post (some (gvI (g_bin v))) g_n I J R) := by
  refine g_intro (own := RX8) [some (gvI v), none, none] (by decide +kernel) rfl (by decide) (Nat.le_of_ble_eq_true rfl) rfl (fun i v hv => g_args 2 i v hv rfl) (fun x hc hm => ?_)
  refine g_iconst hc dX8_bytesIn_0 ?_
  refine g_istore_1 hc dX8_bytesIn_1 rfl ?_
  refine g_bipush hc dX8_bytesIn_2 (by decide +kernel) ?_
  refine g_istore_2 hc dX8_bytesIn_4 rfl ?_
  have lp_5 : ∀ (fu : Nat) (a i h : Int), (0 ≤ i ∧ i ≤ 4) ∧ h = 24 - 8 * i → a = g_sum (fun i => if g_by v (24 - 8 * i) = 0 then 0 else 1) i.toNat → 4 - i < (fu : Int) → G w x (g_post (some (gvI (g_bin v))) g_n I J R) 0 0 g_n I J R 5 [some (gvI v), some (gvI a), some (gvI h)] [] := by
    intro fu
    induction fu with
    | zero => intro a i h h3 h4 hfu; exfalso; omega
    | succ fu ih =>
      intro a i h h3 h4 hfu
      have ih_5 := ih
      refine g_iload_n hc dX8_bytesIn_5 rfl ?_
      refine g_if_lt (tgt := 33) hc dX8_bytesIn_6 (by decide) (by first | exact hI _ _ | exact hxI2 _ _ | exact hIa _ _ | exact hIb _ _ | exact g_b32 | exact g_and32 | assumption | exact ⟨by omega, by omega⟩) (fun c1 => ?_) (fun c1 => ?_)
      · skip
        refine g_iload_n hc dX8_bytesIn_33 rfl ?_
        refine g_iret hc hm dX8_bytesIn_34 ?_
        exact g_postE (by rw [h4, show i = 4 by omega]; rfl)
      · skip
        refine g_iload_n hc dX8_bytesIn_9 rfl ?_
        refine g_iload_n hc dX8_bytesIn_10 rfl ?_
        refine g_iload_n hc dX8_bytesIn_11 rfl ?_
        refine g_iushr hc dX8_bytesIn_12 ?_
        refine g_sipush hc dX8_bytesIn_13 (by decide +kernel) ?_
        refine g_iand hc dX8_bytesIn_16 ?_
        refine g_if_ne (tgt := 24) hc dX8_bytesIn_17 (by decide) (by first | exact hI _ _ | exact hxI2 _ _ | exact hIa _ _ | exact hIb _ _ | exact g_b32 | exact g_and32 | assumption | exact ⟨by omega, by omega⟩) (fun c2 => ?_) (fun c2 => ?_)
        · skip
          refine g_iconst hc dX8_bytesIn_24 ?_
          refine g_iadd hc dX8_bytesIn_25 ?_
          refine g_istore_1 hc dX8_bytesIn_26 rfl ?_
          refine g_iinc_2 hc dX8_bytesIn_27 rfl ?_
          refine g_goto (tgt := 5) hc dX8_bytesIn_30 (by decide) ?_
          refine ih_5 _ (i + 1) _ ?_ ?_ ?_
          · show (0 ≤ i + 1 ∧ i + 1 ≤ 4) ∧ _ = 24 - 8 * (i + 1); omega
          · rw [g_sum_i h3.1.1, h4, ← h3.2]; first | rw [if_pos (by assumption)] | rw [if_neg (by assumption)]
          · omega
        · skip
          refine g_iconst hc dX8_bytesIn_20 ?_
          refine g_goto (tgt := 25) hc dX8_bytesIn_21 (by decide) ?_
          refine g_iadd hc dX8_bytesIn_25 ?_
          refine g_istore_1 hc dX8_bytesIn_26 rfl ?_
          refine g_iinc_2 hc dX8_bytesIn_27 rfl ?_
          refine g_goto (tgt := 5) hc dX8_bytesIn_30 (by decide) ?_
          refine ih_5 _ (i + 1) _ ?_ ?_ ?_
          · show (0 ≤ i + 1 ∧ i + 1 ≤ 4) ∧ _ = 24 - 8 * (i + 1); omega
          · rw [g_sum_i h3.1.1, h4, ← h3.2]; first | rw [if_pos (by assumption)] | rw [if_neg (by assumption)]
          · omega
  refine lp_5 5 _ 0 _ ?_ ?_ (?_)
  · exact ⟨⟨by decide, by decide⟩, by decide⟩
  · rfl
  · omega
set_option maxHeartbeats 4000000 in
set_option maxRecDepth 100000 in
/-- X8_append -/
theorem c_X8_append (w : g_W) {I : g_I} {J : g_J} {R : g_R} {lb tx : Nat} (hR : g_rf w R lb tx) {v : Int} (h1 : g32 v) (hn : 0 ≤ I 1 1 ∧ I 1 1 ≤ 240) : g_Met w g_n I J R yX8_append cX8_append 4 none 0 0 0 [(gvr w 1), (gvI v)] (g_post none g_n (g_apd I v) J R) := by
  refine g_intro (own := RX8) [some (gvr w 1), some (gvI v), none, none] (by decide +kernel) rfl (by decide) (Nat.le_of_ble_eq_true rfl) rfl (fun i v hv => g_args 2 i v hv rfl) (fun x hc hm => ?_)
  refine g_bipush hc dX8_append_0 (by decide +kernel) ?_
  refine g_istore_2 hc dX8_append_2 rfl ?_
  have lp_3 : ∀ (fu : Nat) (i h : Int) (Im : g_I), (0 ≤ i ∧ i ≤ 4) ∧ h = 24 - 8 * i → Im = g_apn I v i.toNat → 0 ≤ Im 1 1 ∧ Im 1 1 ≤ 240 → 4 - i < (fu : Int) → G w x (g_post none g_n (g_apd I v) J R) 0 0 g_n Im J R 3 [some (gvr w 1), some (gvI v), some (gvI h), none] [] := by
    intro fu
    induction fu with
    | zero => intro i h Im h3 h4 h5 hfu; exfalso; omega
    | succ fu ih =>
      intro i h Im h3 h4 h5 hfu
      have ih_3 := ih
      refine g_iload_n hc dX8_append_3 rfl ?_
      refine g_if_lt (tgt := 57) hc dX8_append_4 (by decide) (by first | exact hI _ _ | exact hxI2 _ _ | exact hIa _ _ | exact hIb _ _ | exact g_b32 | exact g_and32 | assumption | exact ⟨by omega, by omega⟩) (fun c1 => ?_) (fun c1 => ?_)
      · skip
        refine g_vret hc hm dX8_append_57 ?_
        exact ⟨rfl, rfl, by rw [h4, show i = 4 by omega]; rfl, rfl, rfl⟩
      · skip
        refine g_iload_n hc dX8_append_7 rfl ?_
        refine g_iload_n hc dX8_append_8 rfl ?_
        refine g_iushr hc dX8_append_9 ?_
        refine g_sipush hc dX8_append_10 (by decide +kernel) ?_
        refine g_iand hc dX8_append_13 ?_
        refine g_istore_3 hc dX8_append_14 rfl ?_
        refine g_iload_n hc dX8_append_15 rfl ?_
        refine g_if_eq (tgt := 51) hc dX8_append_16 (by decide) (by first | exact hI _ _ | exact hxI2 _ _ | exact hIa _ _ | exact hIb _ _ | exact g_b32 | exact g_and32 | assumption | exact ⟨by omega, by omega⟩) (fun c2 => ?_) (fun c2 => ?_)
        · skip
          refine g_iinc_2 hc dX8_append_51 rfl ?_
          refine g_goto (tgt := 3) hc dX8_append_54 (by decide) ?_
          refine G_sub (L' := [some (gvr w 1), some (gvI v), some (gvI (h + (-8))), none]) (show g_le _ _ from ⟨rfl, ⟨rfl, ⟨rfl, trivial⟩⟩⟩) ?_
          refine ih_3 (i + 1) _ _ ?_ ?_ ?_ ?_
          · show (0 ≤ i + 1 ∧ i + 1 ≤ 4) ∧ _ = 24 - 8 * (i + 1); omega
          · rw [g_apn_i h3.1.1, ← h4, ← h3.2, g_ap1]; first | (rw [if_pos ⟨by assumption, by omega⟩]; exact e3) | rw [if_neg (fun z => by first | exact absurd (by assumption) z.1 | omega)]
          · first | omega | (rw [e4]; omega)
          · omega
        · skip
          refine g_aldn hc dX8_append_19 rfl ?_
          refine g_getI' hc lk_X8_15 ca_1 1 rfl dX8_append_20 ?_
          refine g_aldn hc dX8_append_23 rfl ?_
          refine g_getRk hc lk_X8_9 ca_1 (rc_1_0 hR) dX8_append_24 ?_
          refine g_alen hc ca_2 (by decide) dX8_append_27 ?_
          refine g_icmp_ge (tgt := 51) hc dX8_append_28 (by decide) (by first | exact hI _ _ | exact hxI2 _ _ | exact hIa _ _ | exact hIb _ _ | exact g_b32 | exact g_and32 | assumption | exact ⟨by omega, by omega⟩) (by first | exact hI _ _ | exact hxI2 _ _ | exact hIa _ _ | exact hIb _ _ | exact g_b32 | exact g_and32 | assumption | exact ⟨by omega, by omega⟩) (fun c3 => ?_) (fun c3 => ?_)
          · skip
            refine g_iinc_2 hc dX8_append_51 rfl ?_
            refine g_goto (tgt := 3) hc dX8_append_54 (by decide) ?_
            refine G_sub (L' := [some (gvr w 1), some (gvI v), some (gvI (h + (-8))), none]) (show g_le _ _ from ⟨rfl, ⟨rfl, ⟨rfl, trivial⟩⟩⟩) ?_
            refine ih_3 (i + 1) _ _ ?_ ?_ ?_ ?_
            · show (0 ≤ i + 1 ∧ i + 1 ≤ 4) ∧ _ = 24 - 8 * (i + 1); omega
            · rw [g_apn_i h3.1.1, ← h4, ← h3.2, g_ap1]; first | (rw [if_pos ⟨by assumption, by omega⟩]; exact e3) | rw [if_neg (fun z => by first | exact absurd (by assumption) z.1 | omega)]
            · first | omega | (rw [e4]; omega)
            · omega
          · skip
            refine g_aldn hc dX8_append_31 rfl ?_
            refine g_getRk hc lk_X8_9 ca_1 (rc_1_0 hR) dX8_append_32 ?_
            refine g_aldn hc dX8_append_35 rfl ?_
            refine g_getI' hc lk_X8_15 ca_1 1 rfl dX8_append_36 ?_
            refine g_iload_n hc dX8_append_39 rfl ?_
            refine g_iast' hc ca_2 (by decide) (by omega) (by omega)  dX8_append_40 (fun I3 hI3 => ?_)
            have e1 : I3 1 1 = Im 1 1 := by rw [hI3, g_up_k (by decide)]
            refine g_aldn hc dX8_append_41 rfl ?_
            refine g_dup hc dX8_append_42 rfl ?_
            refine g_getI' hc lk_X8_15 ca_1 1 rfl dX8_append_43 ?_
            refine g_iconst hc dX8_append_46 ?_
            refine g_iadd hc dX8_append_47 ?_
            refine g_putI' hc lk_X8_15 ca_1 1 rfl dX8_append_48 (fun I4 hI4 => ?_)
            have e3 : I4 = g_up (g_up Im 2 (Im 1 1) (g_by v h)) 1 1 (Im 1 1 + 1) := by rw [hI4, e1, hI3]; rfl
            have e4 : I4 1 1 = Im 1 1 + 1 := by rw [hI4, g_up_s, e1]
            refine g_iinc_2 hc dX8_append_51 rfl ?_
            refine g_goto (tgt := 3) hc dX8_append_54 (by decide) ?_
            refine G_sub (L' := [some (gvr w 1), some (gvI v), some (gvI (h + (-8))), none]) (show g_le _ _ from ⟨rfl, ⟨rfl, ⟨rfl, trivial⟩⟩⟩) ?_
            refine ih_3 (i + 1) _ _ ?_ ?_ ?_ ?_
            · show (0 ≤ i + 1 ∧ i + 1 ≤ 4) ∧ _ = 24 - 8 * (i + 1); omega
            · rw [g_apn_i h3.1.1, ← h4, ← h3.2, g_ap1]; first | (rw [if_pos ⟨by assumption, by omega⟩]; exact e3) | rw [if_neg (fun z => by first | exact absurd (by assumption) z.1 | omega)]
            · first | omega | (rw [e4]; omega)
            · omega
  refine lp_3 5 0 _ _ ?_ ?_ ?_ (?_)
  · exact ⟨⟨by decide, by decide⟩, by decide⟩
  · rfl
  · omega
  · omega
