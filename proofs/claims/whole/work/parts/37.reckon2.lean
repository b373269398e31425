theorem g_chv_in {I I2 : g_I} {b : Nat} {f lo : Int} (hL : g_lok I b) (hv : g_vok I b I2 lo) (hlo : lo ≤ f + 1) (hf : 0 ≤ f ∧ f < I b 1) : -100030000 ≤ g_chv I b (g_w5 I b) f ∧ g_chv I b (g_w5 I b) f ≤ 100030000 := by
  have hbb := g_bhd_in (f := f) hL hv hlo
  obtain ⟨-, -, -, h4⟩ := hL
  obtain ⟨hk2, hk1, hy, hit⟩ := h4 f hf.1 hf.2
  have hw := fun (r : Int) (h0 : 0 ≤ r) (h1 : r < I (b + 43) f) => (hit r h0 h1).1
  have key : ∀ n : Nat, (n : Int) ≤ I (b + 43) f → -(100030000 * g_wt I b f (I 550 (4 + f)) n) ≤ g_sum (fun r => if g_bit (I 550 (4 + f)) r then g_bhd I b (g_w5 I b) f r * I (b + 47 + (f * 4 + r).toNat) 0 else 0) n ∧ g_sum (fun r => if g_bit (I 550 (4 + f)) r then g_bhd I b (g_w5 I b) f r * I (b + 47 + (f * 4 + r).toNat) 0 else 0) n ≤ 100030000 * g_wt I b f (I 550 (4 + f)) n := by
    intro n
    induction n with
    | zero => intro _; simp [g_wt, g_sum]
    | succ n ih =>
      intro hn
      have ih := ih (by omega)
      have h9 := hw n (by omega) (by omega)
      have hb := hbb n
      unfold g_wt at ih ⊢
      rw [g_sum, g_sum]
      by_cases hbit : g_bit (I 550 (4 + f)) n
      · rw [if_pos hbit, if_pos hbit]
        have h1 : g_bhd I b (g_w5 I b) f n * I (b + 47 + (f * 4 + (n : Int)).toNat) 0 ≤ 100030000 * I (b + 47 + (f * 4 + (n : Int)).toNat) 0 := Int.mul_le_mul_of_nonneg_right hb.2 (by omega)
        have h2 : -100030000 * I (b + 47 + (f * 4 + (n : Int)).toNat) 0 ≤ g_bhd I b (g_w5 I b) f n * I (b + 47 + (f * 4 + (n : Int)).toNat) 0 := Int.mul_le_mul_of_nonneg_right hb.1 (by omega)
        omega
      · rw [if_neg hbit, if_neg hbit]
        omega
  have hk := key (I (b + 43) f).toNat (by omega)
  have hwin := g_wt_in (m := I 550 (4 + f)) hw (I (b + 43) f).toNat (by omega)
  unfold g_chv
  split
  · omega
  · rename_i hne
    generalize g_sum (fun r => if g_bit (I 550 (4 + f)) r then g_bhd I b (g_w5 I b) f r * I (b + 47 + (f * 4 + r).toNat) 0 else 0) (I (b + 43) f).toNat = S at hk ⊢
    generalize g_wt I b f (I 550 (4 + f)) (I (b + 43) f).toNat = c at hk hwin hne ⊢
    have hc : 0 < c := by omega
    have e1 : (S.tdiv c).natAbs = S.natAbs / c.natAbs := Int.natAbs_tdiv S c
    have e2 : S.natAbs / c.natAbs ≤ 100030000 := Nat.div_le_of_le_mul (by omega)
    omega
set_option maxHeartbeats 4000000 in
set_option maxRecDepth 100000 in
/-- X11_reckon -/
theorem c_X11_reckon (w : g_W) {I : g_I} {J : g_J} {R : g_R} {lb tx : Nat} (hR : g_rf w R lb tx) (hlb : g_life lb) {I2 : g_I} (hI : ∀ k j, g32 (I k j)) (hsI2 : g_off I I2) (hxI2 : ∀ k j, g32 (I2 k j)) (hC : g_cin I lb) : g_Met w g_n I2 J R yX11_reckon cX11_reckon 3 none 5 0 0 [(gvr w 683)] (fun rr nn II JJ RR => g_rel w none g_sV I2 J R rr nn II JJ RR ∧ g_vok I lb II 0) := by
  refine g_intro (own := RX11) [some (gvr w 683), none, none] (by decide +kernel) rfl (by decide) (Nat.le_of_ble_eq_true rfl) rfl (fun i v hv => g_args 2 i v hv rfl) (fun x hc hm => ?_)
  have hL := hC.1
  obtain ⟨hn0, hn1, hLs, hLf⟩ := id hL
  obtain ⟨-, hC1, hC2, hC3, hC4, hC5, hC6, hC7⟩ := id hC
  have hlb5 := hlb
  unfold g_life at hlb5
  have hdI2 : ∀ k : Nat, ¬ g_sV k → I2 k = I2 k := fun _ _ => rfl
  refine g_aldn hc dX11_reckon_0 rfl ?_
  refine g_getRk hc lk_X11_18 ca_683 (rc_683_0 hR) dX11_reckon_1 ?_
  refine g_getRvk hc lk_X11_22 ca_548 (rc_548_3 hR) dX11_reckon_4 ?_
  refine g_astore_1 hc dX11_reckon_7 rfl ?_
  refine g_iconst hc dX11_reckon_8 ?_
  refine g_istore_2 hc dX11_reckon_9 rfl ?_
  have lp_10 : ∀ (fu : Nat) (i : Int) (Im : g_I), 0 ≤ i ∧ i ≤ I lb 0 → g_off I Im → (∀ k j, g32 (Im k j)) → (∀ k : Nat, ¬ g_sV k → Im k = I2 k) → (∀ s : Int, 0 ≤ s → s < i → Im 684 s = 100 * g_lkd I lb s ∧ -100030000 ≤ Im 684 s ∧ Im 684 s ≤ 100030000) → I lb 0 - i < (fu : Int) → G w x (fun rr nn II JJ RR => g_rel w none g_sV I2 J R rr nn II JJ RR ∧ g_vok I lb II 0) 0 0 g_n Im J R 10 [some (gvr w 683), some (gvr w lb), some (gvI i)] [] := by
    intro fu
    induction fu with
    | zero => intro i Im h3 hsIm hxIm hdIm hrow hfu; exfalso; omega
    | succ fu ih =>
      intro i Im h3 hsIm hxIm hdIm hrow hfu
      have ih_10 := ih
      refine g_iload_n hc dX11_reckon_10 rfl ?_
      refine g_aldn hc dX11_reckon_11 rfl ?_
      refine g_getIe hc lk_X11_28 (la_0 hlb) 0 rfl (congrFun (hsIm _ (by omega)) _) dX11_reckon_12 ?_
      refine g_icmp_ge (tgt := 41) hc dX11_reckon_15 (by decide) (by first | exact hI _ _ | exact hxI2 _ _ | exact hIa _ _ | exact hIb _ _ | exact g_b32 | exact g_and32 | assumption | exact ⟨by omega, by omega⟩) (by first | exact hI _ _ | exact hxI2 _ _ | exact hIa _ _ | exact hIb _ _ | exact g_b32 | exact g_and32 | assumption | exact ⟨by omega, by omega⟩) (fun c1 => ?_) (fun c1 => ?_)
      · skip
        refine g_aldn hc dX11_reckon_41 rfl ?_
        refine g_getIe hc lk_X11_38 (la_0 hlb) 1 rfl (congrFun (hsIm _ (by omega)) _) dX11_reckon_42 ?_
        refine g_iconst hc dX11_reckon_45 ?_
        refine g_isub hc dX11_reckon_46 ?_
        refine g_istore_2 hc dX11_reckon_47 rfl ?_
        have lp_48 : ∀ (fu : Nat) (i : Int) (In : g_I), -1 ≤ i ∧ i < I lb 1 → g_off I In → (∀ k j, g32 (In k j)) → (∀ k : Nat, ¬ g_sV k → In k = I2 k) → g_vok I lb In (i + 1) → i + 1 < (fu : Int) → G w x (fun rr nn II JJ RR => g_rel w none g_sV I2 J R rr nn II JJ RR ∧ g_vok I lb II 0) 0 0 g_n In J R 48 [some (gvr w 683), some (gvr w lb), some (gvI i)] [] := by
          intro fu
          induction fu with
          | zero => intro i In h3 hsIn hxIn hdIn hVIn hfu; exfalso; omega
          | succ fu ih =>
            intro i In h3 hsIn hxIn hdIn hVIn hfu
            have ih_48 := ih
            refine g_iload_n hc dX11_reckon_48 rfl ?_
            refine g_if_lt (tgt := 92) hc dX11_reckon_49 (by decide) (by first | exact hI _ _ | exact hxI2 _ _ | exact hIa _ _ | exact hIb _ _ | exact g_b32 | exact g_and32 | assumption | exact ⟨by omega, by omega⟩) (fun c2 => ?_) (fun c2 => ?_)
            · skip
              refine g_vret hc hm dX11_reckon_92 ?_
              exact ⟨⟨rfl, rfl, hdIn, hxIn, rfl, rfl⟩, hVIn.1, fun f h0 h1 => hVIn.2 f (by omega) h1⟩
            · skip
              obtain ⟨hk2, hk1, hy, hit⟩ := hLf i (by omega) (by omega)
              have hbsi := g_bsn_in (I := I) (b := lb) (f := i) (W5 := g_w5 I lb) (I (lb + 43) i).toNat
              change -1 ≤ g_bst I lb (g_w5 I lb) i ∧ g_bst I lb (g_w5 I lb) i < _ at hbsi
              have hbb := g_bhd_in (f := i) hL hVIn (by omega) (g_bst I lb (g_w5 I lb) i)
              have hcv := g_chv_in hL hVIn (f := i) (by omega) (by omega)
              refine g_aldn hc dX11_reckon_52 rfl ?_
              refine g_getRk hc lk_X11_15 ca_683 (rc_683_2 hR) dX11_reckon_53 ?_
              refine g_iload_n hc dX11_reckon_56 rfl ?_
              refine g_aldn hc dX11_reckon_57 rfl ?_
              refine g_getRk hc lk_X11_41 (la_0 hlb) (rl_7 hR hlb) dX11_reckon_58 ?_
              refine g_iload_n hc dX11_reckon_61 rfl ?_
              refine g_ialde hc (la_42 hlb) (by decide) (by omega) (by omega) (congrFun (hsIn _ (by omega)) _) dX11_reckon_62 ?_
              refine g_iconst hc dX11_reckon_63 ?_
              refine g_icmp_ne (tgt := 75) hc dX11_reckon_64 (by decide) (by first | exact hI _ _ | exact hxI2 _ _ | exact hIa _ _ | exact hIb _ _ | exact g_b32 | exact g_and32 | assumption | exact ⟨by omega, by omega⟩) (by first | exact hI _ _ | exact hxI2 _ _ | exact hIa _ _ | exact hIb _ _ | exact g_b32 | exact g_and32 | assumption | exact ⟨by omega, by omega⟩) (fun c3 => ?_) (fun c3 => ?_)
              · skip
                refine g_aldn hc dX11_reckon_75 rfl ?_
                refine g_iload_n hc dX11_reckon_76 rfl ?_
                refine g_aldn hc dX11_reckon_77 rfl ?_
                refine g_iload_n hc dX11_reckon_78 rfl ?_
                refine g_V1r hc (c_X11_bestBranch w hR hlb hI hsIn hxIn hC hVIn (by omega) (by omega)) my_X11_bestBranch mv_X11_bestBranch ca_683 rfl rfl lm_X11_47 rfl (by decide) (Nat.le_of_ble_eq_true rfl) hm dX11_reckon_79 ?_
                refine g_V2r hc (c_X11_behind w hR hlb hI hsIn hxIn hC hVIn (by first | exact hI _ _ | exact hxI2 _ _ | exact hIa _ _ | exact hIb _ _ | exact g_b32 | exact g_and32 | assumption | exact ⟨by omega, by omega⟩) (by first | exact hI _ _ | exact hxI2 _ _ | exact hIa _ _ | exact hIb _ _ | exact g_b32 | exact g_and32 | assumption | exact ⟨by omega, by omega⟩) (by omega)) my_X11_behind mv_X11_behind ca_683 rfl rfl lm_X11_50 rfl (by decide) (Nat.le_of_ble_eq_true rfl) hm dX11_reckon_82 ?_
                obtain ⟨I3, hI3⟩ : ∃ I3, I3 = g_up In 685 i (g_bhd I lb (g_w5 I lb) i (g_bst I lb (g_w5 I lb) i)) := ⟨_, rfl⟩
                have hsI3 : g_off I I3 := fun k hk => by
                  rw [hI3]; funext j; rw [g_up_k (by omega)]; exact congrFun (hsIn k hk) j
                have hfI3 : ∀ k : Nat, k ≠ 685 → I3 k = In k := fun k hk => by rw [hI3]; funext j; exact g_up_k hk
                have hdI3 : ∀ k : Nat, ¬ g_sV k → I3 k = I2 k := fun k hk => (hfI3 k (by omega)).trans (hdIn k hk)
                have hxI3 : ∀ k j, g32 (I3 k j) := by rw [hI3]; exact g_up32 hxIn (by exact ⟨by omega, by omega⟩)
                refine g_iaste (I2 := I3) hc ca_685 (by decide) (by omega) (by omega) hI3.symm dX11_reckon_85 ?_
                have hvn : g_vok I lb I3 (i + -1 + 1) := ⟨fun s h0 h1 => by rw [hfI3 684 (by decide)]; exact hVIn.1 s h0 h1, fun f h0 h1 => by
                  rw [hI3]
                  by_cases e : f = i
                  · subst e; rw [g_up_s, g_w5_eq hL (by omega) (by omega)]; unfold g_st5; first | rw [if_pos (by assumption)] | rw [if_neg (by assumption)]
                    exact ⟨rfl, by omega, by omega⟩
                  · rw [g_up_i e]; exact hVIn.2 f (by omega) h1⟩
                refine g_iinc_2 hc dX11_reckon_86 rfl ?_
                refine g_goto (tgt := 48) hc dX11_reckon_89 (by decide) ?_
                refine ih_48 _ _ ?_ ?_ ?_ ?_ ?_ ?_
                · omega
                · exact hsI3
                · exact hxI3
                · exact hdI3
                · exact hvn
                · omega
              · skip
                refine g_aldn hc dX11_reckon_67 rfl ?_
                refine g_iload_n hc dX11_reckon_68 rfl ?_
                refine g_V1r hc (c_X11_byChance w hR hlb hI hsIn hxIn hC hVIn (by omega) (by omega)) my_X11_byChance mv_X11_byChance ca_683 rfl rfl lm_X11_44 rfl (by decide) (Nat.le_of_ble_eq_true rfl) hm dX11_reckon_69 ?_
                refine g_goto (tgt := 85) hc dX11_reckon_72 (by decide) ?_
                obtain ⟨I4, hI4⟩ : ∃ I4, I4 = g_up In 685 i (g_chv I lb (g_w5 I lb) i) := ⟨_, rfl⟩
                have hsI4 : g_off I I4 := fun k hk => by
                  rw [hI4]; funext j; rw [g_up_k (by omega)]; exact congrFun (hsIn k hk) j
                have hfI4 : ∀ k : Nat, k ≠ 685 → I4 k = In k := fun k hk => by rw [hI4]; funext j; exact g_up_k hk
                have hdI4 : ∀ k : Nat, ¬ g_sV k → I4 k = I2 k := fun k hk => (hfI4 k (by omega)).trans (hdIn k hk)
                have hxI4 : ∀ k j, g32 (I4 k j) := by rw [hI4]; exact g_up32 hxIn (by exact ⟨by omega, by omega⟩)
                refine g_iaste (I2 := I4) hc ca_685 (by decide) (by omega) (by omega) hI4.symm dX11_reckon_85 ?_
                have hvn : g_vok I lb I4 (i + -1 + 1) := ⟨fun s h0 h1 => by rw [hfI4 684 (by decide)]; exact hVIn.1 s h0 h1, fun f h0 h1 => by
                  rw [hI4]
                  by_cases e : f = i
                  · subst e; rw [g_up_s, g_w5_eq hL (by omega) (by omega)]; unfold g_st5; first | rw [if_pos (by assumption)] | rw [if_neg (by assumption)]
                    exact ⟨rfl, by omega, by omega⟩
                  · rw [g_up_i e]; exact hVIn.2 f (by omega) h1⟩
                refine g_iinc_2 hc dX11_reckon_86 rfl ?_
                refine g_goto (tgt := 48) hc dX11_reckon_89 (by decide) ?_
                refine ih_48 _ _ ?_ ?_ ?_ ?_ ?_ ?_
                · omega
                · exact hsI4
                · exact hxI4
                · exact hdI4
                · exact hvn
                · omega
        refine lp_48 (I lb 1 + 1).toNat _ _ ?_ ?_ ?_ ?_ ?_ (?_)
        · omega
        · exact hsIm
        · exact hxIm
        · exact hdIm
        · exact ⟨fun s h0 h1 => hrow s h0 (by omega), fun f h0 h1 => by omega⟩
        · omega
      · skip
        refine g_aldn hc dX11_reckon_18 rfl ?_
        refine g_getRk hc lk_X11_9 ca_683 (rc_683_1 hR) dX11_reckon_19 ?_
        refine g_iload_n hc dX11_reckon_22 rfl ?_
        refine g_bipush hc dX11_reckon_23 (by decide +kernel) ?_
        refine g_aldn hc dX11_reckon_25 rfl ?_
        refine g_getRk hc lk_X11_18 ca_683 (rc_683_0 hR) dX11_reckon_26 ?_
        refine g_iload_n hc dX11_reckon_29 rfl ?_
        refine g_V1 hc (c_X7_liked w hR hlb hI hsIm hxIm hC (by omega)) my_X7_liked mv_X7_liked ca_548 rfl rfl lm_X11_34 rfl (by decide) (Nat.le_of_ble_eq_true rfl) hm dX11_reckon_30 (fun r5 n5 I5 J5 R5 hp5 => ?_)
        obtain ⟨⟨rfl, rfl, hfI5, hxI5, rfl, rfl⟩, hb5⟩ := hp5
        have hsI5 : g_off I I5 := fun k hk => (hfI5 k (fun q => hk (by omega))).trans (hsIm k hk)
        have hdI5 : ∀ k : Nat, ¬ g_sV k → I5 k = I2 k := fun k hk => (hfI5 k (fun q => hk (by omega))).trans (hdIm k hk)
        refine g_imul hc dX11_reckon_33 ?_
        obtain ⟨I6, hI6⟩ : ∃ I6, I6 = g_up I5 684 i (100 * (g_lkd I lb i)) := ⟨_, rfl⟩
        have hsI6 : g_off I I6 := fun k hk => by
          rw [hI6]; funext j; rw [g_up_k (by omega)]; exact congrFun (hsI5 k hk) j
        have hfI6 : ∀ k : Nat, k ≠ 684 → I6 k = I5 k := fun k hk => by rw [hI6]; funext j; exact g_up_k hk
        have hdI6 : ∀ k : Nat, ¬ g_sV k → I6 k = I2 k := fun k hk => (hfI6 k (by omega)).trans (hdI5 k hk)
        have hxI6 : ∀ k j, g32 (I6 k j) := by rw [hI6]; exact g_up32 hxI5 (by exact ⟨by omega, by omega⟩)
        refine g_iaste (I2 := I6) hc ca_684 (by decide) (by omega) (by omega) hI6.symm dX11_reckon_34 ?_
        have hrow4 : (∀ s : Int, 0 ≤ s → s < i + 1 → I6 684 s = 100 * g_lkd I lb s ∧ -100030000 ≤ I6 684 s ∧ I6 684 s ≤ 100030000) := fun s h0 h1 => by
          rw [hI6]
          by_cases e : s = i
          · subst e; rw [g_up_s]; exact ⟨rfl, by omega, by omega⟩
          · rw [g_up_i e, hfI5 684 (by decide)]; exact hrow s h0 (by omega)
        refine g_iinc_2 hc dX11_reckon_35 rfl ?_
        refine g_goto (tgt := 10) hc dX11_reckon_38 (by decide) ?_
        refine ih_10 _ _ ?_ ?_ ?_ ?_ ?_ ?_
        · omega
        · exact hsI6
        · exact hxI6
        · exact hdI6
        · exact hrow4
        · omega
  refine lp_10 (I lb 0 + 1).toNat _ _ ?_ ?_ ?_ ?_ ?_ (?_)
  · omega
  · exact hsI2
  · exact hxI2
  · exact hdI2
  · intro s h0 h1; omega
  · omega
