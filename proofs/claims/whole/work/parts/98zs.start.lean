/-! ===== the law from its entry ===== -/
def gs_up8 (I : g_I) : g_I := g_up (g_up (g_up (g_up (g_up (g_up (g_up (g_up I 550 1 (-1)) 550 2 (-1)) 0 12 (-1)) 703 24 (-1)) 714 0 0) 714 1 (-1)) 714 2 (-1)) 714 3 0
def gs_A : g_I := gs_up8 (fun _ _ => 0)
theorem gs_up_01 {I : g_I} {k : Nat} {i v : Int} (h : ∀ a j, I a j = 0 ∨ I a j = -1) (hv : v = 0 ∨ v = -1) : ∀ a j, g_up I k i v a j = 0 ∨ g_up I k i v a j = -1 := by
  intro a j
  unfold g_up
  by_cases e : a = k ∧ j = i
  · rw [if_pos e]; exact hv
  · rw [if_neg e]; exact h a j
theorem gs_up8_k {I : g_I} {a : Nat} {j : Int} (h : a ≠ 550 ∧ a ≠ 0 ∧ a ≠ 703 ∧ a ≠ 714) : gs_up8 I a j = I a j := by
  unfold gs_up8
  rw [g_up_k h.2.2.2, g_up_k h.2.2.2, g_up_k h.2.2.2, g_up_k h.2.2.2, g_up_k h.2.2.1, g_up_k h.2.1, g_up_k h.1, g_up_k h.1]
theorem gs_q : q_inv gs_A 555 := by
  have h01 : ∀ a j, gs_A a j = 0 ∨ gs_A a j = -1 := gs_up_01 (gs_up_01 (gs_up_01 (gs_up_01 (gs_up_01 (gs_up_01 (gs_up_01 (gs_up_01 (fun _ _ => .inl rfl) (.inr rfl)) (.inr rfl)) (.inr rfl)) (.inr rfl)) (.inl rfl)) (.inr rfl)) (.inr rfl)) (.inl rfl)
  refine q_inv_0 (fun k j => ?_) (by decide +kernel) (by decide +kernel) (fun k h0 h1 => ?_) (by decide +kernel) (fun k hk j => ?_)
  · rcases h01 k j with h | h <;> rw [h] <;> exact ⟨by decide, by decide⟩
  · have hk : k = 0 ∨ k = 1 ∨ k = 2 ∨ k = 3 := by omega
    rcases hk with rfl | rfl | rfl | rfl <;> decide +kernel
  · exact gs_up8_k ⟨by omega, by omega, by omega, by omega⟩
/-- the references, when both objects are made -/
theorem gs_rf {w : g_W} {R R2 : g_R} (hF : gz_F w R) (hk : gz_kp R R2 703 704 728)
    (hr : R2 703 1 = some (w.2.2.2.1 + 704) ∧ R2 703 2 = some (w.2.2.2.1 + 705) ∧ R2 703 3 = some (w.2.2.2.1 + 706) ∧ R2 703 4 = some (w.2.2.2.1 + 707) ∧ R2 703 18 = some (w.2.2.2.1 + 708) ∧ R2 703 19 = some (w.2.2.2.1 + 709) ∧ R2 703 20 = some (w.2.2.2.1 + 710) ∧ R2 703 21 = some (w.2.2.2.1 + 711) ∧ R2 703 22 = some (w.2.2.2.1 + 712) ∧ R2 703 25 = some (w.2.2.2.1 + 713) ∧ R2 703 26 = some (w.2.2.2.1 + 714) ∧ R2 703 27 = some (w.2.2.2.1 + 715) ∧ R2 703 28 = some (w.2.2.2.1 + 716) ∧ R2 703 30 = some (w.2.2.2.1 + 717) ∧ R2 703 31 = some (w.2.2.2.1 + 718) ∧ R2 703 33 = some (w.2.2.2.1 + 719) ∧ R2 703 34 = some (w.2.2.2.1 + 720) ∧ R2 703 35 = some (w.2.2.2.1 + 721) ∧ R2 703 36 = some (w.2.2.2.1 + 722) ∧ R2 703 37 = some (w.2.2.2.1 + 723) ∧ R2 703 39 = some (w.2.2.2.1 + 724) ∧ R2 703 40 = some (w.2.2.2.1 + 725) ∧ R2 703 43 = some (w.2.2.2.1 + 726) ∧ R2 703 44 = some (w.2.2.2.1 + 727) ∧ R2 703 15 = some (w.2.2.2.2 109) ∧ R2 703 16 = some (w.2.2.2.2 103) ∧ R2 703 5 = some (w.2.2.2.1 + 704)) : g_rf w R2 555 704 := by
  obtain ⟨f1, f2, f3, f4, f18, f19, f20, f21, f22, f25, f26, f27, f28, f30, f31, f33, f34, f35, f36, f37, f39, f40, f43, f44, f15, f16, f5⟩ := hr
  have c1 : ∀ q ∈ g_rtab, q.1 < 703 ∨ q ∈ ([(703, 1, 704), (703, 2, 705), (703, 3, 706), (703, 4, 707), (703, 18, 708), (703, 19, 709), (703, 20, 710), (703, 21, 711), (703, 22, 712), (703, 25, 713), (703, 26, 714), (703, 27, 715), (703, 28, 716), (703, 30, 717), (703, 31, 718), (703, 33, 719), (703, 34, 720), (703, 35, 721), (703, 36, 722), (703, 37, 723), (703, 39, 724), (703, 40, 725), (703, 43, 726), (703, 44, 727)] : List (Nat × Int × Nat)) := by decide +kernel
  have c2 : ∀ q ∈ g_etab, q.1 < 703 ∨ q ∈ ([(703, 15, 109), (703, 16, 103)] : List (Nat × Int × Nat)) := by decide +kernel
  have d1 : ∀ q ∈ ([(703, 1, 704), (703, 2, 705), (703, 3, 706), (703, 4, 707), (703, 18, 708), (703, 19, 709), (703, 20, 710), (703, 21, 711), (703, 22, 712), (703, 25, 713), (703, 26, 714), (703, 27, 715), (703, 28, 716), (703, 30, 717), (703, 31, 718), (703, 33, 719), (703, 34, 720), (703, 35, 721), (703, 36, 722), (703, 37, 723), (703, 39, 724), (703, 40, 725), (703, 43, 726), (703, 44, 727)] : List (Nat × Int × Nat)), R2 q.1 q.2.1 = some (w.2.2.2.1 + q.2.2) := List.forall_mem_cons.mpr ⟨f1, List.forall_mem_cons.mpr ⟨f2, List.forall_mem_cons.mpr ⟨f3, List.forall_mem_cons.mpr ⟨f4, List.forall_mem_cons.mpr ⟨f18, List.forall_mem_cons.mpr ⟨f19, List.forall_mem_cons.mpr ⟨f20, List.forall_mem_cons.mpr ⟨f21, List.forall_mem_cons.mpr ⟨f22, List.forall_mem_cons.mpr ⟨f25, List.forall_mem_cons.mpr ⟨f26, List.forall_mem_cons.mpr ⟨f27, List.forall_mem_cons.mpr ⟨f28, List.forall_mem_cons.mpr ⟨f30, List.forall_mem_cons.mpr ⟨f31, List.forall_mem_cons.mpr ⟨f33, List.forall_mem_cons.mpr ⟨f34, List.forall_mem_cons.mpr ⟨f35, List.forall_mem_cons.mpr ⟨f36, List.forall_mem_cons.mpr ⟨f37, List.forall_mem_cons.mpr ⟨f39, List.forall_mem_cons.mpr ⟨f40, List.forall_mem_cons.mpr ⟨f43, List.forall_mem_cons.mpr ⟨f44, fun _ h => absurd h List.not_mem_nil⟩⟩⟩⟩⟩⟩⟩⟩⟩⟩⟩⟩⟩⟩⟩⟩⟩⟩⟩⟩⟩⟩⟩⟩
  have d2 : ∀ q ∈ ([(703, 15, 109), (703, 16, 103)] : List (Nat × Int × Nat)), R2 q.1 q.2.1 = some (w.2.2.2.2 q.2.2) := List.forall_mem_cons.mpr ⟨f15, List.forall_mem_cons.mpr ⟨f16, fun _ h => absurd h List.not_mem_nil⟩⟩
  have hc : ∀ a : Nat, a < 703 → R2 a = R a := fun a h => hk.1 a (by omega) (by omega)
  refine ⟨fun q hq => ?_, fun q hq => ?_, fun b hb => ?_, fun t ht => ?_, fun i i0 i1 => ?_, fun i i0 i1 => ?_, fun i i0 i1 => ?_, ?_, f5⟩
  · rcases c1 q hq with h | h
    · rw [hc _ h]; exact hF.1 q hq h
    · exact d1 q h
  · rcases c2 q hq with h | h
    · rw [hc _ h]; exact hF.2.1 q hq h
    · exact d2 q h
  · have hb2 : b ≤ 555 := by unfold g_life at hb; omega
    exact (hF.2.2.1 b hb).cg (fun a a1 a2 => hc a (by omega))
  · have ht2 : t ≤ 535 := by unfold g_taste at ht; omega
    rw [hc _ (by omega)]; exact hF.2.2.2.1 t ht
  · rw [hc _ (by omega)]; exact hF.2.2.2.2.1 i i0 i1
  · rw [hc _ (by omega)]; exact hF.2.2.2.2.2.1 i i0 i1
  · rw [hc _ (by omega)]; exact hF.2.2.2.2.2.2.1 i i0 i1
  · rw [hc _ (by omega)]; exact hF.2.2.2.2.2.2.2
section GST
variable {w : g_W} {x : g_C} {P : State → Prop} {b : Nat}
set_option maxHeartbeats 4000000 in
set_option maxRecDepth 100000 in
/-- both objects are made, and the array -/
theorem gs_walk (hc : g_OK w x cL_law 7 (some .boolean) RL 2048) (hz : g_sz x = w.2.2.2.1 + 0) (hgo : gz_ok (g_s x)) (hm : 601024 ≤ x.2.2.2.2.2.2.2.2.2.1 ∧ 7293033 ≤ x.2.2.2.2.2.2.2.2.2.2)
    (kk : ∀ R : g_R, g_rf w R 555 704 → GQ w x P 729 15410 g_n gs_A (fun _ => 0) R 23 (lw_L w b 0) []) : GQ w x P 0 0 0 (fun _ _ => 0) (fun _ => 0) (fun _ _ => none) 0 [some (.ref b), none, none, none, none, none, none] [] := by
  refine gz_new (n := 0) (u := 0) (v := 0) (n0 := 0) (ci := 12) hc hz (by omega) (by decide +kernel) rfl cl_L_8 ii_X12 ni_X12 ⟨fun _ => rfl, rfl, fun _ => rfl⟩ ⟨by have := hm.1; omega, by have := hm.2; omega⟩ dL_law_0 ?_
  refine gq_dup hc dL_law_3 rfl ?_
  refine gz_callI (n := 1) (u := 1) (v := 13) (n0 := 0) (k := 0) (mc' := 702) (ms' := 7708) (as := []) hc hz (by omega) hgo (z_X12_init w (fun a ha => ⟨fun _ => rfl, rfl, fun _ => rfl⟩)) my_X12_init (by decide) mi_X12_init lm_L_15 rfl rfl (by omega) (by omega) (Nat.le_of_ble_eq_true rfl) ⟨by have := hm.1; omega, by have := hm.2; omega⟩ dL_law_4 (fun r1 n1 I1 J1 R1 h1 => ?_)
  obtain ⟨q1, q2, q3, q4, h1, h1f⟩ := h1
  subst q1 q2
  have hJ : ∀ a, J1 a = 0 := fun a => by rw [q4]
  have hI : ∀ a j, 703 ≤ a → I1 a j = 0 := fun a j ha => by rw [q3, g_up_k (by omega), g_up_k (by omega), g_up_k (by omega)]
  have hR : ∀ a j, 703 ≤ a → R1 a j = none := fun a j ha => congrFun (h1.2 a ha) j
  refine gq_astore_1 hc dL_law_7 rfl ?_
  refine gz_new (n := 703) (u := 703) (v := 7721) (n0 := 0) (ci := 13) hc hz (by omega) (by decide +kernel) rfl cl_L_16 ii_X13 ni_X13 ⟨fun j => hI _ _ (by omega), hJ _, fun j => hR _ _ (by omega)⟩ ⟨by have := hm.1; omega, by have := hm.2; omega⟩ dL_law_8 ?_
  refine gq_dup hc dL_law_11 rfl ?_
  refine gz_callI (n := 704) (u := 704) (v := 7767) (n0 := 0) (k := 703) (mc' := 24) (ms' := 7642) (as := []) hc hz (by omega) hgo (z_X13_init w (fun a ha => ⟨fun j => hI _ _ (by omega), hJ _, fun j => hR _ _ (by omega)⟩)) my_X13_init (by decide) mi_X13_init lm_L_18 rfl rfl (by omega) (by omega) (Nat.le_of_ble_eq_true rfl) ⟨by have := hm.1; omega, by have := hm.2; omega⟩ dL_law_12 (fun r2 n2 I2 J2 R2 h2 => ?_)
  obtain ⟨p1, p2, p3, p4, h2, h2f⟩ := h2
  subst p1 p2
  obtain rfl : J1 = J2 := p4.symm
  have hA : I2 = gs_A := by rw [p3, q3]; rfl
  obtain rfl : J1 = fun _ => 0 := funext hJ
  subst hA
  refine gq_astore_2 hc dL_law_15 rfl ?_
  refine gq_iconst hc dL_law_16 ?_
  refine gz_newl (len := 1) (n := 728) (u := 728) (v := 15409) (n0 := 0) hc hz (by omega) (by decide +kernel) ac_long (by decide) (by decide) ⟨fun j => gs_up8_k ⟨by omega, by omega, by omega, by omega⟩, rfl, fun j => by rw [h2.2 728 (by omega)]; exact hR _ _ (by omega)⟩ ⟨by have := hm.1; omega, by have := hm.2; omega⟩ dL_law_17 ?_
  refine gq_astore_3 hc dL_law_19 rfl ?_
  refine gq_iconst hc dL_law_20 ?_
  refine gq_istore_4 hc dL_law_21 rfl ?_
  exact kk R2 (gs_rf h1f h2 h2f)
end GST
set_option maxHeartbeats 4000000 in
set_option maxRecDepth 100000 in
/-- THE LAW, from its entry -/
theorem whole_start {p : Program} {e : Env} {s : State} {m : MethodId} {below : List Frame} {meth : Method} {c : Code} (l : Launch) (hflags : l.flags = flags0) {b L : Nat} {xs : Nat → Int32} (hL : L ≤ 3072) (C0 : lw_At p s m meth c b L xs) : W p l e room_1 s m #[Value.ref b] below meth c s.heap [] 0 0 (lw_Z below #[Value.ref b] s) (entryFrame m ([Value.ref b] : List Value).toArray 7) := by
  obtain ⟨hx, hb, hr, hml, hown, hts, hX, hbl, hlocks, hgv⟩ := C0
  have hs := flat_of_before _ hgv
  have htb : ∀ q ∈ g_tb, q.before #[Value.ref b] s = true := fun q hq => hts q (List.mem_filter.mp hq).1
  have hgo := gs_gz hts
  obtain ⟨D, dA, hK⟩ := gs_K htb hgo
  obtain ⟨tx, hsta⟩ := gs_sta l D dA hs hts
  have htr : l.stackTraces = false := by unfold Launch.stackTraces; rw [hflags]; decide +kernel
  refine gs_room (R' := { frames := 2048, cells := 601024, slots := 7293033, locals := 40 * 2048 }) (by decide) (by decide) (by decide) (by decide) ?_
  obtain ⟨w, hw⟩ : ∃ w : g_W, w = (l, D, dA, s.heap.size, tx) := ⟨_, rfl⟩
  obtain ⟨x, hx0⟩ : ∃ x : g_C, x = (p, e, { frames := 2048, cells := 601024, slots := 7293033, locals := 40 * 2048 }, s, m, #[Value.ref b], below, meth, c, 601024, 7293033) := ⟨_, rfl⟩
  have hc : g_OK w x cL_law 7 (some .boolean) RL 2048 := by
    subst hw hx0
    exact ⟨hx, hb, hml, hr, hown, htb, hK, hsta, hlocks, Nat.le_refl _, rfl⟩
  have H : lw_ok w x b L xs := by
    refine ⟨hc, ?_⟩
    subst hw hx0
    exact ⟨hX, hbl, hbl, hL, gs_gx hts, htr⟩
  have hm : 601024 ≤ x.2.2.2.2.2.2.2.2.2.1 ∧ 7293033 ≤ x.2.2.2.2.2.2.2.2.2.2 := by
    subst hx0
    exact ⟨Nat.le_refl _, Nat.le_refl _⟩
  have kend : ∀ (u v : Nat) (A : g_I) (J : g_J) (R : g_R) (i : Int), u ≤ 601024 → v ≤ 7293033 → GQ w x (lw_Z below #[Value.ref b] s) u v g_n A J R 1730 (lw_L w b i) [] := by
    intro u v A J R i hu hv
    refine gq_iconst hc dL_law_1730 ?_
    subst hw hx0
    intro Hp locs ls hP hS hll
    refine va_forget hS.2.2 ?_
    refine W.widen hu hv ?_
    exact gs_ret hx hb hr hlocks dL_law_1731
  have hwalk := gs_walk (P := lw_Z below #[Value.ref b] s) (b := b) hc (by subst hw hx0; rfl) (by subst hx0; exact hgo) hm (fun R hR => lw_loop H hm kend (L + 1) 0 729 15410 gs_A (fun _ => 0) R 555 704 ⟨by decide, by decide⟩ (by decide) (by decide) hR gs_q (by omega))
  rw [lg_entry_eq]
  have hl := lv_entry [Value.ref b] (n := 7) (Nat.le_of_ble_eq_true rfl)
  subst hw hx0
  exact hwalk s.heap [] _ (fun k q h => by simp [g_ws] at h) va_S.rf ⟨hl.1, hl.2.1, fun i v hv => hl.2.2 (i, v) (g_args 6 i v hv rfl)⟩
