/-! ===== the law's invariant under what moves ===== -/
section MV
variable {A P A2 : g_I} {lb : Nat}
/-- cells of the class that the picture is made of -/
abbrev x_pc (l t : Int) (k : Nat) : Prop := k = 0 ∨ (4 ≤ k ∧ k < 4 + 128 * l.toNat) ∨ (555 ≤ k ∧ k < 683) ∨ k = 550 ∨ (697 ≤ k ∧ k ≤ 700) ∨ (517 ≤ k ∧ k < 517 + 3 * t.toNat ∧ k % 3 ≠ 0)
/-- cells of the reference that it is made of -/
abbrev x_mc (k : Nat) (j : Int) : Prop := (k = 703 ∧ (j = 7 ∨ j = 23 ∨ j = 24 ∨ j = 38)) ∨ (705 ≤ k ∧ k ≤ 714 ∧ k ≠ 707) ∨ (721 ≤ k ∧ k ≤ 723)
theorem q_pic2 {I I' M : g_I} (h : q_rel I lb M) (e : ∀ k : Nat, x_pc (I 0 10) (I 0 11) k → I' k = I k) (hg : ∀ k j, g32 (I' k j)) : q_rel I' lb M := by
  obtain ⟨a1, a2, a3, a4, a5, a6, a7, a8, a9, a10, a11⟩ := h
  obtain ⟨d1, d2, d3, d4, d5, d6, d7, d8⟩ := id a3
  have hlb : (4 ≤ lb ∧ lb + 128 ≤ 4 + 128 * (I 0 10).toNat) ∨ lb = 555 := by
    have a4' := a4
    unfold q_tb at a4'
    rcases a4' with ⟨-, -, z, -⟩ | ⟨z1, z2, z3⟩
    · exact Or.inr z
    · left; omega
  have e0 : I' 0 = I 0 := e 0 (by unfold x_pc; omega)
  have e550 : I' 550 = I 550 := e 550 (by unfold x_pc; omega)
  have el : ∀ o : Nat, o < 128 → I' (lb + o) = I (lb + o) := fun o ho => e _ (by unfold x_pc; omega)
  have el0 : I' lb = I lb := el 0 (by omega)
  have eT : ∀ t : Int, 0 ≤ t → t < I 0 11 → I' (517 + 3 * t.toNat) = I (517 + 3 * t.toNat) ∧ I' (518 + 3 * t.toNat) = I (518 + 3 * t.toNat) := fun t t0 t1 => ⟨e _ (by unfold x_pc; omega), e _ (by unfold x_pc; omega)⟩
  refine ⟨a1, hg, ⟨q_lok_row el d1, by rw [e0]; exact d2, fun τ t0 t1 => ?_, by rw [e550]; exact d4, by rw [e550, e0]; exact d5, by rw [e550, e0]; exact d6, by rw [e550]; exact d7, fun f f0 f1 => by rw [el0] at f1; rw [e550]; exact d8 f f0 f1⟩, ?_, by rw [e0]; exact a5, by rw [e0]; exact a6, fun jj j0 j1 => ?_, fun k k0 k1 => by rw [e550]; exact a8 k k0 k1, fun f f0 f1 => ?_, fun τ t0 t1 => ?_, ?_⟩
  · rw [e0] at t1
    have := d3 τ t0 t1
    obtain ⟨q1, q2⟩ := eT τ t0 t1
    unfold g_tok at this ⊢
    rw [show 517 + 3 * τ.toNat + 1 = 518 + 3 * τ.toNat by omega] at this ⊢
    rw [q1, q2]; exact this
  · unfold q_tb at a4 ⊢
    rw [e0, e 555 (by unfold x_pc; omega)]
    exact a4
  · rw [e0] at j1
    exact q_lf_row (fun o ho => e _ (by unfold x_pc; omega)) (a7 jj j0 j1)
  · rw [el0] at f1
    rw [e550, el 43 (by omega)]
    exact a9 f f0 f1
  · rw [e0] at t1
    obtain ⟨q1, q2⟩ := eT τ t0 t1
    have ha := a10 τ t0 t1
    unfold q_ta at ha ⊢
    rw [q1, q2]; exact ha
  · have f7 := e 697 (by unfold x_pc; omega)
    have f8 := e 698 (by unfold x_pc; omega)
    have f9 := e 699 (by unfold x_pc; omega)
    have f10 := e 700 (by unfold x_pc; omega)
    unfold g_cok at a11 ⊢
    rw [f7, f8, f9, f10]
    exact a11
theorem q_mem2 {I M M' : g_I} (h : q_rel I lb M) (e : ∀ (k : Nat) (j : Int), x_mc k j → M' k j = M k j) (hg : ∀ k j, g32 (M' k j)) : q_rel I lb M' := by
  obtain ⟨a1, a2, a3, a4, a5, ⟨b1, b2, b3⟩, a7, a8, a9, a10, ⟨c1, c2, c3⟩⟩ := h
  have ek : ∀ k : Nat, (705 ≤ k ∧ k ≤ 714 ∧ k ≠ 707) ∨ (721 ≤ k ∧ k ≤ 723) → M' k = M k := fun k hk => funext fun j => e k j (by unfold x_mc; omega)
  have e3 : ∀ j : Int, j = 7 ∨ j = 23 ∨ j = 24 ∨ j = 38 → M' 703 j = M 703 j := fun j hj => e 703 j (by unfold x_mc; omega)
  have e5 := ek 705 (by decide)
  refine ⟨hg, a2, a3, a4, a5, ⟨by rw [e3 24 (by decide)]; exact b1, by rw [e3 23 (by decide)]; exact b2, by rw [e3 7 (by decide)]; exact b3⟩, fun jj j0 j1 => q_lf_cg (fun k a c => ek k (by omega)) (a7 jj j0 j1), fun k k0 k1 => by rw [ek 714 (by decide)]; exact a8 k k0 k1, fun f f0 f1 => by rw [ek 713 (by decide)]; exact a9 f f0 f1, fun τ t0 t1 => ?_, ⟨c1, by rw [e3 38 (by decide)]; exact c2, by rw [ek 721 (by decide), ek 722 (by decide), ek 723 (by decide)]; exact c3⟩⟩
  have ha := a10 τ t0 t1
  have eb : q_by M' 705 (240 * τ) = q_by M 705 (240 * τ) := z_by_cg e5
  unfold q_ta at ha ⊢
  rw [eb, e5, ek 706 (by decide)]
  exact ha
theorem v_und {I I' M M' : g_I} (h : q_und I lb M) (eI : ∀ k : Nat, (k = 0 ∨ k = 549 ∨ k = 550 ∨ k = 552 ∨ k = 553 ∨ k = lb ∨ k = lb + 43) → I' k = I k) (e32 : M' 703 32 = M 703 32) (e17 : M' 717 = M 717) (e18 : M' 718 = M 718) : q_und I' lb M' := by
  have hp : ∀ d : Nat, x_past I' d = x_past I d := by
    intro d
    induction d with
    | zero => rw [x_past, x_past, eI 550 (by omega)]
    | succ d ih => rw [x_past, x_past, ih, eI 549 (by omega), eI 552 (by omega), eI 553 (by omega)]
  obtain ⟨h1, h2, h3⟩ := h
  have e9 := eI 549 (by omega)
  refine ⟨by rw [e9, e32]; exact h1, by rw [e9]; exact h2, fun d hd => ?_⟩
  rw [e9] at hd
  have := h3 d hd
  unfold q_row q_snap at this ⊢
  rw [hp, e9, e17, e18, eI 0 (by omega), eI lb (by omega), eI (lb + 43) (by omega)]
  exact this
theorem v_img {I I' M M' : g_I} (h : q_img I lb M) (eI : ∀ k : Nat, (k = 0 ∨ k = 551 ∨ k = lb ∨ k = lb + 43) → I' k = I k) (e9 : I' 549 4 = I 549 4) (e45 : M' 703 45 = M 703 45) (e26 : M' 726 = M 726) (e27 : M' 727 = M 727) : q_img I' lb M' := by
  unfold q_img q_row at h ⊢
  rw [e9, e45, e26, e27, eI 0 (by omega), eI 551 (by omega), eI lb (by omega), eI (lb + 43) (by omega)]; exact h
theorem v_brt {I I' M M' : g_I} (h : q_brt I M) (e1 : I' 701 = I 701) (e2 : I' 702 = I 702) (e41 : M' 703 41 = M 703 41) (e25 : M' 725 = M 725) : q_brt I' M' := by
  unfold q_brt at h ⊢
  rw [e1, e2, e41, e25]; exact h
theorem v_tap {I I' M M' : g_I} (h : q_tap I M) (e1 : I' 1 1 = I 1 1) (e2 : I' 2 = I 2) (e6 : M' 703 6 = M 703 6) (e4 : M' 704 = M 704) : q_tap I' M' := by
  unfold q_tap at h ⊢
  rw [e1, e2, e6, e4]; exact h
/-- all that is asked, told of the class's new memory P: it holds of the one memory A2 -/
theorem q_inv_of (r : q_rel P lb A2) (u : q_und P lb A2) (b : q_brt P A2) (i : q_img P lb A2) (t : q_tap P A2) (z : q_01 A2 713 ∧ q_01 A2 717 ∧ q_01 A2 726) (x : x_lk P) (b5 : ∀ j : Int, -128 ≤ A2 705 j ∧ A2 705 j ≤ 127) (z4 : ∀ r : Int, 0 ≤ r → r < 4 → z_43 (4 + 128 * r.toNat) P) (h5 : ∀ i : Int, 0 ≤ P 552 i ∧ P 552 i < 24) (e : ∀ k : Nat, k < 703 → ¬ g_sc k → A2 k = P k) : q_inv A2 lb := by
  have hlb := q_tb_lb r.tbl r.lv
  have g2 := r.g
  exact ⟨q_pic r e g2, q_und_pic u hlb e, q_brt_pic b e, q_img_pic i hlb e, q_tap_pic t e, z, x_lk_pic x e g2, b5, fun r r0 r1 j => by rw [e _ (by omega) (by unfold g_sc; omega)]; exact z4 r r0 r1 j, fun i => by rw [e 552 (by decide) (by unfold g_sc; omega)]; exact h5 i⟩
/-- an ACT told, UNDONE, or the picture put back: set, open, undo, back -/
theorem q_inv_act (h : q_inv A lb) (r : q_rel P lb A2) (u : q_und P lb A2) (eP : ∀ k : Nat, k ≠ 549 → k ≠ 550 → k ≠ 552 → k ≠ 553 → P k = A k) (e94 : P 549 4 = A 549 4) (h5 : ∀ i : Int, 0 ≤ P 552 i ∧ P 552 i < 24) (z3 : q_01 A2 713) (z7 : q_01 A2 717) (e2 : ∀ (k : Nat) (j : Int), ¬ x_b5 k j → A2 k j = P k j) : q_inv A2 lb := by
  obtain ⟨h1, h2, hb, hi, ht, ⟨h6, h7, h8⟩, hx, h10, h11, h12⟩ := h
  have gP := r.gi
  have hlb := q_tb_lb r.tbl r.lv
  have ek : ∀ k : Nat, (k = 704 ∨ k = 705 ∨ k = 725 ∨ k = 726 ∨ k = 727) → A2 k = A k := fun k hk => (funext fun j => e2 k j (by unfold x_b5 x_b4 x_a; omega)).trans (eP k (by omega) (by omega) (by omega) (by omega))
  have e3 : ∀ j : Int, j = 6 ∨ j = 41 ∨ j = 45 → A2 703 j = A 703 j := fun j hj => (e2 703 j (by unfold x_b5 x_b4 x_a; omega)).trans (by rw [eP 703 (by decide) (by decide) (by decide) (by decide)])
  refine q_inv_of r u ?_ ?_ ?_ ⟨z3, z7, fun j => by rw [ek 726 (by decide)]; exact h8 j⟩ ?_ (fun j => by rw [ek 705 (by decide)]; exact h10 j) (fun r r0 r1 j => by rw [eP _ (by omega) (by omega) (by omega) (by omega)]; exact h11 r r0 r1 j) h5 (fun k hk hs => funext fun j => e2 k j (by unfold x_b5 x_b4 x_a; omega))
  · unfold q_brt at hb ⊢
    rw [e3 41 (by decide), ek 725 (by decide), eP 701 (by decide) (by decide) (by decide) (by decide), eP 702 (by decide) (by decide) (by decide) (by decide)]; exact hb
  · unfold q_img q_row at hi ⊢
    rw [e3 45 (by decide), ek 726 (by decide), ek 727 (by decide), e94, eP 551 (by decide) (by decide) (by decide) (by decide), eP 0 (by decide) (by decide) (by decide) (by decide), eP lb (by omega) (by omega) (by omega) (by omega), eP (lb + 43) (by omega) (by omega) (by omega) (by omega)]; exact hi
  · unfold q_tap at ht ⊢
    rw [e3 6 (by decide), ek 704 (by decide), eP 1 (by decide) (by decide) (by decide) (by decide), eP 2 (by decide) (by decide) (by decide) (by decide)]; exact ht
  · obtain ⟨x1, x2, x3, x4, x5⟩ := hx
    refine ⟨gP, ?_, ?_, ?_, ?_⟩
    · rw [eP 1 (by decide) (by decide) (by decide) (by decide)]; exact x2
    · rw [eP 2 (by decide) (by decide) (by decide) (by decide)]; exact x3
    · rw [eP 545 (by decide) (by decide) (by decide) (by decide)]; exact x4
    · rw [eP 546 (by decide) (by decide) (by decide) (by decide)]; exact x5
/-- what is fed, or cut off: the TAPE alone -/
theorem q_inv_tape (h : q_inv A lb) (t : q_tap P A2) (eP : ∀ k : Nat, k ≠ 1 → k ≠ 2 → P k = A k) (x : x_lk P) (e2 : ∀ (k : Nat) (j : Int), ¬ x_tp k j → A2 k j = P k j) (g2 : ∀ k j, g32 (A2 k j)) : q_inv A2 lb := by
  obtain ⟨h1, h2, hb, hi, ht, ⟨h6, h7, h8⟩, hx, h10, h11, h12⟩ := h
  have hlb := q_tb_lb h1.tbl h1.lv
  have ek : ∀ k : Nat, 705 ≤ k → A2 k = A k := fun k hk => (funext fun j => e2 k j (by unfold x_tp; omega)).trans (eP k (by omega) (by omega))
  have e3 : ∀ j : Int, ¬ (j = 6 ∨ j = 0) → A2 703 j = A 703 j := fun j hj => (e2 703 j (by unfold x_tp; omega)).trans (by rw [eP 703 (by decide) (by decide)])
  have z01 : ∀ k : Nat, 705 ≤ k → q_01 A k → q_01 A2 k := fun k hk hq j => by rw [ek k hk]; exact hq j
  refine q_inv_of (q_mem2 (q_pic2 h1 (fun k hk => eP k (by unfold x_pc at hk; omega) (by unfold x_pc at hk; omega)) x.1) (fun k j hk => ?_) g2) (v_und h2 (fun k hk => eP k (by omega) (by omega)) (e3 32 (by decide)) (ek 717 (by decide)) (ek 718 (by decide))) (v_brt hb (eP 701 (by decide) (by decide)) (eP 702 (by decide) (by decide)) (e3 41 (by decide)) (ek 725 (by decide))) (v_img hi (fun k hk => eP k (by omega) (by omega)) (by rw [eP 549 (by decide) (by decide)]) (e3 45 (by decide)) (ek 726 (by decide)) (ek 727 (by decide))) t ⟨z01 713 (by decide) h6, z01 717 (by decide) h7, z01 726 (by decide) h8⟩ x (fun j => by rw [ek 705 (by decide)]; exact h10 j) (fun r r0 r1 j => by rw [eP _ (by omega) (by omega)]; exact h11 r r0 r1 j) (fun i => by rw [eP 552 (by decide) (by decide)]; exact h12 i) (fun k hk hs => funext fun j => e2 k j (by unfold x_tp; omega))
  rcases (show (k = 703 ∧ ¬ (j = 6 ∨ j = 0)) ∨ 705 ≤ k by unfold x_mc at hk; omega) with ⟨z, z2⟩ | z
  · rw [z]; exact e3 j z2
  · rw [ek k z]
/-- a CLUE -/
theorem q_inv_clue (h : q_inv A lb) (r : q_rel P lb A2) (eP : ∀ k : Nat, ¬ (697 ≤ k ∧ k ≤ 700) → P k = A k) (e2 : ∀ (k : Nat) (j : Int), ¬ x_b7 k j → A2 k j = P k j) : q_inv A2 lb := by
  obtain ⟨h1, h2, hb, hi, ht, ⟨h6, h7, h8⟩, hx, h10, h11, h12⟩ := h
  have hlb := q_tb_lb r.tbl r.lv
  have ek : ∀ k : Nat, (k = 704 ∨ k = 705 ∨ k = 713 ∨ k = 717 ∨ k = 718 ∨ k = 725 ∨ k = 726 ∨ k = 727) → A2 k = A k := fun k hk => (funext fun j => e2 k j (by unfold x_b7 x_a; omega)).trans (eP k (by omega))
  have e3 : ∀ j : Int, (j = 6 ∨ j = 32 ∨ j = 41 ∨ j = 45) → A2 703 j = A 703 j := fun j hj => (e2 703 j (by unfold x_b7 x_a; omega)).trans (by rw [eP 703 (by decide)])
  have z01 : ∀ k : Nat, A2 k = A k → q_01 A k → q_01 A2 k := fun k hk hq j => by rw [hk]; exact hq j
  exact q_inv_of r (v_und h2 (fun k hk => eP k (by omega)) (e3 32 (by decide)) (ek 717 (by decide)) (ek 718 (by decide))) (v_brt hb (eP 701 (by decide)) (eP 702 (by decide)) (e3 41 (by decide)) (ek 725 (by decide))) (v_img hi (fun k hk => eP k (by omega)) (by rw [eP 549 (by decide)]) (e3 45 (by decide)) (ek 726 (by decide)) (ek 727 (by decide))) (v_tap ht (by rw [eP 1 (by decide)]) (eP 2 (by decide)) (e3 6 (by decide)) (ek 704 (by decide))) ⟨z01 713 (ek 713 (by decide)) h6, z01 717 (ek 717 (by decide)) h7, z01 726 (ek 726 (by decide)) h8⟩ (by
    obtain ⟨x1, x2, x3, x4, x5⟩ := hx
    exact ⟨r.gi, by rw [eP 1 (by decide)]; exact x2, by rw [eP 2 (by decide)]; exact x3, by rw [eP 545 (by decide)]; exact x4, by rw [eP 546 (by decide)]; exact x5⟩) (fun j => by rw [ek 705 (by decide)]; exact h10 j) (fun r r0 r1 j => by rw [eP _ (by omega)]; exact h11 r r0 r1 j) (fun i => by rw [eP 552 (by decide)]; exact h12 i) (fun k hk hs => funext fun j => e2 k j (by unfold x_b7 x_a; omega))
/-- a birth kept or taken -/
theorem q_inv_born {A1 : g_I} (h : q_inv A lb) (b : q_brt P A2) (gP : ∀ k j, g32 (P k j)) (eP : ∀ k : Nat, k ≠ 701 → k ≠ 702 → P k = A k) (e1 : ∀ k : Nat, ¬ g_sc k → A1 k = P k) (e2 : ∀ (k : Nat) (j : Int), ¬ x_b2 k j → A2 k j = A1 k j) (g2 : ∀ k j, g32 (A2 k j)) : q_inv A2 lb := by
  obtain ⟨h1, h2, hb, hi, ht, ⟨h6, h7, h8⟩, hx, h10, h11, h12⟩ := h
  have hlb := q_tb_lb h1.tbl h1.lv
  have eM : ∀ k : Nat, 703 ≤ k → A1 k = A k := fun k hk => (e1 k (by unfold g_sc; omega)).trans (eP k (by omega) (by omega))
  have ek : ∀ k : Nat, (704 ≤ k ∧ k ≠ 707 ∧ k ≠ 715 ∧ k ≠ 716 ∧ k ≠ 719 ∧ k ≠ 720 ∧ k ≠ 724 ∧ k ≠ 725) → A2 k = A k := fun k hk => (funext fun j => e2 k j (by unfold x_b2 x_a; omega)).trans (eM k (by omega))
  have e3 : ∀ j : Int, (j = 6 ∨ j = 7 ∨ j = 23 ∨ j = 24 ∨ j = 32 ∨ j = 38 ∨ j = 45) → A2 703 j = A 703 j := fun j hj => (e2 703 j (by unfold x_b2 x_a; omega)).trans (by rw [eM 703 (by decide)])
  have z01 : ∀ k : Nat, A2 k = A k → q_01 A k → q_01 A2 k := fun k hk hq j => by rw [hk]; exact hq j
  refine q_inv_of (q_mem2 (q_pic2 h1 (fun k hk => eP k (by have := h1.lv; have := h1.cin.2.1; unfold x_pc at hk; omega) (by have := h1.lv; have := h1.cin.2.1; unfold x_pc at hk; omega)) gP) (fun k j hk => ?_) g2) (v_und h2 (fun k hk => eP k (by omega) (by omega)) (e3 32 (by decide)) (ek 717 (by decide)) (ek 718 (by decide))) b (v_img hi (fun k hk => eP k (by omega) (by omega)) (by rw [eP 549 (by decide) (by decide)]) (e3 45 (by decide)) (ek 726 (by decide)) (ek 727 (by decide))) (v_tap ht (by rw [eP 1 (by decide) (by decide)]) (eP 2 (by decide) (by decide)) (e3 6 (by decide)) (ek 704 (by decide))) ⟨z01 713 (ek 713 (by decide)) h6, z01 717 (ek 717 (by decide)) h7, z01 726 (ek 726 (by decide)) h8⟩ (by
    obtain ⟨x1, x2, x3, x4, x5⟩ := hx
    exact ⟨gP, by rw [eP 1 (by decide) (by decide)]; exact x2, by rw [eP 2 (by decide) (by decide)]; exact x3, by rw [eP 545 (by decide) (by decide)]; exact x4, by rw [eP 546 (by decide) (by decide)]; exact x5⟩) (fun j => by rw [ek 705 (by decide)]; exact h10 j) (fun r r0 r1 j => by rw [eP _ (by omega) (by omega)]; exact h11 r r0 r1 j) (fun i => by rw [eP 552 (by decide) (by decide)]; exact h12 i) (fun k hk hs => (funext fun j => e2 k j (by unfold x_b2 x_a; omega)).trans (e1 k hs))
  rcases (show (k = 703 ∧ (j = 7 ∨ j = 23 ∨ j = 24 ∨ j = 38)) ∨ (704 ≤ k ∧ k ≠ 707 ∧ k ≠ 715 ∧ k ≠ 716 ∧ k ≠ 719 ∧ k ≠ 720 ∧ k ≠ 724 ∧ k ≠ 725) by unfold x_mc at hk; omega) with ⟨z, z2⟩ | z
  · rw [z]; exact e3 j (by omega)
  · rw [ek k z]
/-- an IMAGE kept -/
theorem q_inv_image (h : q_inv A lb) (hP : P = if A 0 12 = -1 then A else g_kim A) (e2 : ∀ (k : Nat) (j : Int), ¬ x_b3 k j → A2 k j = P k j) (g2 : ∀ k j, g32 (A2 k j)) (z6 : q_01 A2 726) (f1 : A 0 12 = -1 → A2 703 45 = P 703 45 ∧ (∀ j, A2 726 j = P 726 j) ∧ ∀ j, A2 727 j = P 727 j) (f2 : ¬ A 0 12 = -1 → A2 703 45 = 1 ∧ (∀ t : Int, 0 ≤ t → t < 72 → A2 726 t = P 713 t) ∧ ∀ t : Int, 0 ≤ t → t < 4 → A2 727 t = A 550 t) : q_inv A2 lb := by
  obtain ⟨h1, h2, hb, hi, ht, ⟨h6, h7, h8⟩, hx, h10, h11, h12⟩ := h
  have hlb := q_tb_lb h1.tbl h1.lv
  have eP : ∀ k : Nat, k ≠ 549 → k ≠ 551 → P k = A k := fun k a c => by
    rw [hP]
    split
    · rfl
    · unfold g_kim; funext j; rw [g_up_k a, g_cpy_k c]
  have e95 : P 549 5 = A 549 5 := by
    rw [hP]
    split
    · rfl
    · unfold g_kim; rw [g_up_i (by decide), g_cpy_k (by decide)]
  have gP : ∀ k j, g32 (P k j) := by
    rw [hP]
    split
    · exact h1.gi
    · unfold g_kim; exact x_up32 (g_cpy32 h1.gi) ⟨by decide, by decide⟩
  have ek : ∀ k : Nat, (704 ≤ k ∧ k ≠ 707 ∧ k ≠ 715 ∧ k ≠ 716 ∧ k ≠ 719 ∧ k ≠ 720 ∧ k ≠ 724 ∧ k ≠ 726 ∧ k ≠ 727) → A2 k = A k := fun k hk => (funext fun j => e2 k j (by unfold x_b3 x_a; omega)).trans (eP k (by omega) (by omega))
  have e3 : ∀ j : Int, (j = 6 ∨ j = 7 ∨ j = 23 ∨ j = 24 ∨ j = 32 ∨ j = 38 ∨ j = 41) → A2 703 j = A 703 j := fun j hj => (e2 703 j (by unfold x_b3 x_a; omega)).trans (by rw [eP 703 (by decide) (by decide)])
  have z01 : ∀ k : Nat, A2 k = A k → q_01 A k → q_01 A2 k := fun k hk hq j => by rw [hk]; exact hq j
  have hu : q_und P lb A := by
    have hp : ∀ d : Nat, x_past P d = x_past A d := by
      intro d
      induction d with
      | zero => rw [x_past, x_past, eP 550 (by decide) (by decide)]
      | succ d ih => rw [x_past, x_past, ih, e95, eP 552 (by decide) (by decide), eP 553 (by decide) (by decide)]
    obtain ⟨u1, u2, u3⟩ := h2
    refine ⟨by rw [e95]; exact u1, by rw [e95]; exact u2, fun d hd => ?_⟩
    rw [e95] at hd
    have := u3 d hd
    unfold q_row q_snap at this ⊢
    rw [hp, e95, eP 0 (by decide) (by decide), eP lb (by omega) (by omega), eP (lb + 43) (by omega) (by omega)]
    exact this
  refine q_inv_of (q_mem2 (q_pic2 h1 (fun k hk => eP k (by have := h1.lv; have := h1.cin.2.1; unfold x_pc at hk; omega) (by have := h1.lv; have := h1.cin.2.1; unfold x_pc at hk; omega)) gP) (fun k j hk => ?_) g2) (v_und hu (fun k _ => rfl) (e3 32 (by decide)) (ek 717 (by decide)) (ek 718 (by decide))) (v_brt hb (eP 701 (by decide) (by decide)) (eP 702 (by decide) (by decide)) (e3 41 (by decide)) (ek 725 (by decide))) ?_ (v_tap ht (by rw [eP 1 (by decide) (by decide)]) (eP 2 (by decide) (by decide)) (e3 6 (by decide)) (ek 704 (by decide))) ⟨z01 713 (ek 713 (by decide)) h6, z01 717 (ek 717 (by decide)) h7, z6⟩ (by
    obtain ⟨x1, x2, x3, x4, x5⟩ := hx
    exact ⟨gP, by rw [eP 1 (by decide) (by decide)]; exact x2, by rw [eP 2 (by decide) (by decide)]; exact x3, by rw [eP 545 (by decide) (by decide)]; exact x4, by rw [eP 546 (by decide) (by decide)]; exact x5⟩) (fun j => by rw [ek 705 (by decide)]; exact h10 j) (fun r r0 r1 j => by rw [eP _ (by omega) (by omega)]; exact h11 r r0 r1 j) (fun i => by rw [eP 552 (by decide) (by decide)]; exact h12 i) (fun k hk hs => funext fun j => e2 k j (by unfold x_b3 x_a; omega))
  · rcases (show (k = 703 ∧ (j = 7 ∨ j = 23 ∨ j = 24 ∨ j = 38)) ∨ (704 ≤ k ∧ k ≠ 707 ∧ k ≠ 715 ∧ k ≠ 716 ∧ k ≠ 719 ∧ k ≠ 720 ∧ k ≠ 724 ∧ k ≠ 726 ∧ k ≠ 727) by unfold x_mc at hk; omega) with ⟨z, z2⟩ | z
    · rw [z]; exact e3 j (by omega)
    · rw [ek k z]
  · by_cases y : A 0 12 = -1
    · obtain ⟨k1, k2, k3⟩ := f1 y
      have hPA : P = A := by rw [hP, if_pos y]
      rw [hPA] at k1 k2 k3 ⊢
      exact v_img hi (fun k _ => rfl) rfl k1 (funext k2) (funext k3)
    · obtain ⟨k1, k2, k3⟩ := f2 y
      have e94 : P 549 4 = 1 := by rw [hP, if_neg y]; unfold g_kim; rw [g_up_s]
      have e51 : ∀ j : Int, 0 ≤ j → j < 24 → P 551 j = A 550 j := fun j j0 j1 => by
        rw [hP, if_neg y]; unfold g_kim; rw [g_up_k (by decide), g_cpy_in j0 (by omega), show 0 + (j - 0) = j by omega]
      have hn := (q_lok h1).2.1
      have hr := h1.row
      refine ⟨by rw [k1, e94], Or.inr e94, fun _ => ⟨by rw [eP 0 (by decide) (by decide)]; have := q_b1 h1; omega, ?_, fun k k0 k9 => by rw [k3 k k0 k9, e51 k k0 (by omega)], fun f f0 f1 r r0 r1 => ?_⟩⟩
      · obtain ⟨r0, r1, r2, r3, r4⟩ := hr
        unfold q_row
        rw [eP 0 (by decide) (by decide), eP lb (by omega) (by omega), eP (lb + 43) (by omega) (by omega), e51 0 (by decide) (by decide), e51 1 (by decide) (by decide), e51 2 (by decide) (by decide), e51 3 (by decide) (by decide)]
        exact ⟨r0, r1, r2, r3, fun f f0 f1 => by rw [e51 (4 + f) (by omega) (by omega)]; exact r4 f f0 f1⟩
      · rw [eP lb (by omega) (by omega)] at f1
        rw [eP (lb + 43) (by omega) (by omega)] at r1
        have hk4 := ((q_lok h1).2.2.2 f f0 f1).1
        rw [k2 _ (by omega) (by omega), e51 (4 + f) (by omega) (by omega), eP 713 (by decide) (by decide)]
        exact h1.opn ⟨f0, f1⟩ ⟨r0, r1⟩
end MV
