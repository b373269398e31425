/-! ===== the picture under what the other side changes ===== -/
section INV
variable {I I' M M' : g_I} {lb : Nat}
theorem q_tb_lb (h : q_tb I lb) (h3 : 0 ≤ I 0 10 ∧ I 0 10 ≤ 3) : (4 ≤ lb ∧ lb + 128 ≤ 388) ∨ lb = 555 := by
  unfold q_tb at h
  rcases h with ⟨-, -, z, -⟩ | ⟨z1, z2, z3⟩
  · exact Or.inr z
  · left; omega
/-- the class's scratch is no part of the picture -/
theorem q_pic (h : q_rel I lb M) (e : ∀ k : Nat, k < 703 → ¬ g_sc k → I' k = I k) (hg : ∀ k j, g32 (I' k j)) : q_rel I' lb M := by
  obtain ⟨a1, a2, a3, a4, a5, a6, a7, a8, a9, a10, a11⟩ := h
  obtain ⟨d1, d2, d3, d4, d5, d6, d7, d8⟩ := id a3
  have hlb := q_tb_lb a4 a5
  have e0 : I' 0 = I 0 := e 0 (by decide) (by unfold g_sc; omega)
  have e550 : I' 550 = I 550 := e 550 (by decide) (by unfold g_sc; omega)
  have el : ∀ o : Nat, o < 128 → I' (lb + o) = I (lb + o) := fun o ho => e _ (by omega) (by unfold g_sc; omega)
  have el0 : I' lb = I lb := el 0 (by omega)
  have eT : ∀ t : Int, 0 ≤ t → t < I 0 11 → I' (517 + 3 * t.toNat) = I (517 + 3 * t.toNat) ∧ I' (518 + 3 * t.toNat) = I (518 + 3 * t.toNat) := fun t t0 t1 => ⟨e _ (by omega) (by unfold g_sc; omega), e _ (by omega) (by unfold g_sc; omega)⟩
  refine ⟨a1, hg, ⟨q_lok_row el d1, by rw [e0]; exact d2, fun τ t0 t1 => ?_, by rw [e550]; exact d4, by rw [e550, e0]; exact d5, by rw [e550, e0]; exact d6, by rw [e550]; exact d7, fun f f0 f1 => by rw [el0] at f1; rw [e550]; exact d8 f f0 f1⟩, ?_, by rw [e0]; exact a5, by rw [e0]; exact a6, fun jj j0 j1 => ?_, fun k k0 k1 => by rw [e550]; exact a8 k k0 k1, fun f f0 f1 => ?_, fun τ t0 t1 => ?_, ?_⟩
  · rw [e0] at t1
    have := d3 τ t0 t1
    obtain ⟨q1, q2⟩ := eT τ t0 t1
    unfold g_tok at this ⊢
    rw [show 517 + 3 * τ.toNat + 1 = 518 + 3 * τ.toNat by omega] at this ⊢
    rw [q1, q2]; exact this
  · unfold q_tb at a4 ⊢
    rw [e0, e 555 (by decide) (by unfold g_sc; omega)]
    exact a4
  · rw [e0] at j1
    exact q_lf_row (fun o ho => e _ (by omega) (by unfold g_sc; omega)) (a7 jj j0 j1)
  · rw [el0] at f1
    rw [e550, el 43 (by omega)]
    exact a9 f f0 f1
  · rw [e0] at t1
    obtain ⟨q1, q2⟩ := eT τ t0 t1
    have ha := a10 τ t0 t1
    unfold q_ta at ha ⊢
    rw [q1, q2]; exact ha
  · have f7 := e 697 (by decide) (by unfold g_sc; omega)
    have f8 := e 698 (by decide) (by unfold g_sc; omega)
    have f9 := e 699 (by decide) (by unfold g_sc; omega)
    have f10 := e 700 (by decide) (by unfold g_sc; omega)
    unfold g_cok at a11 ⊢
    rw [f7, f8, f9, f10]
    exact a11
/-- nor are the class's cells any of the reference's -/
theorem q_mem (h : q_rel I lb M) (e : ∀ k : Nat, 703 ≤ k → M' k = M k) (hg : ∀ k j, g32 (M' k j)) : q_rel I lb M' := by
  obtain ⟨a1, a2, a3, a4, a5, a6, a7, a8, a9, a10, a11⟩ := h
  have e3 := e 703 (by decide)
  have e5 := e 705 (by decide)
  refine ⟨hg, a2, a3, a4, a5, by rw [e3]; exact a6, fun jj j0 j1 => q_lf_cg (fun k a c => e k (by omega)) (a7 jj j0 j1), fun k k0 k1 => by rw [e 714 (by decide)]; exact a8 k k0 k1, fun f f0 f1 => by rw [e 713 (by decide)]; exact a9 f f0 f1, fun τ t0 t1 => ?_, by rw [e3, e 721 (by decide), e 722 (by decide), e 723 (by decide)]; exact a11⟩
  have ha := a10 τ t0 t1
  have eb : q_by M' 705 (240 * τ) = q_by M 705 (240 * τ) := z_by_cg e5
  unfold q_ta at ha ⊢
  rw [eb, e5, e 706 (by decide)]
  exact ha
theorem q_brt_mem (h : q_brt I M) (e : ∀ k : Nat, 703 ≤ k → M' k = M k) : q_brt I M' := by
  unfold q_brt at h ⊢
  rw [e 703 (by decide), e 725 (by decide)]; exact h
theorem q_brt_pic (h : q_brt I M) (e : ∀ k : Nat, k < 703 → ¬ g_sc k → I' k = I k) : q_brt I' M := by
  unfold q_brt at h ⊢
  rw [e 701 (by decide) (by unfold g_sc; omega), e 702 (by decide) (by unfold g_sc; omega)]; exact h
theorem q_tap_mem (h : q_tap I M) (e : ∀ k : Nat, 703 ≤ k → M' k = M k) : q_tap I M' := q_tap_cg h (by rw [e 703 (by decide)]) (e 704 (by decide))
theorem q_tap_pic (h : q_tap I M) (e : ∀ k : Nat, k < 703 → ¬ g_sc k → I' k = I k) : q_tap I' M := by
  unfold q_tap at h ⊢
  rw [e 1 (by decide) (by unfold g_sc; omega), e 2 (by decide) (by unfold g_sc; omega)]; exact h
theorem q_img_mem (h : q_img I lb M) (e : ∀ k : Nat, 703 ≤ k → M' k = M k) : q_img I lb M' := by
  unfold q_img at h ⊢
  rw [e 703 (by decide), e 726 (by decide), e 727 (by decide)]; exact h
theorem q_img_pic (h : q_img I lb M) (hlb : (4 ≤ lb ∧ lb + 128 ≤ 388) ∨ lb = 555) (e : ∀ k : Nat, k < 703 → ¬ g_sc k → I' k = I k) : q_img I' lb M := by
  unfold q_img q_row at h ⊢
  rw [e 0 (by decide) (by unfold g_sc; omega), e 549 (by decide) (by unfold g_sc; omega), e 551 (by decide) (by unfold g_sc; omega), e lb (by omega) (by unfold g_sc; omega), e (lb + 43) (by omega) (by unfold g_sc; omega)]; exact h
theorem x_past_pic (e : ∀ k : Nat, k < 703 → ¬ g_sc k → I' k = I k) : ∀ d : Nat, x_past I' d = x_past I d
  | 0 => by rw [x_past, x_past, e 550 (by decide) (by unfold g_sc; omega)]
  | d + 1 => by rw [x_past, x_past, x_past_pic e d, e 549 (by decide) (by unfold g_sc; omega), e 552 (by decide) (by unfold g_sc; omega), e 553 (by decide) (by unfold g_sc; omega)]
theorem q_und_mem (h : q_und I lb M) (e : ∀ k : Nat, 703 ≤ k → M' k = M k) : q_und I lb M' := by
  unfold q_und q_snap at h ⊢
  rw [e 703 (by decide), e 717 (by decide), e 718 (by decide)]; exact h
theorem q_und_pic (h : q_und I lb M) (hlb : (4 ≤ lb ∧ lb + 128 ≤ 388) ∨ lb = 555) (e : ∀ k : Nat, k < 703 → ¬ g_sc k → I' k = I k) : q_und I' lb M := by
  obtain ⟨h1, h2, h3⟩ := h
  have e9 := e 549 (by decide) (by unfold g_sc; omega)
  refine ⟨by rw [e9]; exact h1, by rw [e9]; exact h2, fun d hd => ?_⟩
  rw [e9] at hd
  have := h3 d hd
  unfold q_row q_snap at this ⊢
  rw [x_past_pic e, e9, e 0 (by decide) (by unfold g_sc; omega), e lb (by omega) (by unfold g_sc; omega), e (lb + 43) (by omega) (by unfold g_sc; omega)]
  exact this
theorem x_lk_pic (h : x_lk I) (e : ∀ k : Nat, k < 703 → ¬ g_sc k → I' k = I k) (hg : ∀ k j, g32 (I' k j)) : x_lk I' := by
  obtain ⟨h1, h2, h3, h4, h5⟩ := h
  refine ⟨hg, ?_, ?_, ?_, ?_⟩
  · rw [e 1 (by decide) (by unfold g_sc; omega)]; exact h2
  · rw [e 2 (by decide) (by unfold g_sc; omega)]; exact h3
  · rw [e 545 (by decide) (by unfold g_sc; omega)]; exact h4
  · rw [e 546 (by decide) (by unfold g_sc; omega)]; exact h5
end INV
/-- between two cases of the law: both stand in one memory A -/
def q_inv (A : g_I) (lb : Nat) : Prop := q_rel A lb A ∧ q_und A lb A ∧ q_brt A A ∧ q_img A lb A ∧ q_tap A A ∧ (q_01 A 713 ∧ q_01 A 717 ∧ q_01 A 726) ∧ x_lk A ∧ (∀ j : Int, -128 ≤ A 705 j ∧ A 705 j ≤ 127) ∧ (∀ r : Int, 0 ≤ r → r < 4 → z_43 (4 + 128 * r.toNat) A) ∧ ∀ i : Int, 0 ≤ A 552 i ∧ A 552 i < 24
/-- a question has been asked of both: what it left stands for the next case; A1 behind the class's, A2 behind the reference's -/
theorem q_inv_ask {A A1 A2 : g_I} {lb : Nat} (h : q_inv A lb) (e1 : ∀ k : Nat, ¬ g_sc k → A1 k = A k) (g1 : ∀ k j, g32 (A1 k j)) (e2 : ∀ (k : Nat) (j : Int), ¬ x_a k j → A2 k j = A1 k j) (g2 : ∀ k j, g32 (A2 k j)) : q_inv A2 lb := by
  obtain ⟨h1, h2, h3, h4, h5, ⟨h6, h7, h8⟩, h9, h10, h11, h12⟩ := h
  have eM : ∀ k : Nat, 703 ≤ k → A1 k = A k := fun k hk => e1 k (by unfold g_sc; omega)
  have eP : ∀ k : Nat, k < 703 → ¬ g_sc k → A2 k = A k := fun k hk hs => (funext fun j => e2 k j (by unfold x_a; omega)).trans (e1 k hs)
  have hlb := q_tb_lb h1.tbl h1.lv
  have r1 : q_rel A lb A2 := q_cg e2 g2 (q_mem h1 eM g1)
  have eA : ∀ k : Nat, k = 704 ∨ k = 705 ∨ k = 713 ∨ k = 717 ∨ k = 718 ∨ k = 725 ∨ k = 726 ∨ k = 727 → A2 k = A k := fun k hk => (funext fun j => e2 k j (by unfold x_a; omega)).trans (eM k (by omega))
  have e3 : ∀ j : Int, j = 6 ∨ j = 32 ∨ j = 41 ∨ j = 45 → A2 703 j = A 703 j := fun j hj => (e2 703 j (by unfold x_a; omega)).trans (by rw [eM 703 (by decide)])
  have z01 : ∀ k : Nat, A2 k = A k → q_01 A k → q_01 A2 k := fun k hk hq j => by rw [hk]; exact hq j
  refine ⟨q_pic r1 eP g2, ?_, ?_, ?_, q_tap_pic (q_tap_cg h5 (e3 6 (by decide)) (eA 704 (by decide))) eP, ⟨z01 713 (eA 713 (by decide)) h6, z01 717 (eA 717 (by decide)) h7, z01 726 (eA 726 (by decide)) h8⟩, x_lk_pic h9 eP g2, fun j => by rw [eA 705 (by decide)]; exact h10 j, fun r r0 r1 j => by rw [eP _ (by omega) (by unfold g_sc; omega)]; exact h11 r r0 r1 j, fun i => by rw [eP 552 (by decide) (by unfold g_sc; omega)]; exact h12 i⟩
  · refine q_und_pic ?_ hlb eP
    unfold q_und q_snap at h2 ⊢
    rw [e3 32 (by decide), eA 717 (by decide), eA 718 (by decide)]; exact h2
  · refine q_brt_pic ?_ eP
    unfold q_brt at h3 ⊢
    rw [e3 41 (by decide), eA 725 (by decide)]; exact h3
  · refine q_img_pic ?_ hlb eP
    unfold q_img at h4 ⊢
    rw [e3 45 (by decide), eA 726 (by decide), eA 727 (by decide)]; exact h4
