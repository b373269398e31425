/-! ===== the law's invariant as a FAULT has been looked for ===== -/
/-- what a reader of the class may leave otherwise -/
abbrev x_rc (l t : Int) (k : Nat) : Prop := k = 1 ∨ (540 ≤ k ∧ k ≤ 546) ∨ (4 + 128 * l.toNat ≤ k ∧ k < 4 + 128 * l.toNat + 128) ∨ k = 517 + 3 * t.toNat ∨ k = 518 + 3 * t.toNat
def x_rd (I P : g_I) : Prop := (∀ k : Nat, ¬ x_rc (I 0 10) (I 0 11) k → P k = I k) ∧ P 1 1 = I 1 1 ∧ x_lk P ∧ ∀ r : Int, 0 ≤ r → r < 4 → z_43 (4 + 128 * r.toNat) P
theorem x_rd_rf {I : g_I} (hx : x_lk I) (h43 : ∀ r : Int, 0 ≤ r → r < 4 → z_43 (4 + 128 * r.toNat) I) : x_rd I I := ⟨fun _ _ => rfl, rfl, hx, h43⟩
theorem x_rd_life {I : g_I} (hx : x_lk I) (hl : 0 ≤ I 0 10 ∧ I 0 10 ≤ 3) (h43 : ∀ r : Int, 0 ≤ r → r < 4 → z_43 (4 + 128 * r.toNat) I) : x_rd I (m_life (4 + 128 * (I 0 10).toNat) I) := by
  have hb := gl_of (i := I 0 10) hl.1 (by omega)
  obtain ⟨y1, y2, y3⟩ := z_life_K hb hx
  refine ⟨fun k hk => y1 k (by unfold x_rc at hk; unfold z_in; omega), y3, ⟨y2.1, by rw [y3]; exact hx.2.1, y2.2.2.2.2.1, y2.2.2.2.2.2.1, y2.2.2.2.2.2.2.1⟩, fun r r0 r1 => ?_⟩
  by_cases z : r = I 0 10
  · rw [z]; exact z_life43 hb hx (h43 (I 0 10) hl.1 (by omega))
  · exact z_43_eq (h43 r r0 r1) (y1 _ (by unfold z_in; omega))
theorem x_rd_taste {I : g_I} (hx : x_lk I) (ht : 0 ≤ I 0 11 ∧ I 0 11 ≤ 6) (h43 : ∀ r : Int, 0 ≤ r → r < 4 → z_43 (4 + 128 * r.toNat) I) : x_rd I (t_M I (517 + 3 * (I 0 11).toNat) (t_read (I 2) (I 1 1))) := by
  have hok := t_read_ok (B := I 2) (n := I 1 1) hx.2.1
  have e : ∀ k : Nat, k ≠ 1 → ¬ (k = 517 + 3 * (I 0 11).toNat ∨ k = 518 + 3 * (I 0 11).toNat) → t_M I (517 + 3 * (I 0 11).toNat) (t_read (I 2) (I 1 1)) k = I k := fun k k1 hk => by
    funext j
    unfold t_M
    rw [g_ts_k k1, g_rw, if_neg (by omega), if_neg (by omega)]
  have e1 : t_M I (517 + 3 * (I 0 11).toNat) (t_read (I 2) (I 1 1)) 1 1 = I 1 1 := by
    unfold t_M
    rw [g_ts_n, g_rw, if_neg (by omega), if_neg (by omega)]
  refine ⟨fun k hk => e k (by unfold x_rc at hk; omega) (by unfold x_rc at hk; omega), e1, ⟨t_M32 hx.1 hx.2.1.2 hok, by rw [e1]; exact hx.2.1, by rw [e 2 (by decide) (by omega)]; exact hx.2.2.1, by rw [e 545 (by decide) (by omega)]; exact hx.2.2.2.1, by rw [e 546 (by decide) (by omega)]; exact hx.2.2.2.2⟩, fun r r0 r1 => z_43_eq (h43 r r0 r1) (e _ (by omega) (by omega))⟩
theorem x_rd_fl {I : g_I} {v : Int} (hx : x_lk I) (hl : 0 ≤ I 0 10 ∧ I 0 10 ≤ 3) (ht : 0 ≤ I 0 11 ∧ I 0 11 ≤ 6) (h43 : ∀ r : Int, 0 ≤ r → r < 4 → z_43 (4 + 128 * r.toNat) I) : x_rd I (x_flI I v) := by
  unfold x_flI
  split
  · exact x_rd_life hx hl h43
  · split
    · exact x_rd_taste hx ht h43
    · exact x_rd_rf hx h43
theorem q_inv_fl {A P A2 : g_I} {lb : Nat} (h : q_inv A lb) (hP : x_rd A P) (e2 : ∀ (k : Nat) (j : Int), ¬ x_fl k j → A2 k j = P k j) (g2 : ∀ k j, g32 (A2 k j)) : q_inv A2 lb := by
  obtain ⟨h1, h2, hb, hi, ht, ⟨h6, h7, h8⟩, hx, h10, h11, h12⟩ := h
  obtain ⟨eP, e11, xP, z4⟩ := hP
  have hlv := h1.lv
  have hts := h1.cin.2.1
  have hlb : (4 ≤ lb ∧ lb + 128 ≤ 4 + 128 * (A 0 10).toNat) ∨ lb = 555 := by
    have a4 := h1.tbl
    unfold q_tb at a4
    rcases a4 with ⟨-, -, z, -⟩ | ⟨z1, z2, z3⟩
    · exact Or.inr z
    · left; omega
  have eo : ∀ k : Nat, (k = 0 ∨ (547 ≤ k) ∨ k = lb ∨ k = lb + 43 ∨ k = 2) → P k = A k := fun k hk => eP k (by unfold x_rc; omega)
  have ek : ∀ k : Nat, 704 ≤ k → ¬ (708 ≤ k ∧ k ≤ 712) → A2 k = A k := fun k hk hk2 => (funext fun j => e2 k j (by unfold x_fl z_sc; omega)).trans (eo k (by omega))
  have e3 : ∀ j : Int, (j = 6 ∨ j = 7 ∨ j = 23 ∨ j = 24 ∨ j = 32 ∨ j = 38 ∨ j = 41 ∨ j = 45) → A2 703 j = A 703 j := fun j hj => (e2 703 j (by unfold x_fl z_sc; omega)).trans (by rw [eo 703 (by omega)])
  have z01 : ∀ k : Nat, A2 k = A k → q_01 A k → q_01 A2 k := fun k hk hq j => by rw [hk]; exact hq j
  have hrel : q_rel P lb A := q_pic2 h1 (fun k hk => eP k (by unfold x_pc at hk; unfold x_rc; omega)) xP.1
  have hrel2 : q_rel P lb A2 := by
    obtain ⟨a1, a2, a3, a4, a5, ⟨b1, b2, b3⟩, a7, a8, a9, a10, ⟨c1, c2, c3⟩⟩ := hrel
    have hr8 : ∀ k : Nat, (708 ≤ k ∧ k ≤ 712) → ∀ j : Int, (k = 708 → j < 252) → (k = 709 → j < 270) → (k = 710 → j < 1296) → (k = 711 → j < 3) → (k = 712 → j < 3) → A2 k j = A k j := fun k hk j c1 c2 c3 c4 c5 => (e2 k j (by unfold x_fl z_sc; omega)).trans (by rw [eo k (by omega)])
    refine ⟨g2, a2, a3, a4, a5, ⟨by rw [e3 24 (by decide)]; exact b1, by rw [e3 23 (by decide)]; exact b2, by rw [e3 7 (by decide)]; exact b3⟩, fun jj j0 j1 => ?_, fun k k0 k1 => by rw [ek 714 (by decide) (by decide)]; exact a8 k k0 k1, fun f f0 f1 => by rw [ek 713 (by decide) (by decide)]; exact a9 f f0 f1, fun τ t0 t1 => ?_, ⟨c1, by rw [e3 38 (by decide)]; exact c2, by rw [ek 721 (by decide) (by decide), ek 722 (by decide) (by decide), ek 723 (by decide) (by decide)]; exact c3⟩⟩
    · exact q_lf_cp (a7 jj j0 j1) (fun c c0 c1 => hr8 708 (by decide) _ (by omega) (by omega) (by omega) (by omega) (by omega)) (fun c c0 c1 => hr8 709 (by decide) _ (by omega) (by omega) (by omega) (by omega) (by omega)) (fun c c0 c1 => hr8 710 (by decide) _ (by omega) (by omega) (by omega) (by omega) (by omega)) (hr8 711 (by decide) _ (by omega) (by omega) (by omega) (by omega) (by omega)) (hr8 712 (by decide) _ (by omega) (by omega) (by omega) (by omega) (by omega))
    · have ha := a10 τ t0 t1
      have e5 := ek 705 (by decide) (by decide)
      have eb : q_by A2 705 (240 * τ) = q_by A 705 (240 * τ) := z_by_cg e5
      unfold q_ta at ha ⊢
      rw [eb, e5, ek 706 (by decide) (by decide)]
      exact ha
  exact q_inv_of hrel2 (v_und h2 (fun k hk => eo k (by omega)) (e3 32 (by decide)) (ek 717 (by decide) (by decide)) (ek 718 (by decide) (by decide))) (v_brt hb (eo 701 (by omega)) (eo 702 (by omega)) (e3 41 (by decide)) (ek 725 (by decide) (by decide))) (v_img hi (fun k hk => eo k (by omega)) (by rw [eo 549 (by omega)]) (e3 45 (by decide)) (ek 726 (by decide) (by decide)) (ek 727 (by decide) (by decide))) (v_tap ht e11 (eo 2 (by omega)) (e3 6 (by decide)) (ek 704 (by decide) (by decide))) ⟨z01 713 (ek 713 (by decide) (by decide)) h6, z01 717 (ek 717 (by decide) (by decide)) h7, z01 726 (ek 726 (by decide) (by decide)) h8⟩ xP (fun j => by rw [ek 705 (by decide) (by decide)]; exact h10 j) z4 (fun i => by rw [eo 552 (by omega)]; exact h12 i) (fun k hk hs => funext fun j => e2 k j (by unfold x_fl z_sc; omega))
