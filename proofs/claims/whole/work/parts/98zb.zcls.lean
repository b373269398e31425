/-! ===== what the class's methods ask, out of the law's invariant ===== -/
theorem q_inv_cls {A : g_I} {lb : Nat} (h : q_inv A lb) : (g_life lb ∧ (∀ k j, g32 (A k j)) ∧ g_cin A lb ∧ (A 0 12 = -1 ∨ (0 ≤ A 0 12 ∧ A 0 12 ≤ 2))) ∧ g_cok A ∧ (0 ≤ A 0 10 ∧ A 0 10 ≤ 3) ∧ (∀ jj : Int, 0 ≤ jj → jj < A 0 10 → g_lok A (4 + 128 * jj.toNat)) ∧ (0 ≤ A 0 11 ∧ A 0 11 ≤ 6) ∧ (0 ≤ A 549 5 ∧ A 549 5 ≤ 40) ∧ (0 ≤ A 701 2 ∧ A 701 2 ≤ 60) ∧ (A 549 4 = 0 ∨ A 549 4 = 1) ∧ (A lb 1 = 0 → A lb 0 ≤ 1) ∧ (0 ≤ A 1 1 ∧ A 1 1 ≤ 240) ∧ (0 ≤ A 697 4 ∧ A 697 4 ≤ 12) ∧ z_43 (4 + 128 * (A 0 10).toNat) A := by
  obtain ⟨h1, h2, hb, hi, ht, h6, hx, h10, h11, h12⟩ := h
  have hlv := h1.lv
  have htb := h1.tbl
  have hck := h1.clu.1
  refine ⟨⟨?_, h1.gi, h1.cin, ?_⟩, hck, hlv, fun jj j0 j1 => (h1.lf ⟨j0, j1⟩).1, h1.cin.2.1, h2.2.1, hb.2.1, hi.2.1, fun z => ?_, hx.2.1, hck.1, h11 _ hlv.1 (by omega)⟩
  · unfold q_tb at htb
    rcases htb with ⟨-, -, z, -⟩ | ⟨z1, z2, z3⟩
    · rw [z]; unfold g_life; omega
    · rw [z3]; exact gl_of z1 (by omega)
  · have := q_b1 h1; omega
  · unfold q_tb at htb
    rcases htb with ⟨-, -, y, y1, y2⟩ | ⟨z1, z2, z3⟩
    · rw [y, y1]; decide
    · have hs := (h1.lf ⟨z1, z2⟩).2.1.1.2
      rw [← z3] at hs
      have := hs z; omega
/-- what the reference's ask, as the class has answered: A1 is A but for the class's cells -/
theorem q_inv_ref {A A1 : g_I} {lb : Nat} (h : q_inv A lb) (e : ∀ k : Nat, 703 ≤ k → A1 k = A k) (g1 : ∀ k j, g32 (A1 k j)) : q_rel A lb A1 ∧ q_und A lb A1 ∧ q_brt A A1 ∧ q_img A lb A1 ∧ q_tap A A1 ∧ (q_01 A1 713 ∧ q_01 A1 717 ∧ q_01 A1 726) ∧ (∀ j : Int, -128 ≤ A1 705 j ∧ A1 705 j ≤ 127) := by
  obtain ⟨h1, h2, hb, hi, ht, ⟨h6, h7, h8⟩, hx, h10, h11, h12⟩ := h
  exact ⟨q_mem h1 e g1, q_und_mem h2 e, q_brt_mem hb e, q_img_mem hi e, q_tap_mem ht e, ⟨fun j => by rw [e 713 (by decide)]; exact h6 j, fun j => by rw [e 717 (by decide)]; exact h7 j, fun j => by rw [e 726 (by decide)]; exact h8 j⟩, fun j => by rw [e 705 (by decide)]; exact h10 j⟩
/-- at the start: nothing told, all cells 0 but for NONE at the TABLE and the settings as they are at first -/
theorem q_inv_0 {A : g_I} (g : ∀ k j, g32 (A k j)) (hA : A 0 12 = -1 ∧ A 703 24 = -1) (h550 : (0 ≤ A 550 0 ∧ A 550 0 ≤ 3) ∧ A 550 1 = -1 ∧ A 550 2 = -1 ∧ (0 ≤ A 550 3 ∧ A 550 3 ≤ 3)) (h714 : ∀ k : Int, 0 ≤ k → k < 4 → A 714 k = A 550 k)
    (z0 : A 0 10 = 0 ∧ A 0 11 = 0 ∧ A 703 23 = 0 ∧ A 703 7 = 0 ∧ A 703 38 = 0 ∧ A 703 32 = 0 ∧ A 703 41 = 0 ∧ A 703 45 = 0 ∧ A 703 6 = 0 ∧ A 697 4 = 0 ∧ A 701 2 = 0 ∧ A 549 4 = 0 ∧ A 549 5 = 0 ∧ A 1 1 = 0) (zk : ∀ k : Nat, (k = 2 ∨ (4 ≤ k ∧ k < 516) ∨ k = 545 ∨ k = 546 ∨ k = 552 ∨ (555 ≤ k ∧ k < 683) ∨ k = 704 ∨ k = 705 ∨ k = 713 ∨ k = 717 ∨ k = 726) → ∀ j : Int, A k j = 0) : q_inv A 555 := by
  obtain ⟨a1, a2, a3, a4, a5, a6, a7, a8, a9, a10, a11, a12, a13, a14⟩ := z0
  have c0 : A 555 0 = 0 ∧ A 555 1 = 0 := ⟨zk 555 (by omega) 0, zk 555 (by omega) 1⟩
  refine ⟨⟨g, g, ⟨⟨by omega, by omega, fun s s0 s1 => by omega, fun f f0 f1 => by omega⟩, by omega, fun t t0 t1 => by omega, h550.1, by omega, by omega, h550.2.2.2, fun f f0 f1 => by omega⟩, Or.inl ⟨hA.1, a1, rfl, c0.1, c0.2⟩, by omega, ⟨by omega, by omega, by omega⟩, fun jj j0 j1 => by omega, h714, fun f f0 f1 => by omega, fun t t0 t1 => by omega, ⟨⟨by omega, fun c k0 k1 => by omega⟩, by omega, fun c k0 k1 => by omega⟩⟩, ⟨by omega, by omega, fun d hd => by omega⟩, ⟨by omega, by omega, fun i i0 i1 => by omega⟩, ⟨by omega, Or.inl a12, fun y => by omega⟩, ⟨by omega, by omega, fun j => ?_, fun j => by rw [zk 704 (by omega) j]; decide⟩, ⟨fun j => Or.inl (zk 713 (by omega) j), fun j => Or.inl (zk 717 (by omega) j), fun j => Or.inl (zk 726 (by omega) j)⟩, ⟨g, by omega, fun j => by rw [zk 2 (by omega) j]; decide, fun i => by rw [zk 545 (by omega) i]; decide, fun i => by rw [zk 546 (by omega) i]; decide⟩, fun j => by rw [zk 705 (by omega) j]; decide, fun r r0 r1 j => by rw [zk _ (by omega) j]; decide, fun i => by rw [zk 552 (by omega) i]; decide⟩
  rw [zk 2 (by omega) j, zk 704 (by omega) j]
  decide +kernel
