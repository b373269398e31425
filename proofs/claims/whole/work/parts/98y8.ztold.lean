/-! ===== a text is told ===== -/
theorem x_nar0 : ∀ z : Fin 256, vp_nar .byte (Int32.ofInt ((z.val : Int) - 128)) = Int32.ofInt ((z.val : Int) - 128) := by decide +kernel
theorem x_nar8 {z : Int} (h : -128 ≤ z ∧ z ≤ 127) : vp_nar .byte (Int32.ofInt z) = Int32.ofInt z := by
  have := x_nar0 ⟨(z + 128).toNat, by omega⟩
  dsimp only at this
  rwa [show (((z + 128).toNat : Nat) : Int) - 128 = z by omega] at this
/-- rows copied: the same LIFE -/
theorem q_lf_cp {I M M' : g_I} {b : Nat} {j1 j2 : Int} (h : q_lf I b M j1) (h8 : ∀ c : Int, 0 ≤ c → c < 84 → M' 708 (j2 * 12 * 7 + c) = M 708 (j1 * 12 * 7 + c)) (h9 : ∀ c : Int, 0 ≤ c → c < 90 → M' 709 (j2 * 18 * 5 + c) = M 709 (j1 * 18 * 5 + c)) (h10 : ∀ c : Int, 0 ≤ c → c < 432 → M' 710 (j2 * 18 * 4 * 6 + c) = M 710 (j1 * 18 * 4 * 6 + c)) (h11 : M' 711 j2 = M 711 j1) (h12 : M' 712 j2 = M 712 j1) : q_lf I b M' j2 := by
  obtain ⟨a1, a2, a3, a4, a5, a6⟩ := h
  obtain ⟨⟨n0, n1⟩, ⟨n2, n3⟩, hs, hf⟩ := id a1
  have e8 : ∀ s c : Int, 0 ≤ s → s < 12 → 0 ≤ c → c < 7 → M' 708 ((j2 * 12 + s) * 7 + c) = M 708 ((j1 * 12 + s) * 7 + c) := fun s c s0 s1 c0 c1 => by
    have := h8 (s * 7 + c) (by omega) (by omega)
    rwa [show j2 * 12 * 7 + (s * 7 + c) = (j2 * 12 + s) * 7 + c by omega, show j1 * 12 * 7 + (s * 7 + c) = (j1 * 12 + s) * 7 + c by omega] at this
  have e9 : ∀ s c : Int, 0 ≤ s → s < 18 → 0 ≤ c → c < 5 → M' 709 ((j2 * 18 + s) * 5 + c) = M 709 ((j1 * 18 + s) * 5 + c) := fun s c s0 s1 c0 c1 => by
    have := h9 (s * 5 + c) (by omega) (by omega)
    rwa [show j2 * 18 * 5 + (s * 5 + c) = (j2 * 18 + s) * 5 + c by omega, show j1 * 18 * 5 + (s * 5 + c) = (j1 * 18 + s) * 5 + c by omega] at this
  have e10 : ∀ s r c : Int, 0 ≤ s → s < 18 → 0 ≤ r → r < 4 → 0 ≤ c → c < 6 → M' 710 (((j2 * 18 + s) * 4 + r) * 6 + c) = M 710 (((j1 * 18 + s) * 4 + r) * 6 + c) := fun s r c s0 s1 r0 r1 c0 c1 => by
    have := h10 ((s * 4 + r) * 6 + c) (by omega) (by omega)
    rwa [show j2 * 18 * 4 * 6 + ((s * 4 + r) * 6 + c) = ((j2 * 18 + s) * 4 + r) * 6 + c by omega, show j1 * 18 * 4 * 6 + ((s * 4 + r) * 6 + c) = ((j1 * 18 + s) * 4 + r) * 6 + c by omega] at this
  refine ⟨a1, a2, h11.trans a3, h12.trans a4, fun s s0 s1 => ?_, fun f f0 f1 => ?_⟩
  · have h := a5 s s0 s1
    have hs12 : s < 12 := by omega
    have e80 := e8 s 0 s0 hs12 (by decide) (by decide)
    rw [Int.add_zero, Int.add_zero] at e80
    have hfk : ∀ i : Int, 0 ≤ i → i < I (b + 14) s → 0 ≤ I (b + 16 + s.toNat) i ∧ I (b + 16 + s.toNat) i < 18 := fun i i0 i1 => by
      have := ((hs s s0 s1).2.1 i i0 i1).1; omega
    unfold q_sl at h ⊢
    rw [e80, e8 s 1 s0 hs12 (by decide) (by decide), e8 s 2 s0 hs12 (by decide) (by decide), e8 s 3 s0 hs12 (by decide) (by decide), e8 s 4 s0 hs12 (by decide) (by decide), e8 s 5 s0 hs12 (by decide) (by decide), e8 s 6 s0 hs12 (by decide) (by decide)]
    obtain ⟨b1, b2, b3, b4, b5, b6⟩ := h
    exact ⟨b1, b2, b3, b4, b5, fun i i0 i1 => by
      obtain ⟨k0, k1⟩ := hfk i i0 i1
      rw [e9 _ 3 k0 k1 (by decide) (by decide), e9 _ 4 k0 k1 (by decide) (by decide)]; exact b6 i i0 i1⟩
  · have h := a6 f f0 f1
    have hf18 : f < 18 := by omega
    have e90 := e9 f 0 f0 hf18 (by decide) (by decide)
    rw [Int.add_zero, Int.add_zero] at e90
    have hk4 := (hf f f0 f1).1
    unfold q_fk at h ⊢
    rw [e90, e9 f 1 f0 hf18 (by decide) (by decide), e9 f 2 f0 hf18 (by decide) (by decide), e9 f 3 f0 hf18 (by decide) (by decide)]
    refine ⟨h.1, fun r r0 r1 => ⟨fun c c0 c1 => ?_, ?_⟩⟩
    · rw [e10 f r c f0 hf18 r0 (by omega) c0 (by omega)]; exact (h.2 r r0 r1).1 c c0 c1
    · rw [e10 f r 5 f0 hf18 r0 (by omega) (by decide) (by decide)]; exact (h.2 r r0 r1).2
abbrev x_tl (l : Int) (k : Nat) (j : Int) : Prop := x_fl k j ∨ (k = 703 ∧ (j = 6 ∨ j = 23)) ∨ (k = 708 ∧ l * 12 * 7 ≤ j ∧ j < l * 12 * 7 + 84) ∨ (k = 709 ∧ l * 18 * 5 ≤ j ∧ j < l * 18 * 5 + 90) ∨ (k = 710 ∧ l * 18 * 4 * 6 ≤ j ∧ j < l * 18 * 4 * 6 + 432) ∨ ((k = 711 ∨ k = 712) ∧ j = l)
abbrev x_tq (t : Int) (k : Nat) (j : Int) : Prop := x_fl k j ∨ (k = 703 ∧ (j = 6 ∨ j = 7)) ∨ (k = 706 ∧ j = t) ∨ (k = 705 ∧ 240 * t ≤ j ∧ j < 240 * t + 240)
/-- the class's memory as its LIFE has been told, none called yet -/
def x_tld (I : g_I) : g_I := g_up (g_up (m_life (4 + 128 * (I 0 10).toNat) I) 1 1 0) 0 10 (I 0 10 + 1)
theorem z_life_K {b : Nat} {I : g_I} (hb : g_life b) (hx : x_lk I) : (∀ k : Nat, ¬ z_in b k → m_life b I k = I k) ∧ l_ok b (m_life b I) ∧ m_life b I 1 1 = I 1 1 := by
  have hb5 := hb
  unfold g_life at hb5
  have h1 := x_beg_ok hb hx
  have h2 := (z_node_K hb 6 (by decide) _ h1).1
  have h3 : z_K b (m_node b 6 (m_beg b I)).2 (m_life b I) := z_K.fin
  refine ⟨fun k hk => ?_, m_fin_ok hb (m_node_ok hb 6 (by decide) _ h1).1, ?_⟩
  · rw [h3.2.1 k hk, h2.2.1 k hk]
    unfold m_beg z_in at *
    rw [g_ts_f (by omega)]
    funext j; rw [g_up_k (by omega), g_up_k (by omega)]
  · rw [h3.1, h2.1]
    unfold m_beg
    rw [g_ts_n, g_up_k (by omega), g_up_k (by omega)]
theorem z_tld {I M IF N : g_I} (hp : q_pre I M) (hx : x_lk I) (hl2 : I 0 10 < 3) (hq : q_lf (m_life (4 + 128 * (I 0 10).toNat) I) (4 + 128 * (I 0 10).toNat) IF 3)
    (h8 : ∀ c : Int, 0 ≤ c → c < 84 → N 708 (I 0 10 * 12 * 7 + c) = IF 708 (252 + c)) (h9 : ∀ c : Int, 0 ≤ c → c < 90 → N 709 (I 0 10 * 18 * 5 + c) = IF 709 (270 + c)) (h10 : ∀ c : Int, 0 ≤ c → c < 432 → N 710 (I 0 10 * 18 * 4 * 6 + c) = IF 710 (1296 + c)) (h11 : N 711 (I 0 10) = IF 711 3) (h12 : N 712 (I 0 10) = IF 712 3)
    (hfN : ∀ (k : Nat) (j : Int), ¬ x_tl (I 0 10) k j → N k j = M k j) (h23 : N 703 23 = I 0 10 + 1) (hgN : ∀ k j, g32 (N k j)) : q_pre (x_tld I) N := by
  obtain ⟨a1, a2, ⟨d2, d3, d4, d5, d6, d7⟩, a5, a6, a7, a8, a10⟩ := hp
  obtain ⟨l, hl⟩ : ∃ l, l = I 0 10 := ⟨_, rfl⟩
  rw [← hl] at hl2 hq h8 h9 h10 h11 h12 hfN h23 a5
  have hb : g_life (4 + 128 * l.toNat) := gl_of (i := l) (by omega) (by omega)
  have hb5 := hb
  unfold g_life at hb5
  obtain ⟨y1, y2, y3⟩ := z_life_K hb hx
  have ek : ∀ k : Nat, k ≠ 0 → k ≠ 1 → x_tld I k = m_life (4 + 128 * l.toNat) I k := fun k k0 k1 => by unfold x_tld; rw [← hl]; funext j; rw [g_up_k k0, g_up_k k1]
  have e : ∀ k : Nat, k ≠ 0 → ¬ z_in (4 + 128 * l.toNat) k → x_tld I k = I k := fun k k0 hk => by rw [ek k k0 (by unfold z_in at hk; omega)]; exact y1 k hk
  have e0 : ∀ j : Int, j ≠ 10 → x_tld I 0 j = I 0 j := fun j hj => by unfold x_tld; rw [← hl, g_up_i hj, g_up_k (by decide), y1 0 (by unfold z_in; omega)]
  have e10 : x_tld I 0 10 = l + 1 := by unfold x_tld; rw [← hl, g_up_s]
  have e550 := e 550 (by decide) (by unfold z_in; omega)
  have hrow : ∀ o : Nat, o < 128 → x_tld I (4 + 128 * l.toNat + o) = m_life (4 + 128 * l.toNat) I (4 + 128 * l.toNat + o) := fun o ho => ek _ (by omega) (by omega)
  have hta : ∀ t : Int, 0 ≤ t → t < I 0 11 → x_tld I (517 + 3 * t.toNat) = I (517 + 3 * t.toNat) ∧ x_tld I (518 + 3 * t.toNat) = I (518 + 3 * t.toNat) := fun t t0 t1 => ⟨e _ (by omega) (by unfold z_in; omega), e _ (by omega) (by unfold z_in; omega)⟩
  refine ⟨hgN, ?_, ⟨by rw [e0 11 (by decide)]; exact d2, fun t t0 t1 => ?_, by rw [e550]; exact d4, by rw [e550, e0 11 (by decide)]; exact d5, by rw [e550, e0 11 (by decide)]; exact d6, by rw [e550]; exact d7⟩, by rw [e10]; omega, ⟨by rw [e10]; exact h23, by rw [e0 11 (by decide), hfN 703 7 (by unfold x_tl x_fl z_sc; omega)]; exact a6.2⟩, fun jj j0 j1 => ?_, fun k k0 k1 => by rw [e550, hfN 714 k (by unfold x_tl x_fl z_sc; omega)]; exact a8 k k0 k1, fun t t0 t1 => ?_⟩
  · unfold x_tld; rw [← hl]
    exact x_up32 (x_up32 y2.1 ⟨by decide, by decide⟩) ⟨by omega, by omega⟩
  · rw [e0 11 (by decide)] at t1
    obtain ⟨q1, q2⟩ := hta t t0 t1
    have := d3 t t0 t1
    unfold g_tok at this ⊢
    rw [show 517 + 3 * t.toNat + 1 = 518 + 3 * t.toNat by omega] at this ⊢
    rw [q1, q2]; exact this
  · rw [e10] at j1
    by_cases z : jj = l
    · rw [z]
      refine q_lf_row hrow (q_lf_cp (j1 := 3) hq (fun c c0 c1 => ?_) (fun c c0 c1 => ?_) (fun c c0 c1 => ?_) h11 h12)
      · rw [h8 c c0 c1, show (3 : Int) * 12 * 7 + c = 252 + c by omega]
      · rw [h9 c c0 c1, show (3 : Int) * 18 * 5 + c = 270 + c by omega]
      · rw [h10 c c0 c1, show (3 : Int) * 18 * 4 * 6 + c = 1296 + c by omega]
    · have er : ∀ o : Nat, o < 128 → x_tld I (4 + 128 * jj.toNat + o) = I (4 + 128 * jj.toNat + o) := fun o ho => e _ (by omega) (by unfold z_in; omega)
      exact q_lf_row er (q_lf_cp (a7 jj j0 (by omega)) (fun c c0 c1 => hfN 708 _ (by unfold x_tl x_fl z_sc; omega)) (fun c c0 c1 => hfN 709 _ (by unfold x_tl x_fl z_sc; omega)) (fun c c0 c1 => hfN 710 _ (by unfold x_tl x_fl z_sc; omega)) (hfN 711 jj (by unfold x_tl x_fl z_sc; omega)) (hfN 712 jj (by unfold x_tl x_fl z_sc; omega)))
  · rw [e0 11 (by decide)] at t1
    obtain ⟨q1, q2⟩ := hta t t0 t1
    have h5 : N 705 = M 705 := funext fun j => hfN 705 j (by unfold x_tl x_fl z_sc; omega)
    have h6 : N 706 = M 706 := funext fun j => hfN 706 j (by unfold x_tl x_fl z_sc; omega)
    have h := a10 t t0 t1
    have eb : q_by N 705 (240 * t) = q_by M 705 (240 * t) := z_by_cg h5
    unfold q_ta at h ⊢
    rw [eb, h5, h6, q1, q2]
    exact h
