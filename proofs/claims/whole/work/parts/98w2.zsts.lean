/-! ===== a leaf's WAY, laid step by step ===== -/
theorem z_stp {b : Nat} {M X : g_I} {s i f r : Int} (hs : 0 ≤ s ∧ s < 12) (hf : 0 ≤ f ∧ f < 20) (hr : 0 ≤ r ∧ r < 4)
    (hi1 : 0 ≤ M (b + 47 + (f * 4 + r).toNat) 1 ∧ M (b + 47 + (f * 4 + r).toNat) 1 ≤ 99) (hi2 : 0 ≤ M (b + 47 + (f * 4 + r).toNat) 2 ∧ M (b + 47 + (f * 4 + r).toNat) 2 ≤ 99) (hi3 : 0 ≤ M (b + 47 + (f * 4 + r).toNat) 3 ∧ M (b + 47 + (f * 4 + r).toNat) 3 ≤ 99)
    (h0 : 0 ≤ M (b + 2 + s.toNat) 0 ∧ M (b + 2 + s.toNat) 0 ≤ 10000) (h1 : 0 ≤ M (b + 2 + s.toNat) 1 ∧ M (b + 2 + s.toNat) 1 ≤ 10000) (h2 : 0 ≤ M (b + 2 + s.toNat) 2 ∧ M (b + 2 + s.toNat) 2 ≤ 10000) (e : X = m_stp b s i f r M) :
    (∀ k : Nat, k ≠ b + 2 + s.toNat → k ≠ b + 16 + s.toNat → k ≠ b + 29 + s.toNat → k ≠ b + 45 → X k = M k) ∧
    (∀ j, X (b + 16 + s.toNat) j = if j = i then f else M (b + 16 + s.toNat) j) ∧ (∀ j, X (b + 29 + s.toNat) j = if j = i then r else M (b + 29 + s.toNat) j) ∧
    (∀ j, X (b + 45) j = if j = f then g_or (M (b + 45) f) (g_shl 1 s) else M (b + 45) j) ∧
    X (b + 2 + s.toNat) 0 = M (b + 2 + s.toNat) 0 + M (b + 47 + (f * 4 + r).toNat) 1 ∧ X (b + 2 + s.toNat) 1 = M (b + 2 + s.toNat) 1 + M (b + 47 + (f * 4 + r).toNat) 2 ∧ X (b + 2 + s.toNat) 2 = M (b + 2 + s.toNat) 2 + M (b + 47 + (f * 4 + r).toNat) 3 ∧
    X (b + 2 + s.toNat) 6 = g_or (M (b + 2 + s.toNat) 6) (if M (b + 47 + (f * 4 + r).toNat) 4 = -1 then 0 else g_shl 1 (M (b + 47 + (f * 4 + r).toNat) 4)) ∧
    ∀ j, j ≠ 0 → j ≠ 1 → j ≠ 2 → j ≠ 6 → X (b + 2 + s.toNat) j = M (b + 2 + s.toNat) j := by
  subst e
  obtain ⟨A, hA⟩ : ∃ A, A = b + 2 + s.toNat := ⟨_, rfl⟩
  obtain ⟨W, hW⟩ : ∃ A, A = b + 16 + s.toNat := ⟨_, rfl⟩
  obtain ⟨V, hV⟩ : ∃ A, A = b + 29 + s.toNat := ⟨_, rfl⟩
  obtain ⟨C, hC⟩ : ∃ A, A = b + 47 + (f * 4 + r).toNat := ⟨_, rfl⟩
  unfold m_stp m_fct m_add m_bhd m_way
  rw [← hA, ← hW, ← hV, ← hC]
  rw [← hA] at h0 h1 h2
  rw [← hC] at hi1 hi2 hi3
  have d1 : A ≠ W := by omega
  have d2 : A ≠ V := by omega
  have d3 : W ≠ V := by omega
  have d4 : A ≠ b + 45 := by omega
  have d5 : W ≠ b + 45 := by omega
  have d6 : V ≠ b + 45 := by omega
  have d7 : C ≠ A := by omega
  have d8 : C ≠ W := by omega
  have d9 : C ≠ V := by omega
  have d10 : C ≠ b + 45 := by omega
  -- the memory with the WAY and the bit behind
  obtain ⟨M1, hM1⟩ : ∃ Z, Z = g_up (g_up M W i f) V i r := ⟨_, rfl⟩
  rw [← hM1]
  obtain ⟨M2, hM2⟩ : ∃ Z, Z = g_up M1 (b + 45) f (g_or (M1 (b + 45) f) (g_shl 1 s)) := ⟨_, rfl⟩
  rw [← hM2]
  have e45 : M1 (b + 45) = M (b + 45) := by funext j; rw [hM1, g_up_k (Ne.symm d6), g_up_k (Ne.symm d5)]
  have eA : M2 A = M A := by funext j; rw [hM2, g_up_k d4, hM1, g_up_k d2, g_up_k d1]
  have eC : M2 C = M C := by funext j; rw [hM2, g_up_k d10, hM1, g_up_k d9, g_up_k d8]
  have eo : ∀ k : Nat, k ≠ W → k ≠ V → k ≠ b + 45 → M2 k = M k := fun k a c d => by funext j; rw [hM2, g_up_k d, hM1, g_up_k c, g_up_k a]
  have eW : ∀ j, M2 W j = if j = i then f else M W j := fun j => by
    rw [hM2, g_up_k d5, hM1, g_up_k d3]
    by_cases z : j = i
    · rw [if_pos z, z, g_up_s]
    · rw [if_neg z, g_up_i z]
  have eV : ∀ j, M2 V j = if j = i then r else M V j := fun j => by
    rw [hM2, g_up_k d6, hM1]
    by_cases z : j = i
    · rw [if_pos z, z, g_up_s]
    · rw [if_neg z, g_up_i z, g_up_k (Ne.symm d3)]
  have eB : ∀ j, M2 (b + 45) j = if j = f then g_or (M (b + 45) f) (g_shl 1 s) else M (b + 45) j := fun j => by
    rw [hM2, e45]
    by_cases z : j = f
    · rw [if_pos z, z, g_up_s]
    · rw [if_neg z, g_up_i z, e45]
  clear hM2 e45 hM1
  obtain ⟨M3, hM3⟩ : ∃ Z, Z = g_up M2 A 0 (g_w32 (M2 A 0 + M2 C 1)) := ⟨_, rfl⟩
  rw [← hM3]
  have c3 : M3 C = M C := by funext j; rw [hM3, g_up_k d7, eC]
  obtain ⟨M4, hM4⟩ : ∃ Z, Z = g_up M3 A 1 (g_w32 (M3 A 1 + M3 C 2)) := ⟨_, rfl⟩
  rw [← hM4]
  have c4 : M4 C = M C := by funext j; rw [hM4, g_up_k d7, c3]
  obtain ⟨M5, hM5⟩ : ∃ Z, Z = g_up M4 A 2 (g_w32 (M4 A 2 + M4 C 3)) := ⟨_, rfl⟩
  rw [← hM5]
  have c5 : M5 C = M C := by funext j; rw [hM5, g_up_k d7, c4]
  have w0 : g_w32 (M A 0 + M C 1) = M A 0 + M C 1 := g_w32_id ⟨by omega, by omega⟩
  have w1 : g_w32 (M A 1 + M C 2) = M A 1 + M C 2 := g_w32_id ⟨by omega, by omega⟩
  have w2 : g_w32 (M A 2 + M C 3) = M A 2 + M C 3 := g_w32_id ⟨by omega, by omega⟩
  have k3 : ∀ k : Nat, k ≠ A → M5 k = M2 k := fun k hk => by funext j; rw [hM5, g_up_k hk, hM4, g_up_k hk, hM3, g_up_k hk]
  rw [c5]
  refine ⟨fun k a c d e => ?_, fun j => ?_, fun j => ?_, fun j => ?_, ?_, ?_, ?_, ?_, fun j a c d e => ?_⟩
  · funext j; rw [g_up_k a, k3 k a, eo k c d e]
  · rw [g_up_k (Ne.symm d1), k3 W (Ne.symm d1)]; exact eW j
  · rw [g_up_k (Ne.symm d2), k3 V (Ne.symm d2)]; exact eV j
  · rw [g_up_k (Ne.symm d4), k3 _ (Ne.symm d4)]; exact eB j
  · rw [g_up_i (by decide), hM5, g_up_i (by decide), hM4, g_up_i (by decide), hM3, g_up_s, eA, eC, w0]
  · rw [g_up_i (by decide), hM5, g_up_i (by decide), hM4, g_up_s, c3, hM3, g_up_i (by decide), eA, w1]
  · rw [g_up_i (by decide), hM5, g_up_s, c4, hM4, g_up_i (by decide), hM3, g_up_i (by decide), eA, w2]
  · rw [g_up_s, hM5, g_up_i (by decide), hM4, g_up_i (by decide), hM3, g_up_i (by decide), eA]
  · rw [g_up_i e, hM5, g_up_i d, hM4, g_up_i c, hM3, g_up_i a, eA]
/-- the whole WAY -/
theorem z_sts {b : Nat} {M : g_I} {s : Int} (hb : g_life b) (hs : 0 ≤ s ∧ s < 12) (hp : ∀ i : Int, 0 ≤ M 545 i ∧ M 545 i < 20) (hr : ∀ i : Int, 0 ≤ M 546 i ∧ M 546 i < 4) (n : Nat) (hn : n ≤ 6)
    (hit : ∀ i : Int, 0 ≤ i → i < n → (0 ≤ M (b + 47 + (M 545 i * 4 + M 546 i).toNat) 1 ∧ M (b + 47 + (M 545 i * 4 + M 546 i).toNat) 1 ≤ 99) ∧ (0 ≤ M (b + 47 + (M 545 i * 4 + M 546 i).toNat) 2 ∧ M (b + 47 + (M 545 i * 4 + M 546 i).toNat) 2 ≤ 99) ∧ 0 ≤ M (b + 47 + (M 545 i * 4 + M 546 i).toNat) 3 ∧ M (b + 47 + (M 545 i * 4 + M 546 i).toNat) 3 ≤ 99)
    (h0 : 0 ≤ M (b + 2 + s.toNat) 0 ∧ M (b + 2 + s.toNat) 0 ≤ 99) (h1 : 0 ≤ M (b + 2 + s.toNat) 1 ∧ M (b + 2 + s.toNat) 1 ≤ 99) (h2 : M (b + 2 + s.toNat) 2 = 0) (h6 : M (b + 2 + s.toNat) 6 = 0) (hinc : ∀ i : Int, 0 ≤ i → i + 1 < n → M 545 i < M 545 (i + 1)) :
    (∀ k : Nat, k ≠ b + 2 + s.toNat → k ≠ b + 16 + s.toNat → k ≠ b + 29 + s.toNat → k ≠ b + 45 → m_sts b s n M k = M k) ∧
    (∀ j : Int, 0 ≤ j → j < n → m_sts b s n M (b + 16 + s.toNat) j = M 545 j ∧ m_sts b s n M (b + 29 + s.toNat) j = M 546 j) ∧
    (∀ f : Int, ((∃ i : Int, 0 ≤ i ∧ i < n ∧ M 545 i = f) → m_sts b s n M (b + 45) f = g_or (M (b + 45) f) (g_shl 1 s)) ∧ ((¬ ∃ i : Int, 0 ≤ i ∧ i < n ∧ M 545 i = f) → m_sts b s n M (b + 45) f = M (b + 45) f)) ∧
    m_sts b s n M (b + 2 + s.toNat) 0 = M (b + 2 + s.toNat) 0 + g_sum (fun i => M (b + 47 + (M 545 i * 4 + M 546 i).toNat) 1) n ∧ m_sts b s n M (b + 2 + s.toNat) 1 = M (b + 2 + s.toNat) 1 + g_sum (fun i => M (b + 47 + (M 545 i * 4 + M 546 i).toNat) 2) n ∧ m_sts b s n M (b + 2 + s.toNat) 2 = g_sum (fun i => M (b + 47 + (M 545 i * 4 + M 546 i).toNat) 3) n ∧
    m_sts b s n M (b + 2 + s.toNat) 6 = g_ors (fun i => if M (b + 47 + (M 545 i * 4 + M 546 i).toNat) 4 = -1 then 0 else g_shl 1 (M (b + 47 + (M 545 i * 4 + M 546 i).toNat) 4)) n ∧
    ∀ j : Int, 3 ≤ j → j ≤ 5 → m_sts b s n M (b + 2 + s.toNat) j = M (b + 2 + s.toNat) j := by
  induction n with
  | zero =>
    refine ⟨fun _ _ _ _ _ => rfl, fun j a c => by omega, fun f => ⟨fun ⟨i, a, c, _⟩ => by omega, fun _ => rfl⟩, ?_, ?_, ?_, ?_, fun _ _ _ => rfl⟩
    · rw [m_sts, g_sum]; omega
    · rw [m_sts, g_sum]; omega
    · rw [m_sts, g_sum, h2]
    · rw [m_sts, g_ors, h6]
  | succ n ih =>
    have hb5 := hb
    unfold g_life at hb5
    obtain ⟨i1, i2, i3, i4, i5, i6, i7, i8⟩ := ih (by omega) (fun i a c => hit i a (by omega)) (fun i a c => hinc i a (by omega))
    obtain ⟨X, hX⟩ : ∃ X, X = m_sts b s n M := ⟨_, rfl⟩
    have e5 : X 545 = M 545 := by rw [hX]; exact i1 545 (by omega) (by omega) (by omega) (by omega)
    have e6 : X 546 = M 546 := by rw [hX]; exact i1 546 (by omega) (by omega) (by omega) (by omega)
    have hpn := hp n
    have hrn := hr n
    have eC : X (b + 47 + (M 545 n * 4 + M 546 n).toNat) = M (b + 47 + (M 545 n * 4 + M 546 n).toNat) := by rw [hX]; exact i1 _ (by omega) (by omega) (by omega) (by omega)
    obtain ⟨t1, t2, t3⟩ := hit n (by omega) (by omega)
    have s1 := g_sum_in (f := fun i => M (b + 47 + (M 545 i * 4 + M 546 i).toNat) 1) (m := 99) n (fun i a c => (hit i a (by omega)).1)
    have s2 := g_sum_in (f := fun i => M (b + 47 + (M 545 i * 4 + M 546 i).toNat) 2) (m := 99) n (fun i a c => (hit i a (by omega)).2.1)
    have s3 := g_sum_in (f := fun i => M (b + 47 + (M 545 i * 4 + M 546 i).toNat) 3) (m := 99) n (fun i a c => (hit i a (by omega)).2.2)
    rw [← hX] at i1 i2 i3 i4 i5 i6 i7 i8
    have hs1 : m_sts b s (n + 1) M = m_stp b s n (M 545 n) (M 546 n) X := by rw [m_sts, ← hX, m_step, e5, e6]
    have hz := z_stp (M := X) (X := m_sts b s (n + 1) M) (i := n) hs hpn hrn (by rw [eC]; exact t1) (by rw [eC]; exact t2) (by rw [eC]; exact t3) (by omega) (by omega) (by omega) hs1
    rw [eC] at hz
    obtain ⟨z1, z2, z3, z4, z5, z6, z7, z8, z9⟩ := hz
    generalize m_sts b s (n + 1) M = Y at z1 z2 z3 z4 z5 z6 z7 z8 z9 ⊢
    refine ⟨fun k a c d e => (z1 k a c d e).trans (i1 k a c d e), fun j a c => ?_, fun f => ⟨fun hex => ?_, fun hno => ?_⟩, ?_, ?_, ?_, ?_, fun j a c => ?_⟩
    · rw [z2, z3]
      by_cases e : j = n
      · rw [if_pos e, if_pos e, e]; exact ⟨rfl, rfl⟩
      · rw [if_neg e, if_neg e]; exact i2 j a (by omega)
    · rw [z4]
      by_cases e : f = M 545 n
      · rw [if_pos e, (i3 (M 545 n)).2 (fun ⟨i, a, c, d⟩ => ?_), e]
        have key : ∀ m : Nat, ∀ i : Int, 0 ≤ i → i + m < (n : Int) + 1 → 0 < m → M 545 i < M 545 (i + m) := by
          intro m
          induction m with
          | zero => intro i _ _ h; omega
          | succ m ihm =>
            intro i q1 q2 _
            by_cases y : m = 0
            · subst y
              exact hinc i q1 (by omega)
            · have u1 := ihm i q1 (by omega) (by omega)
              have u2 := hinc (i + m) (by omega) (by omega)
              rw [show i + ((m + 1 : Nat) : Int) = i + m + 1 by omega]
              omega
        have := key ((n : Int) - i).toNat i a (by omega) (by omega)
        rw [show i + ((((n : Int) - i).toNat : Nat) : Int) = n by omega] at this
        omega
      · rw [if_neg e]
        refine (i3 f).1 ?_
        obtain ⟨i, a, c, d⟩ := hex
        exact ⟨i, a, by
          by_cases y : i = n
          · rw [y] at d; exact absurd d.symm e
          · omega, d⟩
    · rw [z4, if_neg (fun e => hno ⟨n, by omega, by omega, e.symm⟩)]
      exact (i3 f).2 (fun ⟨i, a, c, d⟩ => hno ⟨i, a, by omega, d⟩)
    · rw [z5, i4, g_sum]; omega
    · rw [z6, i5, g_sum]; omega
    · rw [z7, i6, g_sum]
    · rw [z8, i7, g_ors]
    · rw [z9 j (by omega) (by omega) (by omega) (by omega)]; exact i8 j a c
