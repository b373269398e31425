section GEX
variable {w : g_W} {x : g_C} {P : g_P} {u v n : Nat} {I : g_I} {J : g_J} {R : g_R} {pc : Nat} {L : List (Option Value)} {st : List Value} {cc : ByteArray} {nL : Nat} {rt : Option FieldType} {own : String} {d : Nat}
theorem g_getIe {k ci j idx : Nat} {ds : String} {z : Int} (hc : g_OK w x cc nL rt own d) (h : g_lk own idx ci j 0 ds) (hs : g_at n k (.inl ci)) (ji : Int) (hji : (j : Int) = ji) (hz : I k ji = z) (hd : decode cc pc = .ok (.getfield idx, 3)) (kk : G w x P u v n I J R (pc + 3) L (gvI z :: st)) : G w x P u v n I J R pc L (gvr w k :: st) := by
  subst hz
  exact g_getI' hc h hs ji hji hd kk
theorem g_putIe {k ci j idx : Nat} {z : Int} {I2 : g_I} (hc : g_OK w x cc nL rt own d) (h : g_lk own idx ci j 0 "I") (hs : g_at n k (.inl ci)) (ji : Int) (hji : (j : Int) = ji) (hI2 : g_up I k ji z = I2) (hd : decode cc pc = .ok (.putfield idx, 3)) (kk : G w x P u v n I2 J R (pc + 3) L st) : G w x P u v n I J R pc L (gvI z :: gvr w k :: st) := by
  subst hI2
  exact g_putI' hc h hs ji hji hd (fun I' hI' => by rw [hI']; exact kk)
theorem g_ialde {k len : Nat} {i z : Int} (hc : g_OK w x cc nL rt own d) (hs : g_at n k (.inr (0, len))) (hn : len < 2 ^ 31) (h0 : 0 ≤ i) (h1 : i < (len : Int)) (hz : I k i = z) (hd : decode cc pc = .ok (.iaload, 1)) (kk : G w x P u v n I J R (pc + 1) L (gvI z :: st)) : G w x P u v n I J R pc L (gvI i :: gvr w k :: st) := by
  subst hz
  exact g_iald hc hs hn h0 h1 hd kk
theorem g_iaste {k len : Nat} {i z : Int} {I2 : g_I} (hc : g_OK w x cc nL rt own d) (hs : g_at n k (.inr (0, len))) (hn : len < 2 ^ 31) (h0 : 0 ≤ i) (h1 : i < (len : Int)) (hI2 : g_up I k i z = I2) (hd : decode cc pc = .ok (.iastore, 1)) (kk : G w x P u v n I2 J R (pc + 1) L st) : G w x P u v n I J R pc L (gvI z :: gvI i :: gvr w k :: st) := by
  subst hI2
  exact g_iast hc hs hn h0 h1 hd kk
end GEX
theorem g_up32 {I : g_I} (hI : ∀ k j, g32 (I k j)) {k : Nat} {i v : Int} (hv : g32 v) : ∀ a j, g32 (g_up I k i v a j) := by
  intro a j
  unfold g_up
  split
  · exact hv
  · exact hI a j
theorem g_up_same {I : g_I} {k : Nat} {i : Int} : g_up I k i (I k i) = I := by
  funext a j
  unfold g_up
  split
  · rename_i h; rw [h.1, h.2]
  · rfl
theorem g_up_up {I : g_I} {k : Nat} {i u v : Int} : g_up (g_up I k i u) k i v = g_up I k i v := by
  funext a j
  unfold g_up
  split <;> rfl
theorem g_up_cm {I : g_I} {k k2 : Nat} {i i2 u v : Int} (h : k ≠ k2 ∨ i ≠ i2) : g_up (g_up I k i u) k2 i2 v = g_up (g_up I k2 i2 v) k i u := by
  funext a j
  unfold g_up
  by_cases h1 : a = k ∧ j = i <;> by_cases h2 : a = k2 ∧ j = i2
  · exact absurd (h1.1.symm.trans h2.1) (fun q => by rcases h with h | h; exact h q; exact h (h1.2.symm.trans h2.2))
  · simp [h1, h2]; intro e1 e2; exact absurd ⟨h1.1.trans e1, h1.2.trans e2⟩ h2
  · simp [h1, h2]; intro e1 e2; exact absurd ⟨h2.1.trans e1, h2.2.trans e2⟩ h1
  · simp [h1, h2]
/-- the TAPE read up to a, with q the first fault -/
def g_ts (I : g_I) (a q : Int) : g_I := g_up (g_up I 1 3 q) 1 2 a
section GTS
variable {I : g_I} {a q : Int}
theorem g_ts_a : g_ts I a q 1 2 = a := g_up_s
theorem g_ts_q : g_ts I a q 1 3 = q := by rw [g_ts, g_up_i (by decide), g_up_s]
theorem g_ts_n : g_ts I a q 1 1 = I 1 1 := by rw [g_ts, g_up_i (by decide), g_up_i (by decide)]
theorem g_ts_k {k : Nat} {j : Int} (h : k ≠ 1) : g_ts I a q k j = I k j := by rw [g_ts, g_up_k h, g_up_k h]
theorem g_ts_f {k : Nat} (h : k ≠ 1) : g_ts I a q k = I k := funext fun _ => g_ts_k h
theorem g_ts_pa {b : Int} : g_up (g_ts I a q) 1 2 b = g_ts I b q := g_up_up
theorem g_ts_pq {b : Int} : g_up (g_ts I a q) 1 3 b = g_ts I a b := by
  unfold g_ts
  rw [g_up_cm (Or.inr (by decide)), g_up_up]
theorem g_ts_p {k : Nat} {i v : Int} (h : k ≠ 1) : g_up (g_ts I a q) k i v = g_ts (g_up I k i v) a q := by
  unfold g_ts
  rw [g_up_cm (Or.inl (Ne.symm h)), g_up_cm (I := I) (Or.inl (Ne.symm h))]
theorem g_ts_0 : g_ts I (I 1 2) (I 1 3) = I := by unfold g_ts; rw [g_up_same, g_up_same]
theorem g_ts_ts {b r : Int} : g_ts (g_ts I a q) b r = g_ts I b r := by
  rw [show g_ts (g_ts I a q) b r = g_up (g_up (g_ts I a q) 1 3 r) 1 2 b from rfl, g_ts_pq, g_ts_pa]
theorem g_ts32 (hI : ∀ k j, g32 (I k j)) (ha : g32 a) (hq : g32 q) : ∀ k j, g32 (g_ts I a q k j) := g_up32 (g_up32 hI hq) ha
end GTS
/-- behind blanks: n bytes are left at a -/
def g_sk (B : Int → Int) : Nat → Int → Int
  | 0, a => a
  | n + 1, a => if B a = 32 then g_sk B n (a + 1) else a
def g_pos (B : Int → Int) (len a : Int) : Int := g_sk B (len - a).toNat a
/-- the sign behind blanks -/
def g_sgn (B : Int → Int) (len a : Int) : Int := if g_pos B len a < len then B (g_pos B len a) else -1
theorem g_pos_b {B : Int → Int} {len a : Int} (h : a < len) (hb : B a = 32) : g_pos B len a = g_pos B len (a + 1) := by
  unfold g_pos
  rw [show (len - a).toNat = (len - (a + 1)).toNat + 1 by omega, g_sk, if_pos hb]
theorem g_pos_n {B : Int → Int} {len a : Int} (h : a < len) (hb : ¬ B a = 32) : g_pos B len a = a := by
  unfold g_pos
  rw [show (len - a).toNat = (len - (a + 1)).toNat + 1 by omega, g_sk, if_neg hb]
theorem g_pos_e {B : Int → Int} {len a : Int} (h : len ≤ a) : g_pos B len a = a := by
  unfold g_pos
  rw [show (len - a).toNat = 0 by omega, g_sk]
theorem g_sk_in {B : Int → Int} : ∀ (n : Nat) (a : Int), a ≤ g_sk B n a ∧ g_sk B n a ≤ a + n
  | 0, a => by simp [g_sk]
  | n + 1, a => by
    unfold g_sk
    have := g_sk_in (B := B) n (a + 1)
    split <;> omega
theorem g_pos_in {B : Int → Int} {len a : Int} (h : a ≤ len) : a ≤ g_pos B len a ∧ g_pos B len a ≤ len := by
  have := g_sk_in (B := B) (len - a).toNat a
  unfold g_pos
  omega
theorem g_sk_id {B : Int → Int} : ∀ (n : Nat) (a : Int), ¬ B (g_sk B n a) = 32 ∨ g_sk B n a = a + n
  | 0, a => by simp [g_sk]
  | n + 1, a => by
    unfold g_sk
    have := g_sk_id (B := B) n (a + 1)
    split
    · rcases this with h | h
      · exact Or.inl h
      · exact Or.inr (by omega)
    · rename_i h; exact Or.inl h
theorem g_pos_pos {B : Int → Int} {len a : Int} (h : a ≤ len) : g_pos B len (g_pos B len a) = g_pos B len a := by
  have h1 := g_pos_in (B := B) h
  by_cases h2 : g_pos B len a < len
  · refine g_pos_n h2 ?_
    have := g_sk_id (B := B) (len - a).toNat a
    unfold g_pos at h2 ⊢
    rcases this with h3 | h3
    · exact h3
    · omega
  · exact g_pos_e (by omega)
theorem g_sgn_pos {B : Int → Int} {len a : Int} (h : a ≤ len) : g_sgn B len (g_pos B len a) = g_sgn B len a := by
  unfold g_sgn
  rw [g_pos_pos h]
