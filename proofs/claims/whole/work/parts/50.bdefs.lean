section GPL
variable {w : g_W} {x : g_C} {P : g_P} {u v n : Nat} {I : g_I} {J : g_J} {R : g_R} {pc : Nat} {L : List (Option Value)} {st : List Value} {cc : ByteArray} {nL : Nat} {rt : Option FieldType} {own : String} {d : Nat}
theorem g_putLe {k ci j idx : Nat} {z : Int} {J2 : g_J} (hc : g_OK w x cc nL rt own d) (h : g_lk own idx ci j 1 "J") (hs : g_at n k (.inl ci)) (h1 : ∀ i, i ≠ j → ¬ (g_kd ci)[i]? = some 1) (e : g_upJ J k z = J2) (hd : decode cc pc = .ok (.putfield idx, 3)) (kk : G w x P u v n I J2 R (pc + 3) L st) : G w x P u v n I J R pc L (gvL z :: gvr w k :: st) := by
  subst e
  exact g_putL hc h hs h1 hd kk
end GPL
/-- the next draw -/
def g_dnx (x : Int) : Int := x * 6364136223846793005 + 1442695040888963407
def g_drw (x m : Int) : Int := if m ≤ 0 then 0 else (g_lushr (g_dnx x) 33).tmod m
/-- the BRANCH into whose part a number falls -/
def g_bra (I : g_I) (b : Nat) (f mask wz : Int) : Nat → Int → Int → Int
  | 0, _, _ => -1
  | n + 1, r, left => if g_bit mask r then (if left - (if wz = 0 then 1 else I (b + 47 + (f * 4 + r).toNat) 0) < 0 then r else g_bra I b f mask wz n (r + 1) (left - (if wz = 0 then 1 else I (b + 47 + (f * 4 + r).toNat) 0))) else g_bra I b f mask wz n (r + 1) left
/-- the BRANCH drawn at a FORK, and what stands for the next draw -/
def g_dbr (I : g_I) (b : Nat) (f x : Int) : Int × Int :=
  if I (b + 42) f = 1 then (g_bra I b f (I 550 (4 + f)) 1 (I (b + 43) f).toNat 0 (g_drw x (g_wt I b f (I 550 (4 + f)) (I (b + 43) f).toNat)), g_dnx x)
  else if I 550 0 = 3 then (g_bra I b f (I 550 (4 + f)) 0 (I (b + 43) f).toNat 0 (g_drw x (g_bc (I 550 (4 + f)))), g_dnx x)
  else (g_cho I b f (I 550 (4 + f)), x)
/-- a step of a birth -/
def g_ds1 (I : g_I) (b : Nat) (t x : Int) : Int × Int :=
  (if (0 ≤ t - 100 ∧ t - 100 < I b 1) ∧ 0 ≤ (g_dbr I b (t - 100) x).1 ∧ (g_dbr I b (t - 100) x).1 < I (b + 43) (t - 100) then I (b + 127) ((t - 100) * 4 + (g_dbr I b (t - 100) x).1) else -1, (g_dbr I b (t - 100) x).2)
def g_dsr (I : g_I) (b : Nat) : Nat → Int × Int → Int × Int
  | 0, q => q
  | n + 1, q => if 100 ≤ q.1 then g_dsr I b n (g_ds1 I b q.1 q.2) else q
/-- who is born, and what stands for the next draw -/
def g_dsf (I : g_I) (b : Nat) (x : Int) : Int × Int := g_dsr I b 6 (if I b 1 = 0 then 0 else 100, x)
def g_hmn (I : g_I) (b : Nat) (s x : Int) : Nat → Int × Int
  | 0 => (0, x)
  | n + 1 => ((g_hmn I b s x n).1 + (if (g_dsf I b (g_hmn I b s x n).2).1 = s then 1 else 0), (g_dsf I b (g_hmn I b s x n).2).2)
theorem g_kd0 : ∀ i, i ≠ 3 → ¬ (g_kd 0)[i]? = some 1 := by
  intro i hi
  match i with
  | 0 => decide
  | 1 => decide
  | 2 => decide
  | 3 => exact absurd rfl hi
  | n + 4 => exact fun z => by cases z
theorem g_dsr_e {I : g_I} {b : Nat} {n : Nat} {q : Int × Int} (h : ¬ 100 ≤ q.1) : g_dsr I b n q = q := by
  cases n with
  | zero => rfl
  | succ n => rw [g_dsr, if_neg h]
theorem g_hmn_i {I : g_I} {b : Nat} {s x i : Int} (h : 0 ≤ i) : g_hmn I b s x (i + 1).toNat = ((g_hmn I b s x i.toNat).1 + (if (g_dsf I b (g_hmn I b s x i.toNat).2).1 = s then 1 else 0), (g_dsf I b (g_hmn I b s x i.toNat).2).2) := by
  rw [show (i + 1).toNat = i.toNat + 1 by omega, g_hmn]
theorem g_dsr_in {I : g_I} {b : Nat} (hL : g_lok I b) : ∀ (n : Nat) (q : Int × Int), (-1 ≤ q.1 ∧ q.1 < 100 + I b 1 ∨ q.1 = 0) → -1 ≤ (g_dsr I b n q).1 ∧ (g_dsr I b n q).1 < 100 + I b 1 ∨ (g_dsr I b n q).1 = 0
  | 0, q, h => h
  | n + 1, q, h => by
    rw [g_dsr]
    by_cases e : 100 ≤ q.1
    · rw [if_pos e]
      refine g_dsr_in hL n _ ?_
      unfold g_ds1
      dsimp only
      split
      · rename_i hin
        obtain ⟨-, -, -, hit⟩ := hL.2.2.2 _ hin.1.1 hin.1.2
        obtain ⟨-, -, -, -, -, ht⟩ := hit _ hin.2.1 hin.2.2
        have := hL.1
        have := hL.2.1
        omega
      · left
        have := hL.2.1
        omega
    · rw [if_neg e]; exact h
theorem g_dsf_in {I : g_I} {b : Nat} {x : Int} (hL : g_lok I b) : -1 ≤ (g_dsf I b x).1 ∧ (g_dsf I b x).1 ≤ 118 := by
  have h := g_dsr_in hL 6 (if I b 1 = 0 then 0 else 100, x) (by
    have := hL.2.1
    dsimp only
    split <;> omega)
  have := hL.2.1
  unfold g_dsf
  omega
/-- a BIRTHDAY put by -/
def g_ptb (I : g_I) (s : Int) : g_I := g_up (g_up I 702 (I 701 2) s) 701 2 (I 701 2 + 1)
theorem g_bra_in {I : g_I} {b : Nat} {f mask wz : Int} : ∀ (n : Nat) (r left : Int), 0 ≤ r → -1 ≤ g_bra I b f mask wz n r left ∧ (g_bra I b f mask wz n r left < r + n ∨ g_bra I b f mask wz n r left = -1)
  | 0, r, left, h => by simp [g_bra]
  | n + 1, r, left, h => by
    have h1 := fun l => g_bra_in (I := I) (b := b) (f := f) (mask := mask) (wz := wz) n (r + 1) l (by omega)
    rw [g_bra]
    generalize (if wz = 0 then 1 else I (b + 47 + (f * 4 + r).toNat) 0) = z
    have h2 := h1 left
    have h3 := h1 (left - z)
    by_cases hb : g_bit mask r
    · rw [if_pos hb]
      split <;> omega
    · rw [if_neg hb]
      omega
theorem g_dbr_in {I : g_I} {b : Nat} {f x : Int} (h : 2 ≤ I (b + 43) f ∧ I (b + 43) f ≤ 4) : -1 ≤ (g_dbr I b f x).1 ∧ (g_dbr I b f x).1 < 4 := by
  unfold g_dbr
  split
  · dsimp only
    have := g_bra_in (I := I) (b := b) (f := f) (mask := I 550 (4 + f)) (wz := 1) (I (b + 43) f).toNat 0 (g_drw x (g_wt I b f (I 550 (4 + f)) (I (b + 43) f).toNat)) (by decide)
    omega
  · split
    · dsimp only
      have := g_bra_in (I := I) (b := b) (f := f) (mask := I 550 (4 + f)) (wz := 0) (I (b + 43) f).toNat 0 (g_drw x (g_bc (I 550 (4 + f)))) (by decide)
      omega
    · dsimp only
      have h3 := g_chs_in (rank := fun r => g_rnk I b f r (g_bc (I 550 (4 + f)))) (mask := I 550 (4 + f)) (I (b + 43) f).toNat
      unfold g_cho
      omega
