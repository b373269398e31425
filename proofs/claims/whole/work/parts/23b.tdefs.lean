theorem G_ts0 {w : g_W} {x : g_C} {P : g_P} {u v n : Nat} {I : g_I} {J : g_J} {R : g_R} {pc : Nat} {L : List (Option Value)} {st : List Value} (h : G w x P u v n (g_ts I (I 1 2) (I 1 3)) J R pc L st) : G w x P u v n I J R pc L st := by
  rwa [g_ts_0] at h
theorem G_eqI {w : g_W} {x : g_C} {P : g_P} {u v n : Nat} {I I2 : g_I} {J : g_J} {R : g_R} {pc : Nat} {L : List (Option Value)} {st : List Value} (e : I = I2) (h : G w x P u v n I2 J R pc L st) : G w x P u v n I J R pc L st := by
  rw [e]; exact h
/-- the first fault, if p is one -/
def g_q1 (q p : Int) : Int := if q = -1 then p else q
theorem g_q1_in {q p : Int} (hq : -1 ≤ q ∧ q ≤ 240) (hp : 0 ≤ p ∧ p ≤ 240) : 0 ≤ g_q1 q p ∧ g_q1 q p ≤ 240 := by
  unfold g_q1
  split <;> omega
theorem g_q1_q1 {q p r : Int} (h : -1 ≤ q) (hp : 0 ≤ p) : g_q1 (g_q1 q p) r = g_q1 q p := by
  unfold g_q1
  by_cases e : q = -1
  · rw [if_pos e, if_neg (show ¬ p = -1 by omega)]
  · rw [if_neg e, if_neg e]
/-- up to so many digits from a on: the number, the place behind -/
def g_dg (B : Int → Int) (n : Int) : Nat → Int → Int → Int × Int
  | 0, a, v => (v, a)
  | k + 1, a, v => if a < n ∧ 48 ≤ B a ∧ B a ≤ 57 then g_dg B n k (a + 1) (10 * v + B a - 48) else (v, a)
