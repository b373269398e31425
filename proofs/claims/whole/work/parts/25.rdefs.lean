/-- behind a sign numbers are held to a million -/
def g_jn (s l r : Int) : Int := max (-1000000) (min 1000000 (if s = 43 then l + r else if s = 45 then l - r else if s = 42 then l * r else if s = 47 then (if r = 0 then 0 else l.tdiv r) else if s = 61 then (if l = r then 1 else 0) else if s = 60 then (if l < r then 1 else 0) else if s = 62 then (if r < l then 1 else 0) else if s = 38 then g_land l r else g_lor l r))
theorem g_jn_in {s l r : Int} : -1000000 ≤ g_jn s l r ∧ g_jn s l r ≤ 1000000 := by unfold g_jn; omega
theorem g_mul64 {l r : Int} (hl : -2147483648 ≤ l ∧ l ≤ 2147483648) (hr : -2147483648 ≤ r ∧ r ≤ 2147483648) : -4611686018427387904 ≤ l * r ∧ l * r ≤ 4611686018427387904 := by
  have h1 : l.natAbs ≤ 2147483648 := by omega
  have h2 : r.natAbs ≤ 2147483648 := by omega
  have h3 : (l * r).natAbs ≤ 2147483648 * 2147483648 := by rw [Int.natAbs_mul]; exact Nat.mul_le_mul h1 h2
  omega
theorem g_tdiv_in {l r : Int} {m : Nat} (hl : l.natAbs ≤ m) : (l.tdiv r).natAbs ≤ m := by
  rw [Int.natAbs_tdiv]
  exact Nat.le_trans (Nat.div_le_self _ _) hl
/-- the first n places of W, the last ahead -/
def g_stk (W : Int → Int) : Nat → List Int
  | 0 => []
  | n + 1 => W n :: g_stk W n
theorem g_stk_len {W : Int → Int} : ∀ n : Nat, (g_stk W n).length = n
  | 0 => rfl
  | n + 1 => by rw [g_stk, List.length_cons, g_stk_len n]
theorem g_stk_cg {W W' : Int → Int} : ∀ n : Nat, (∀ j : Int, 0 ≤ j → j < n → W' j = W j) → g_stk W' n = g_stk W n
  | 0, _ => rfl
  | n + 1, h => by rw [g_stk, g_stk, h n (by omega) (by omega), g_stk_cg n (fun j h1 h2 => h j h1 (by omega))]
theorem g_stk_c {W : Int → Int} {n : Int} (h : 0 < n) : g_stk W n.toNat = W (n - 1) :: g_stk W (n - 1).toNat := by
  rw [show n.toNat = (n - 1).toNat + 1 by omega, g_stk, show (((n - 1).toNat : Nat) : Int) = n - 1 by omega]
theorem g_stk_n {W : Int → Int} {n : Int} (h : n ≤ 0) : g_stk W n.toNat = [] := by
  rw [show n.toNat = 0 by omega, g_stk]
/-- one sign of a TASTE: the end, or what lies ready then, and whether one goes by up to the next SUM's end -/
def g_rk1 (S Lt : Int → Int) (i : Int) (st : List Int) (sk : Bool) : Int ⊕ (List Int × Bool) :=
  if sk = true then .inr (st, decide (S i ≠ -59))
  else if 0 ≤ S i then .inr (if st.length < 64 then (if S i < 10000 then S i else Lt (S i - 10000)) :: st else st, false)
  else match st with
    | [] => .inl 0
    | a :: st1 =>
      if S i = -59 then .inl a
      else if S i = -63 then .inr (st1, decide (a = 0))
      else if S i = -33 then .inr ((1 - a) :: st1, false)
      else match st1 with
        | [] => .inr ([a], false)
        | b :: st2 => .inr (g_jn (-(S i)) b a :: st2, false)
/-- a TASTE's signs reckoned from place i on -/
def g_rk (S Lt : Int → Int) : Nat → Int → List Int → Bool → Int
  | 0, _, _, _ => 0
  | n + 1, i, st, sk => match g_rk1 S Lt i st sk with
    | .inl r => r
    | .inr q => g_rk S Lt n (i + 1) q.1 q.2
/-- the signs of a TASTE that has been told -/
def g_tok (I : g_I) (t : Nat) : Prop := (0 ≤ I t 2 ∧ I t 2 ≤ 256) ∧ ∀ i : Int, 0 ≤ i → i < I t 2 → (0 ≤ I (t + 1) i ∧ I (t + 1) i < 10008) ∨ I (t + 1) i = -33 ∨ I (t + 1) i = -38 ∨ I (t + 1) i = -42 ∨ I (t + 1) i = -43 ∨ I (t + 1) i = -45 ∨ I (t + 1) i = -47 ∨ I (t + 1) i = -59 ∨ I (t + 1) i = -60 ∨ I (t + 1) i = -61 ∨ I (t + 1) i = -62 ∨ I (t + 1) i = -63 ∨ I (t + 1) i = -124
/-- the usual end, but for scratch -/
def g_pgen (rv : Option Value) (Sc : Nat → Int → Prop) (I : g_I) (J : g_J) (R : g_R) : g_P := fun r n' I' J' R' => r = rv ∧ n' = g_n ∧ (∀ (k : Nat) (j : Int), ¬ Sc k j → I' k j = I k j) ∧ (∀ k j, g32 (I' k j)) ∧ J' = J ∧ R' = R
theorem g_land01 {l r : Int} (hl : l = 0 ∨ l = 1) (hr : r = 0 ∨ r = 1) : g_land l r = if l = 1 ∧ r = 1 then 1 else 0 := by
  rcases hl with rfl | rfl <;> rcases hr with rfl | rfl <;> decide +kernel
theorem g_lor01 {l r : Int} (hl : l = 0 ∨ l = 1) (hr : r = 0 ∨ r = 1) : g_lor l r = if l = 1 ∨ r = 1 then 1 else 0 := by
  rcases hl with rfl | rfl <;> rcases hr with rfl | rfl <;> decide +kernel
theorem g_land64 {l r : Int} : g64 (g_land l r) := g64_of _
theorem g_lor64 {l r : Int} : g64 (g_lor l r) := g64_of _
theorem g_jn43 {l r : Int} : g_jn 43 l r = max (-1000000) (min 1000000 (l + r)) := by unfold g_jn; rw [if_pos rfl]
theorem g_jn45 {l r : Int} : g_jn 45 l r = max (-1000000) (min 1000000 (l - r)) := by unfold g_jn; rw [if_neg (by decide), if_pos rfl]
theorem g_jn42 {l r : Int} : g_jn 42 l r = max (-1000000) (min 1000000 (l * r)) := by unfold g_jn; rw [if_neg (by decide), if_neg (by decide), if_pos rfl]
theorem g_jn47 {l r : Int} : g_jn 47 l r = max (-1000000) (min 1000000 (if r = 0 then 0 else l.tdiv r)) := by unfold g_jn; rw [if_neg (by decide), if_neg (by decide), if_neg (by decide), if_pos rfl]
theorem g_jn61 {l r : Int} : g_jn 61 l r = max (-1000000) (min 1000000 (if l = r then 1 else 0)) := by unfold g_jn; rw [if_neg (by decide), if_neg (by decide), if_neg (by decide), if_neg (by decide), if_pos rfl]
theorem g_jn60 {l r : Int} : g_jn 60 l r = max (-1000000) (min 1000000 (if l < r then 1 else 0)) := by unfold g_jn; rw [if_neg (by decide), if_neg (by decide), if_neg (by decide), if_neg (by decide), if_neg (by decide), if_pos rfl]
theorem g_jn62 {l r : Int} : g_jn 62 l r = max (-1000000) (min 1000000 (if r < l then 1 else 0)) := by unfold g_jn; rw [if_neg (by decide), if_neg (by decide), if_neg (by decide), if_neg (by decide), if_neg (by decide), if_neg (by decide), if_pos rfl]
theorem g_jn38 {l r : Int} : g_jn 38 l r = max (-1000000) (min 1000000 (g_land l r)) := by unfold g_jn; rw [if_neg (by decide), if_neg (by decide), if_neg (by decide), if_neg (by decide), if_neg (by decide), if_neg (by decide), if_neg (by decide), if_pos rfl]
theorem g_jn124 {l r : Int} : g_jn 124 l r = max (-1000000) (min 1000000 (g_lor l r)) := by unfold g_jn; rw [if_neg (by decide), if_neg (by decide), if_neg (by decide), if_neg (by decide), if_neg (by decide), if_neg (by decide), if_neg (by decide), if_neg (by decide)]
section GRK
variable {S Lt : Int → Int} {n i : Int} {st : List Int}
theorem g_nx (h : i < n) : (n - i).toNat = (n - (i + 1)).toNat + 1 := by omega
theorem g_rk_e {sk : Bool} (h : n ≤ i) : g_rk S Lt (n - i).toNat i st sk = 0 := by
  rw [show (n - i).toNat = 0 by omega]; rfl
theorem g_rk_r {sk : Bool} {q : List Int × Bool} (h : i < n) (e : g_rk1 S Lt i st sk = .inr q) : g_rk S Lt (n - i).toNat i st sk = g_rk S Lt (n - (i + 1)).toNat (i + 1) q.1 q.2 := by
  rw [g_nx h, g_rk, e]
theorem g_rk_l {sk : Bool} {r : Int} (h : i < n) (e : g_rk1 S Lt i st sk = .inl r) : g_rk S Lt (n - i).toNat i st sk = r := by
  rw [g_nx h, g_rk, e]
theorem g_rk_skip (h : i < n) : g_rk S Lt (n - i).toNat i st true = g_rk S Lt (n - (i + 1)).toNat (i + 1) st (decide (S i ≠ -59)) := g_rk_r (q := (st, decide (S i ≠ -59))) h (by unfold g_rk1; rw [if_pos rfl])
theorem g_rk_push (h : i < n) (hs : 0 ≤ S i) (hl : st.length < 64) : g_rk S Lt (n - i).toNat i st false = g_rk S Lt (n - (i + 1)).toNat (i + 1) ((if S i < 10000 then S i else Lt (S i - 10000)) :: st) false := g_rk_r (q := (_, false)) h (by unfold g_rk1; rw [if_neg (by decide), if_pos hs, if_pos hl])
theorem g_rk_full (h : i < n) (hs : 0 ≤ S i) (hl : ¬ st.length < 64) : g_rk S Lt (n - i).toNat i st false = g_rk S Lt (n - (i + 1)).toNat (i + 1) st false := g_rk_r (q := (st, false)) h (by unfold g_rk1; rw [if_neg (by decide), if_pos hs, if_neg hl])
theorem g_rk_nil (h : i < n) (hs : ¬ 0 ≤ S i) : g_rk S Lt (n - i).toNat i [] false = 0 := g_rk_l h (by unfold g_rk1; rw [if_neg (by decide), if_neg hs])
theorem g_rk_give {a : Int} (h : i < n) (hs : S i = -59) : g_rk S Lt (n - i).toNat i (a :: st) false = a := g_rk_l h (by unfold g_rk1; rw [if_neg (by decide), if_neg (by omega)]; simp only [if_pos hs])
theorem g_rk_test {a : Int} (h : i < n) (hs : S i = -63) : g_rk S Lt (n - i).toNat i (a :: st) false = g_rk S Lt (n - (i + 1)).toNat (i + 1) st (decide (a = 0)) := g_rk_r (q := (st, decide (a = 0))) h (by unfold g_rk1; rw [if_neg (by decide), if_neg (by omega)]; simp only [if_neg (show ¬ S i = -59 by omega), if_pos hs])
theorem g_rk_not {a : Int} (h : i < n) (hs : S i = -33) : g_rk S Lt (n - i).toNat i (a :: st) false = g_rk S Lt (n - (i + 1)).toNat (i + 1) ((1 - a) :: st) false := g_rk_r (q := ((1 - a) :: st, false)) h (by unfold g_rk1; rw [if_neg (by decide), if_neg (by omega)]; simp only [if_neg (show ¬ S i = -59 by omega), if_neg (show ¬ S i = -63 by omega), if_pos hs])
theorem g_rk_one {a : Int} (h : i < n) (hs : S i < 0) (h1 : ¬ S i = -59) (h2 : ¬ S i = -63) (h3 : ¬ S i = -33) : g_rk S Lt (n - i).toNat i [a] false = g_rk S Lt (n - (i + 1)).toNat (i + 1) [a] false := g_rk_r (q := ([a], false)) h (by unfold g_rk1; rw [if_neg (by decide), if_neg (by omega)]; simp only [if_neg h1, if_neg h2, if_neg h3])
theorem g_rk_bin {a b : Int} (h : i < n) (hs : S i < 0) (h1 : ¬ S i = -59) (h2 : ¬ S i = -63) (h3 : ¬ S i = -33) : g_rk S Lt (n - i).toNat i (a :: b :: st) false = g_rk S Lt (n - (i + 1)).toNat (i + 1) (g_jn (-(S i)) b a :: st) false := g_rk_r (q := (g_jn (-(S i)) b a :: st, false)) h (by unfold g_rk1; rw [if_neg (by decide), if_neg (by omega)]; simp only [if_neg h1, if_neg h2, if_neg h3])
theorem g_stk_up {I2 : g_I} {k : Nat} {top v : Int} (h : 0 ≤ top) : g_stk (g_up I2 k top v k) (top + 1).toNat = v :: g_stk (I2 k) top.toNat := by
  rw [g_stk_c (by omega), show top + 1 - 1 = top by omega, g_up_s, g_stk_cg top.toNat (fun j h1 h2 => g_up_i (by omega))]
end GRK
theorem g_stk_up2 {I2 : g_I} {k : Nat} {top v : Int} (h : 0 < top) : g_stk (g_up I2 k (top - 1) v k) top.toNat = v :: g_stk (I2 k) (top - 1).toNat := by
  have h2 := g_stk_up (I2 := I2) (k := k) (top := top - 1) (v := v) (by omega)
  rwa [show top - 1 + 1 = top by omega] at h2
def g_le : List (Option Value) → List (Option Value) → Prop
  | [], [] => True
  | none :: a, _ :: b => g_le a b
  | some v :: a, y :: b => y = some v ∧ g_le a b
  | _, _ => False
theorem g_le_ok : ∀ {a b : List (Option Value)}, g_le a b → a.length = b.length ∧ ∀ (i : Nat) (v : Value), a[i]? = some (some v) → b[i]? = some (some v)
  | [], [], _ => ⟨rfl, fun i v h => by simp at h⟩
  | none :: a, y :: b, h => by
    obtain ⟨h1, h2⟩ := g_le_ok (a := a) (b := b) h
    refine ⟨by simp [h1], fun i v hv => ?_⟩
    match i, hv with
    | 0, hv => simp at hv
    | i + 1, hv => exact h2 i v (by simpa using hv)
  | some z :: a, y :: b, h => by
    obtain ⟨h1, h2⟩ := g_le_ok (a := a) (b := b) h.2
    refine ⟨by simp [h1], fun i v hv => ?_⟩
    match i, hv with
    | 0, hv => simp at hv; subst hv; simp [h.1]
    | i + 1, hv => exact h2 i v (by simpa using hv)
  | [], _ :: _, h => h.elim
  | some _ :: _, [], h => h.elim
  | none :: _, [], h => h.elim
theorem G_sub {w : g_W} {x : g_C} {P : g_P} {u v n : Nat} {I : g_I} {J : g_J} {R : g_R} {pc : Nat} {L L' : List (Option Value)} {st : List Value} (hle : g_le L' L) (h : G w x P u v n I J R pc L' st) : G w x P u v n I J R pc L st := by
  obtain ⟨p, e, Rm, s, m, args, below, meth, c, mc, ms⟩ := x
  obtain ⟨h1, h2⟩ := g_le_ok hle
  exact fun H locs ls hP hS hl => h H locs ls hP hS (g_lh_sub hl h1 h2)
