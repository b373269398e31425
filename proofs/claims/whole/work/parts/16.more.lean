/-- locals at a method's start -/
def g_argl : List Value → List (Option Value)
  | [] => []
  | a :: as => (if a.category = 2 then [some a, none] else [some a]) ++ g_argl as
theorem g_args0 {k : Nat} : ∀ (as : List Value) (o i : Nat) (v : Value), (g_argl as ++ List.replicate k none)[i]? = some (some v) → (o + i, v) ∈ lv_args o as
  | [], o, i, v, h => by
    simp only [g_argl, List.nil_append, List.getElem?_replicate] at h
    split at h <;> simp at h
  | a :: as, o, i, v, h => by
    unfold g_argl at h
    unfold lv_args
    by_cases hc : a.category = 2
    · rw [if_pos hc] at h ⊢
      match i, h with
      | 0, h => simp at h; subst h; exact List.mem_cons_self
      | 1, h => simp at h
      | i + 2, h =>
        have h2 : (g_argl as ++ List.replicate k none)[i]? = some (some v) := by simpa using h
        have h3 := g_args0 as (o + 2) i v h2
        rw [show o + (i + 2) = o + 2 + i by omega]
        exact List.mem_cons_of_mem _ h3
    · rw [if_neg hc] at h ⊢
      match i, h with
      | 0, h => simp at h; subst h; exact List.mem_cons_self
      | i + 1, h =>
        have h2 : (g_argl as ++ List.replicate k none)[i]? = some (some v) := by simpa using h
        have h3 := g_args0 as (o + 1) i v h2
        rw [show o + (i + 1) = o + 1 + i by omega]
        exact List.mem_cons_of_mem _ h3
theorem g_args {as : List Value} {L0 : List (Option Value)} (k : Nat) (i : Nat) (v : Value) (hv : L0[i]? = some (some v)) (h : L0 = g_argl as ++ List.replicate k none) : (i, v) ∈ lv_args 0 as := by
  subst h
  have := g_args0 as 0 i v hv
  rwa [Nat.zero_add] at this
section GNAM
variable {w : g_W} {x : g_C} {P : g_P} {u v n : Nat} {I : g_I} {J : g_J} {R : g_R} {pc : Nat} {L : List (Option Value)} {st : List Value} {cc : ByteArray} {nL : Nat} {rt : Option FieldType} {own : String} {d : Nat}
theorem g_getI' {k ci j idx : Nat} {ds : String} (hc : g_OK w x cc nL rt own d) (h : g_lk own idx ci j 0 ds) (hs : g_at n k (.inl ci)) (ji : Int) (hji : (j : Int) = ji) (hd : decode cc pc = .ok (.getfield idx, 3)) (kk : G w x P u v n I J R (pc + 3) L (gvI (I k ji) :: st)) : G w x P u v n I J R pc L (gvr w k :: st) := by
  subst hji
  exact g_getI hc h hs hd kk
theorem g_putI' {k ci j idx : Nat} {z : Int} (hc : g_OK w x cc nL rt own d) (h : g_lk own idx ci j 0 "I") (hs : g_at n k (.inl ci)) (ji : Int) (hji : (j : Int) = ji) (hd : decode cc pc = .ok (.putfield idx, 3)) (kk : ∀ I' : g_I, I' = g_up I k ji z → G w x P u v n I' J R (pc + 3) L st) : G w x P u v n I J R pc L (gvI z :: gvr w k :: st) := by
  subst hji
  exact g_putI hc h hs hd (kk _ rfl)
theorem g_putZ' {k ci j idx : Nat} {z : Int} (hc : g_OK w x cc nL rt own d) (h : g_lk own idx ci j 0 "Z") (hs : g_at n k (.inl ci)) (hz : z = 0 ∨ z = 1) (ji : Int) (hji : (j : Int) = ji) (hd : decode cc pc = .ok (.putfield idx, 3)) (kk : ∀ I' : g_I, I' = g_up I k ji z → G w x P u v n I' J R (pc + 3) L st) : G w x P u v n I J R pc L (gvI z :: gvr w k :: st) := by
  subst hji
  exact g_putZ hc h hs hz hd (kk _ rfl)
theorem g_iast' {k len : Nat} {i z : Int} (hc : g_OK w x cc nL rt own d) (hs : g_at n k (.inr (0, len))) (hn : len < 2 ^ 31) (h0 : 0 ≤ i) (h1 : i < (len : Int)) (hd : decode cc pc = .ok (.iastore, 1)) (kk : ∀ I' : g_I, I' = g_up I k i z → G w x P u v n I' J R (pc + 1) L st) : G w x P u v n I J R pc L (gvI z :: gvI i :: gvr w k :: st) := g_iast hc hs hn h0 h1 hd (kk _ rfl)
theorem g_bast' {k len : Nat} {i z : Int} (hc : g_OK w x cc nL rt own d) (hs : g_at n k (.inr (1, len))) (hn : len < 2 ^ 31) (h0 : 0 ≤ i) (h1 : i < (len : Int)) (hz : vp_nar .byte (Int32.ofInt z) = Int32.ofInt z) (hd : decode cc pc = .ok (.bastore, 1)) (kk : ∀ I' : g_I, I' = g_up I k i z → G w x P u v n I' J R (pc + 1) L st) : G w x P u v n I J R pc L (gvI z :: gvI i :: gvr w k :: st) := g_bast hc hs hn h0 h1 hz hd (kk _ rfl)
theorem g_zast' {k len : Nat} {i z : Int} (hc : g_OK w x cc nL rt own d) (hs : g_at n k (.inr (2, len))) (hn : len < 2 ^ 31) (h0 : 0 ≤ i) (h1 : i < (len : Int)) (hz : z = 0 ∨ z = 1) (hd : decode cc pc = .ok (.bastore, 1)) (kk : ∀ I' : g_I, I' = g_up I k i z → G w x P u v n I' J R (pc + 1) L st) : G w x P u v n I J R pc L (gvI z :: gvI i :: gvr w k :: st) := g_zast hc hs hn h0 h1 hz hd (kk _ rfl)
end GNAM
/-- the first place from i on, among n, at which p is so; -1 without -/
def g_first (p : Int → Bool) : Nat → Int → Int
  | 0, _ => -1
  | n + 1, i => if p i = true then i else g_first p n (i + 1)
/-- sums of the first n -/
def g_sum (f : Int → Int) : Nat → Int
  | 0 => 0
  | n + 1 => g_sum f n + f n
theorem g_sum_i {f : Int → Int} {i : Int} (h : 0 ≤ i) : g_sum f (i + 1).toNat = g_sum f i.toNat + f i := by
  rw [show (i + 1).toNat = i.toNat + 1 by omega, g_sum, show ((i.toNat : Nat) : Int) = i by omega]
theorem g_first_t {p : Int → Bool} {n i : Int} (h : i < n) (hp : p i = true) : g_first p (n - i).toNat i = i := by
  rw [show (n - i).toNat = (n - (i + 1)).toNat + 1 by omega, g_first, if_pos hp]
theorem g_first_f {p : Int → Bool} {n i : Int} (h : i < n) (hp : ¬ p i = true) : g_first p (n - i).toNat i = g_first p (n - (i + 1)).toNat (i + 1) := by
  rw [show (n - i).toNat = (n - (i + 1)).toNat + 1 by omega, g_first, if_neg hp]
theorem g_first_e {p : Int → Bool} {n i : Int} (h : n ≤ i) : g_first p (n - i).toNat i = -1 := by
  rw [show (n - i).toNat = 0 by omega, g_first]
theorem g_and32 {a b : Int} : g32 (g_and a b) := g32_of _
theorem g_or32 {a b : Int} : g32 (g_or a b) := g32_of _
theorem g_shl32 {a b : Int} : g32 (g_shl a b) := g32_of _
theorem g_shr32 {a b : Int} : g32 (g_shr a b) := g32_of _
