/-- FACTS of a SELF -/
abbrev g_fct (I : g_I) (b : Nat) (s : Int) : Int := I (b + 2 + s.toNat) 6
def g_cmn (I : g_I) (b : Nat) (set : Int) : Nat → Int
  | 0 => 1023
  | n + 1 => g_and (g_cmn I b set n) (if g_bit set n then g_fct I b n else 1023)
theorem g_cmn_i {I : g_I} {b : Nat} {set i : Int} (h : 0 ≤ i) : g_cmn I b set (i + 1).toNat = g_and (g_cmn I b set i.toNat) (if g_bit set i then g_fct I b i else 1023) := by
  rw [show (i + 1).toNat = i.toNat + 1 by omega, g_cmn, show ((i.toNat : Nat) : Int) = i by omega]
def g_com (I : g_I) (b : Nat) (set : Int) : Int := g_cmn I b set (I b 0).toNat
/-- TWINS -/
def g_twn (I : g_I) (b : Nat) (s : Int) : Int := g_ors (fun t => if ¬ t = s ∧ g_fct I b t = g_fct I b s ∧ g_thr I b t = true then g_shl 1 t else 0) (I b 0).toNat
def g_tls (I : g_I) (b : Nat) (s o set : Int) : Bool := g_all (fun t => decide (¬ (g_bit o t ∧ g_and (g_xor (g_fct I b t) (g_fct I b s)) set = 0))) (I b 0).toNat 0
def g_rea (I : g_I) (b : Nat) (o set : Int) : Bool := g_all (fun t => decide (¬ (g_bit o t ∧ g_and (g_fct I b t) set = 0))) (I b 0).toNat 0
/-- the fewest FACTS of which p is so, below n; of several the least -/
def g_fws (p : Int → Bool) : Nat → Int
  | 0 => 1023
  | n + 1 => if g_bc n < g_bc (g_fws p n) ∧ p n = true then (n : Int) else g_fws p n
theorem g_fws_i {p : Int → Bool} {i : Int} (h : 0 ≤ i) : g_fws p (i + 1).toNat = if g_bc i < g_bc (g_fws p i.toNat) ∧ p i = true then i else g_fws p i.toNat := by
  rw [show (i + 1).toNat = i.toNat + 1 by omega, g_fws, show ((i.toNat : Nat) : Int) = i by omega]
def g_tel (I : g_I) (b : Nat) (s : Int) : Int := if ¬ g_twn I b s = 0 then -1 else g_fws (fun set => g_tls I b s (g_and (g_thb I b) (g_xor (g_shl 1 s) (-1))) set) 1023
def g_sen (I : g_I) (b : Nat) : Int := if g_rea I b (g_thb I b) 1023 = true then g_fws (fun set => g_rea I b (g_thb I b) set) 1023 else -1
def g_lds (I : g_I) (b : Nat) (u v : Int) : Bool := g_all (fun t => decide (¬ (g_bit (g_fct I b t) u ∧ ¬ g_bit (g_fct I b t) v ∧ g_thr I b t = true))) (I b 0).toNat 0
/-- whether a SELF has a FACT -/
abbrev g_hfa (I : g_I) (b : Nat) (s u : Int) : Prop := u ≤ 9 ∧ g_bit (g_fct I b s) u
/-- whether a CLUE is so of a SELF -/
def g_hld (I : g_I) (b : Nat) (c s : Int) : Prop :=
  if I 698 c = 0 then g_hfa I b s (I 699 c) else if I 698 c = 1 then ¬ g_hfa I b s (I 699 c) else if I 698 c = 2 then ¬ g_stp I b s (I 699 c) = -1 else if I 698 c = 3 then I 699 c ≤ I (b + 2 + s.toNat) 0 else if I 698 c = 4 then I 699 c ≤ I (b + 2 + s.toNat) 3 else ¬ I 699 c = s ∧ I 699 c < I b 0 ∧ g_prt I b s (I 699 c) = I 700 c
noncomputable def g_hlb (I : g_I) (b : Nat) (c s : Int) : Bool := @decide (g_hld I b c s) (Classical.propDecidable _)
theorem g_hlb_iff {I : g_I} {b : Nat} {c s : Int} : g_hlb I b c s = true ↔ g_hld I b c s := by unfold g_hlb; exact @decide_eq_true_iff _ (Classical.propDecidable _)
noncomputable def g_cbe (I : g_I) (b : Nat) (s : Int) : Bool := g_all (fun c => g_hlb I b c s) (I 697 4).toNat 0
noncomputable def g_pos2 (I : g_I) (b : Nat) : Int := g_ors (fun s => if g_cbe I b s = true then g_shl 1 s else 0) (I b 0).toNat
/-- the likeliest of the first n that can be: which, its ODDS -/
noncomputable def g_lkn (I : g_I) (b : Nat) : Nat → Int × Int
  | 0 => (-1, 0)
  | n + 1 => if g_cbe I b n = true ∧ ((g_lkn I b n).1 = -1 ∨ (g_lkn I b n).2 < g_pts I b n 1) then ((n : Int), g_pts I b n 1) else g_lkn I b n
theorem g_lkn_i {I : g_I} {b : Nat} {i : Int} (h : 0 ≤ i) : g_lkn I b (i + 1).toNat = if g_cbe I b i = true ∧ ((g_lkn I b i.toNat).1 = -1 ∨ (g_lkn I b i.toNat).2 < g_pts I b i 1) then (i, g_pts I b i 1) else g_lkn I b i.toNat := by
  rw [show (i + 1).toNat = i.toNat + 1 by omega, g_lkn, show ((i.toNat : Nat) : Int) = i by omega]
noncomputable def g_lkl (I : g_I) (b : Nat) : Int := (g_lkn I b (I b 0).toNat).1
/-- CLUES keep to bounds -/
def g_cok (I : g_I) : Prop := (0 ≤ I 697 4 ∧ I 697 4 ≤ 12) ∧ ∀ c : Int, 0 ≤ c → c < I 697 4 → (0 ≤ I 698 c ∧ I 698 c ≤ 5) ∧ (0 ≤ I 699 c ∧ I 699 c ≤ 99) ∧ 0 ≤ I 700 c ∧ I 700 c ≤ 99
/-- whether a leaf of a LIFE has a FACT by a BRANCH of a FORK of that YEAR -/
def g_hiy (I : g_I) (b : Nat) (s x y : Int) : Bool := !g_all (fun i => decide (¬ (I (b + 41) (I (b + 16 + s.toNat) i) = y ∧ I (b + 47 + (I (b + 16 + s.toNat) i * 4 + I (b + 29 + s.toNat) i).toNat) 4 = x))) (I (b + 14) s).toNat 0
/-- CROSS -/
def g_crx (I : g_I) (b b2 : Nat) (s t i : Int) : Int :=
  if ¬ I (b + 47 + (I (b + 16 + s.toNat) i * 4 + I (b + 29 + s.toNat) i).toNat) 4 = -1 ∧ g_hiy I b2 t (I (b + 47 + (I (b + 16 + s.toNat) i * 4 + I (b + 29 + s.toNat) i).toNat) 4) (I (b + 41) (I (b + 16 + s.toNat) i)) = true then g_shl 1 (I (b + 47 + (I (b + 16 + s.toNat) i * 4 + I (b + 29 + s.toNat) i).toNat) 4) else 0
def g_crs (I : g_I) (b b2 : Nat) (s t : Int) : Int := g_ors (g_crx I b b2 s t) (I (b + 14) s).toNat
def g_crd (I : g_I) (b b2 : Nat) (s : Int) : Int := g_sum (fun t => if g_crs I b b2 s t = 0 then 0 else 1) (I b2 0).toNat
def g_prs (I : g_I) (b b2 : Nat) : Int := g_sum (fun s => g_crd I b b2 s) (I b 0).toNat
def g_cmx (I : g_I) (b b2 : Nat) : Nat → Int × Int
  | 0 => (-1, 0)
  | n + 1 => if (g_cmx I b b2 n).2 < g_crd I b b2 n then ((n : Int), g_crd I b b2 n) else g_cmx I b b2 n
theorem g_cmx_i {I : g_I} {b b2 : Nat} {i : Int} (h : 0 ≤ i) : g_cmx I b b2 (i + 1).toNat = if (g_cmx I b b2 i.toNat).2 < g_crd I b b2 i then (i, g_crd I b b2 i) else g_cmx I b b2 i.toNat := by
  rw [show (i + 1).toNat = i.toNat + 1 by omega, g_cmx, show ((i.toNat : Nat) : Int) = i by omega]
theorem g_crd_in {I : g_I} {b b2 : Nat} {s : Int} (h : 0 ≤ I b2 0 ∧ I b2 0 ≤ 12) : 0 ≤ g_crd I b b2 s ∧ g_crd I b b2 s ≤ 12 := by
  have := g_sum_in (f := fun t => if g_crs I b b2 s t = 0 then 0 else 1) (m := 1) (I b2 0).toNat (fun i _ _ => by split <;> omega)
  unfold g_crd
  omega
theorem g_xor32 {a b : Int} : g32 (g_xor a b) := g32_of _
