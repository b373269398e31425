section GROWT
variable {w : g_W} {x : g_C} {P : g_P} {u v n : Nat} {I : g_I} {J : g_J} {R : g_R} {pc : Nat} {L : List (Option Value)} {st : List Value} {cc : ByteArray} {nL : Nat} {rt : Option FieldType} {own : String} {d : Nat}

theorem g_icmp_eq {a b : Int} {off : Int} {tgt : Nat} (hc : g_OK w x cc nL rt own d) (hd : decode cc pc = .ok (.if_icmp .eq off, 3)) (ht : (pc : Int) + off = (tgt : Int)) (ha : g32 a) (hb2 : g32 b) (kt : a = b → G w x P u v n I J R tgt L st) (kf : ¬ a = b → G w x P u v n I J R (pc + 3) L st) : G w x P u v n I J R pc L (gvI b :: gvI a :: st) := by
  obtain ⟨p, e, Rm, s, m, args, below, meth, c, mc, ms⟩ := x
  obtain ⟨hx, hb, hml, hr, hown, hts, hK, hsta, hlk, hsz, hRm⟩ := hc
  exact fun H locs ls hP hS hl => lv_icmp_eq hx hb hd ht (fun q => kt ((g_eqI ha hb2).mp q) H locs ls hP hS hl) (fun q => kf (fun z => q ((g_eqI ha hb2).mpr z)) H locs ls hP hS hl)

theorem g_if_eq {a : Int} {off : Int} {tgt : Nat} (hc : g_OK w x cc nL rt own d) (hd : decode cc pc = .ok (.ifCond .eq off, 3)) (ht : (pc : Int) + off = (tgt : Int)) (ha : g32 a) (kt : a = 0 → G w x P u v n I J R tgt L st) (kf : ¬ a = 0 → G w x P u v n I J R (pc + 3) L st) : G w x P u v n I J R pc L (gvI a :: st) := by
  obtain ⟨p, e, Rm, s, m, args, below, meth, c, mc, ms⟩ := x
  obtain ⟨hx, hb, hml, hr, hown, hts, hK, hsta, hlk, hsz, hRm⟩ := hc
  exact fun H locs ls hP hS hl => lv_if_eq hx hb hd ht (fun q => kt ((g_eqI ha (show g32 0 from ⟨by decide, by decide⟩)).mp q) H locs ls hP hS hl) (fun q => kf (fun z => q ((g_eqI ha (show g32 0 from ⟨by decide, by decide⟩)).mpr z)) H locs ls hP hS hl)

theorem g_icmp_ne {a b : Int} {off : Int} {tgt : Nat} (hc : g_OK w x cc nL rt own d) (hd : decode cc pc = .ok (.if_icmp .ne off, 3)) (ht : (pc : Int) + off = (tgt : Int)) (ha : g32 a) (hb2 : g32 b) (kt : ¬ a = b → G w x P u v n I J R tgt L st) (kf : a = b → G w x P u v n I J R (pc + 3) L st) : G w x P u v n I J R pc L (gvI b :: gvI a :: st) := by
  obtain ⟨p, e, Rm, s, m, args, below, meth, c, mc, ms⟩ := x
  obtain ⟨hx, hb, hml, hr, hown, hts, hK, hsta, hlk, hsz, hRm⟩ := hc
  exact fun H locs ls hP hS hl => lv_icmp_ne hx hb hd ht (fun q => kt (fun z => q ((g_eqI ha hb2).mpr z)) H locs ls hP hS hl) (fun q => kf ((g_eqI ha hb2).mp q) H locs ls hP hS hl)

theorem g_if_ne {a : Int} {off : Int} {tgt : Nat} (hc : g_OK w x cc nL rt own d) (hd : decode cc pc = .ok (.ifCond .ne off, 3)) (ht : (pc : Int) + off = (tgt : Int)) (ha : g32 a) (kt : ¬ a = 0 → G w x P u v n I J R tgt L st) (kf : a = 0 → G w x P u v n I J R (pc + 3) L st) : G w x P u v n I J R pc L (gvI a :: st) := by
  obtain ⟨p, e, Rm, s, m, args, below, meth, c, mc, ms⟩ := x
  obtain ⟨hx, hb, hml, hr, hown, hts, hK, hsta, hlk, hsz, hRm⟩ := hc
  exact fun H locs ls hP hS hl => lv_if_ne hx hb hd ht (fun q => kt (fun z => q ((g_eqI ha (show g32 0 from ⟨by decide, by decide⟩)).mpr z)) H locs ls hP hS hl) (fun q => kf ((g_eqI ha (show g32 0 from ⟨by decide, by decide⟩)).mp q) H locs ls hP hS hl)

theorem g_icmp_lt {a b : Int} {off : Int} {tgt : Nat} (hc : g_OK w x cc nL rt own d) (hd : decode cc pc = .ok (.if_icmp .lt off, 3)) (ht : (pc : Int) + off = (tgt : Int)) (ha : g32 a) (hb2 : g32 b) (kt : a < b → G w x P u v n I J R tgt L st) (kf : ¬ a < b → G w x P u v n I J R (pc + 3) L st) : G w x P u v n I J R pc L (gvI b :: gvI a :: st) := by
  obtain ⟨p, e, Rm, s, m, args, below, meth, c, mc, ms⟩ := x
  obtain ⟨hx, hb, hml, hr, hown, hts, hK, hsta, hlk, hsz, hRm⟩ := hc
  exact fun H locs ls hP hS hl => lv_icmp_lt hx hb hd ht (fun q => kt ((g_ltI ha hb2).mp q) H locs ls hP hS hl) (fun q => kf (fun z => q ((g_ltI ha hb2).mpr z)) H locs ls hP hS hl)

theorem g_if_lt {a : Int} {off : Int} {tgt : Nat} (hc : g_OK w x cc nL rt own d) (hd : decode cc pc = .ok (.ifCond .lt off, 3)) (ht : (pc : Int) + off = (tgt : Int)) (ha : g32 a) (kt : a < 0 → G w x P u v n I J R tgt L st) (kf : ¬ a < 0 → G w x P u v n I J R (pc + 3) L st) : G w x P u v n I J R pc L (gvI a :: st) := by
  obtain ⟨p, e, Rm, s, m, args, below, meth, c, mc, ms⟩ := x
  obtain ⟨hx, hb, hml, hr, hown, hts, hK, hsta, hlk, hsz, hRm⟩ := hc
  exact fun H locs ls hP hS hl => lv_if_lt hx hb hd ht (fun q => kt ((g_ltI ha (show g32 0 from ⟨by decide, by decide⟩)).mp q) H locs ls hP hS hl) (fun q => kf (fun z => q ((g_ltI ha (show g32 0 from ⟨by decide, by decide⟩)).mpr z)) H locs ls hP hS hl)

theorem g_icmp_ge {a b : Int} {off : Int} {tgt : Nat} (hc : g_OK w x cc nL rt own d) (hd : decode cc pc = .ok (.if_icmp .ge off, 3)) (ht : (pc : Int) + off = (tgt : Int)) (ha : g32 a) (hb2 : g32 b) (kt : b ≤ a → G w x P u v n I J R tgt L st) (kf : ¬ b ≤ a → G w x P u v n I J R (pc + 3) L st) : G w x P u v n I J R pc L (gvI b :: gvI a :: st) := by
  obtain ⟨p, e, Rm, s, m, args, below, meth, c, mc, ms⟩ := x
  obtain ⟨hx, hb, hml, hr, hown, hts, hK, hsta, hlk, hsz, hRm⟩ := hc
  exact fun H locs ls hP hS hl => lv_icmp_ge hx hb hd ht (fun q => kt ((g_leI hb2 ha).mp q) H locs ls hP hS hl) (fun q => kf (fun z => q ((g_leI hb2 ha).mpr z)) H locs ls hP hS hl)

theorem g_if_ge {a : Int} {off : Int} {tgt : Nat} (hc : g_OK w x cc nL rt own d) (hd : decode cc pc = .ok (.ifCond .ge off, 3)) (ht : (pc : Int) + off = (tgt : Int)) (ha : g32 a) (kt : 0 ≤ a → G w x P u v n I J R tgt L st) (kf : ¬ 0 ≤ a → G w x P u v n I J R (pc + 3) L st) : G w x P u v n I J R pc L (gvI a :: st) := by
  obtain ⟨p, e, Rm, s, m, args, below, meth, c, mc, ms⟩ := x
  obtain ⟨hx, hb, hml, hr, hown, hts, hK, hsta, hlk, hsz, hRm⟩ := hc
  exact fun H locs ls hP hS hl => lv_if_ge hx hb hd ht (fun q => kt ((g_leI (show g32 0 from ⟨by decide, by decide⟩) ha).mp q) H locs ls hP hS hl) (fun q => kf (fun z => q ((g_leI (show g32 0 from ⟨by decide, by decide⟩) ha).mpr z)) H locs ls hP hS hl)

theorem g_icmp_gt {a b : Int} {off : Int} {tgt : Nat} (hc : g_OK w x cc nL rt own d) (hd : decode cc pc = .ok (.if_icmp .gt off, 3)) (ht : (pc : Int) + off = (tgt : Int)) (ha : g32 a) (hb2 : g32 b) (kt : b < a → G w x P u v n I J R tgt L st) (kf : ¬ b < a → G w x P u v n I J R (pc + 3) L st) : G w x P u v n I J R pc L (gvI b :: gvI a :: st) := by
  obtain ⟨p, e, Rm, s, m, args, below, meth, c, mc, ms⟩ := x
  obtain ⟨hx, hb, hml, hr, hown, hts, hK, hsta, hlk, hsz, hRm⟩ := hc
  exact fun H locs ls hP hS hl => lv_icmp_gt hx hb hd ht (fun q => kt ((g_ltI hb2 ha).mp q) H locs ls hP hS hl) (fun q => kf (fun z => q ((g_ltI hb2 ha).mpr z)) H locs ls hP hS hl)

theorem g_if_gt {a : Int} {off : Int} {tgt : Nat} (hc : g_OK w x cc nL rt own d) (hd : decode cc pc = .ok (.ifCond .gt off, 3)) (ht : (pc : Int) + off = (tgt : Int)) (ha : g32 a) (kt : 0 < a → G w x P u v n I J R tgt L st) (kf : ¬ 0 < a → G w x P u v n I J R (pc + 3) L st) : G w x P u v n I J R pc L (gvI a :: st) := by
  obtain ⟨p, e, Rm, s, m, args, below, meth, c, mc, ms⟩ := x
  obtain ⟨hx, hb, hml, hr, hown, hts, hK, hsta, hlk, hsz, hRm⟩ := hc
  exact fun H locs ls hP hS hl => lv_if_gt hx hb hd ht (fun q => kt ((g_ltI (show g32 0 from ⟨by decide, by decide⟩) ha).mp q) H locs ls hP hS hl) (fun q => kf (fun z => q ((g_ltI (show g32 0 from ⟨by decide, by decide⟩) ha).mpr z)) H locs ls hP hS hl)

theorem g_icmp_le {a b : Int} {off : Int} {tgt : Nat} (hc : g_OK w x cc nL rt own d) (hd : decode cc pc = .ok (.if_icmp .le off, 3)) (ht : (pc : Int) + off = (tgt : Int)) (ha : g32 a) (hb2 : g32 b) (kt : a ≤ b → G w x P u v n I J R tgt L st) (kf : ¬ a ≤ b → G w x P u v n I J R (pc + 3) L st) : G w x P u v n I J R pc L (gvI b :: gvI a :: st) := by
  obtain ⟨p, e, Rm, s, m, args, below, meth, c, mc, ms⟩ := x
  obtain ⟨hx, hb, hml, hr, hown, hts, hK, hsta, hlk, hsz, hRm⟩ := hc
  exact fun H locs ls hP hS hl => lv_icmp_le hx hb hd ht (fun q => kt ((g_leI ha hb2).mp q) H locs ls hP hS hl) (fun q => kf (fun z => q ((g_leI ha hb2).mpr z)) H locs ls hP hS hl)

theorem g_if_le {a : Int} {off : Int} {tgt : Nat} (hc : g_OK w x cc nL rt own d) (hd : decode cc pc = .ok (.ifCond .le off, 3)) (ht : (pc : Int) + off = (tgt : Int)) (ha : g32 a) (kt : a ≤ 0 → G w x P u v n I J R tgt L st) (kf : ¬ a ≤ 0 → G w x P u v n I J R (pc + 3) L st) : G w x P u v n I J R pc L (gvI a :: st) := by
  obtain ⟨p, e, Rm, s, m, args, below, meth, c, mc, ms⟩ := x
  obtain ⟨hx, hb, hml, hr, hown, hts, hK, hsta, hlk, hsz, hRm⟩ := hc
  exact fun H locs ls hP hS hl => lv_if_le hx hb hd ht (fun q => kt ((g_leI ha (show g32 0 from ⟨by decide, by decide⟩)).mp q) H locs ls hP hS hl) (fun q => kf (fun z => q ((g_leI ha (show g32 0 from ⟨by decide, by decide⟩)).mpr z)) H locs ls hP hS hl)

theorem g_goto {off : Int} {tgt : Nat} (hc : g_OK w x cc nL rt own d) (hd : decode cc pc = .ok (.goto off, 3)) (ht : (pc : Int) + off = (tgt : Int)) (kk : G w x P u v n I J R tgt L st) : G w x P u v n I J R pc L st := by
  obtain ⟨p, e, Rm, s, m, args, below, meth, c, mc, ms⟩ := x
  obtain ⟨hx, hb, hml, hr, hown, hts, hK, hsta, hlk, hsz, hRm⟩ := hc
  exact fun H locs ls hP hS hl => lv_goto hx hb hd ht (kk H locs ls hP hS hl)
theorem g_tableOut {dflt lo hi : Int} {offs : Array Int} {len : Nat} {a : Int} {tgt : Nat} (hc : g_OK w x cc nL rt own d) (hd : decode cc pc = .ok (.tableswitch dflt lo hi offs, len)) (ha : g32 a) (h : a < lo ∨ hi < a) (ht : (pc : Int) + dflt = (tgt : Int)) (kk : G w x P u v n I J R tgt L st) : G w x P u v n I J R pc L (gvI a :: st) := by
  obtain ⟨p, e, Rm, s, m, args, below, meth, c, mc, ms⟩ := x
  obtain ⟨hx, hb, hml, hr, hown, hts, hK, hsta, hlk, hsz, hRm⟩ := hc
  exact fun H locs ls hP hS hl => lv_tableOut hx hb hd (by rw [g32_to ha]; exact h) ht (kk H locs ls hP hS hl)
theorem g_tableIn {dflt lo hi : Int} {offs : Array Int} {len : Nat} {a off : Int} {tgt : Nat} (hc : g_OK w x cc nL rt own d) (hd : decode cc pc = .ok (.tableswitch dflt lo hi offs, len)) (ha : g32 a) (h1 : ¬ a < lo) (h2 : ¬ hi < a) (ho : offs[(a - lo).toNat]? = some off) (ht : (pc : Int) + off = (tgt : Int)) (kk : G w x P u v n I J R tgt L st) : G w x P u v n I J R pc L (gvI a :: st) := by
  obtain ⟨p, e, Rm, s, m, args, below, meth, c, mc, ms⟩ := x
  obtain ⟨hx, hb, hml, hr, hown, hts, hK, hsta, hlk, hsz, hRm⟩ := hc
  exact fun H locs ls hP hS hl => lv_tableIn hx hb hd (by rw [g32_to ha]; exact h1) (by rw [g32_to ha]; exact h2) (by rw [g32_to ha]; exact ho) ht (kk H locs ls hP hS hl)
theorem g_lookup {dflt : Int} {ps : Array (Int × Int)} {len : Nat} {a off : Int} {tgt : Nat} (hc : g_OK w x cc nL rt own d) (hd : decode cc pc = .ok (.lookupswitch dflt ps, len)) (ha : g32 a) (hp : (ps.toList.zip (ps.toList.drop 1)).all (fun (a, next) => a.1 < next.1) = true) (ho : Op.lookupswitch.offset ps.toList dflt a = off) (ht : (pc : Int) + off = (tgt : Int)) (kk : G w x P u v n I J R tgt L st) : G w x P u v n I J R pc L (gvI a :: st) := by
  obtain ⟨p, e, Rm, s, m, args, below, meth, c, mc, ms⟩ := x
  obtain ⟨hx, hb, hml, hr, hown, hts, hK, hsta, hlk, hsz, hRm⟩ := hc
  exact fun H locs ls hP hS hl => lv_lookup hx hb hd hp (by rw [g32_to ha]; exact ho) ht (kk H locs ls hP hS hl)
theorem g_dup {a : Value} (hc : g_OK w x cc nL rt own d) (hd : decode cc pc = .ok (.dup, 1)) (h : a.category = 1) (kk : G w x P u v n I J R (pc + 1) L (a :: a :: st)) : G w x P u v n I J R pc L (a :: st) := by
  obtain ⟨p, e, Rm, s, m, args, below, meth, c, mc, ms⟩ := x
  obtain ⟨hx, hb, hml, hr, hown, hts, hK, hsta, hlk, hsz, hRm⟩ := hc
  exact fun H locs ls hP hS hl => lv_dup hx hb hd h (kk H locs ls hP hS hl)
theorem g_pop {a : Value} (hc : g_OK w x cc nL rt own d) (hd : decode cc pc = .ok (.pop, 1)) (h : a.category = 1) (kk : G w x P u v n I J R (pc + 1) L st) : G w x P u v n I J R pc L (a :: st) := by
  obtain ⟨p, e, Rm, s, m, args, below, meth, c, mc, ms⟩ := x
  obtain ⟨hx, hb, hml, hr, hown, hts, hK, hsta, hlk, hsz, hRm⟩ := hc
  exact fun H locs ls hP hS hl => lv_pop hx hb hd h (kk H locs ls hP hS hl)
theorem g_dup_x1 {a b : Value} (hc : g_OK w x cc nL rt own d) (hd : decode cc pc = .ok (.dup_x1, 1)) (h : a.category = 1) (h2 : b.category = 1) (kk : G w x P u v n I J R (pc + 1) L (a :: b :: a :: st)) : G w x P u v n I J R pc L (a :: b :: st) := by
  obtain ⟨p, e, Rm, s, m, args, below, meth, c, mc, ms⟩ := x
  obtain ⟨hx, hb, hml, hr, hown, hts, hK, hsta, hlk, hsz, hRm⟩ := hc
  exact fun H locs ls hP hS hl => lv_dup_x1 hx hb hd h h2 (kk H locs ls hP hS hl)
theorem g_dup2 {a b : Value} (hc : g_OK w x cc nL rt own d) (hd : decode cc pc = .ok (.dup2, 1)) (h : a.category = 1) (h2 : b.category = 1) (kk : G w x P u v n I J R (pc + 1) L (a :: b :: a :: b :: st)) : G w x P u v n I J R pc L (a :: b :: st) := by
  obtain ⟨p, e, Rm, s, m, args, below, meth, c, mc, ms⟩ := x
  obtain ⟨hx, hb, hml, hr, hown, hts, hK, hsta, hlk, hsz, hRm⟩ := hc
  exact fun H locs ls hP hS hl => lv_dup2_11 hx hb hd h h2 (kk H locs ls hP hS hl)
theorem g_dup2L {a : Value} (hc : g_OK w x cc nL rt own d) (hd : decode cc pc = .ok (.dup2, 1)) (h : a.category = 2) (kk : G w x P u v n I J R (pc + 1) L (a :: a :: st)) : G w x P u v n I J R pc L (a :: st) := by
  obtain ⟨p, e, Rm, s, m, args, below, meth, c, mc, ms⟩ := x
  obtain ⟨hx, hb, hml, hr, hown, hts, hK, hsta, hlk, hsz, hRm⟩ := hc
  exact fun H locs ls hP hS hl => lv_dup2_2 hx hb hd h (kk H locs ls hP hS hl)
theorem g_dup2_x1L {a b : Value} (hc : g_OK w x cc nL rt own d) (hd : decode cc pc = .ok (.dup2_x1, 1)) (h : a.category = 2) (h2 : b.category = 1) (kk : G w x P u v n I J R (pc + 1) L (a :: b :: a :: st)) : G w x P u v n I J R pc L (a :: b :: st) := by
  obtain ⟨p, e, Rm, s, m, args, below, meth, c, mc, ms⟩ := x
  obtain ⟨hx, hb, hml, hr, hown, hts, hK, hsta, hlk, hsz, hRm⟩ := hc
  exact fun H locs ls hP hS hl => lv_dup2_x1_2 hx hb hd h h2 (kk H locs ls hP hS hl)
/-- the classes' words, all of them -/
theorem g_cw : ∀ (ci : Nat) (q : vw_C), g_cls[ci]? = some q → ∀ z ∈ u_ws q.1 q.2.1 q.2.2, z ∈ g_tb := by
  intro ci q h
  have hl := (List.getElem?_eq_some_iff.mp h).1
  match ci, h with
  | 0, h => cases h; exact inY0
  | 1, h => cases h; exact inY1
  | 2, h => cases h; exact inY2
  | 3, h => cases h; exact inY3
  | 4, h => cases h; exact inY4
  | 5, h => cases h; exact inY5
  | 6, h => cases h; exact inY6
  | 7, h => cases h; exact inY7
  | 8, h => cases h; exact inY8
  | 9, h => cases h; exact inY9
  | 10, h => cases h; exact inY10
  | 11, h => cases h; exact inY11
  | 12, h => cases h; exact inY12
  | 13, h => cases h; exact inY13
  | k + 14, h => exact absurd (show k + 14 < 14 from hl) (by omega)
theorem g_ck : ∀ (ci : Nat) (q : vw_C), g_cls[ci]? = some q → (g_kd ci).length = q.2.2 ∧ (∀ a, a < q.2.2 → ∀ b, b < q.2.2 → a ≠ b → (q.2.1 a).2.1 ≠ (q.2.1 b).2.1) ∧ ∃ ty : Nat → FieldType, ∀ k, k < q.2.2 → parseFieldDescriptor (q.2.1 k).2.2.1 = some (ty k) := by
  intro ci q h
  have hl := (List.getElem?_eq_some_iff.mp h).1
  match ci, h with
  | 0, h => cases h; exact ⟨rfl, nmX0, tyX0, tyX0_ok⟩
  | 1, h => cases h; exact ⟨rfl, nmX1, tyX1, tyX1_ok⟩
  | 2, h => cases h; exact ⟨rfl, nmX2, tyX2, tyX2_ok⟩
  | 3, h => cases h; exact ⟨rfl, nmX3, tyX3, tyX3_ok⟩
  | 4, h => cases h; exact ⟨rfl, nmX4, tyX4, tyX4_ok⟩
  | 5, h => cases h; exact ⟨rfl, nmX5, tyX5, tyX5_ok⟩
  | 6, h => cases h; exact ⟨rfl, nmX6, tyX6, tyX6_ok⟩
  | 7, h => cases h; exact ⟨rfl, nmX7, tyX7, tyX7_ok⟩
  | 8, h => cases h; exact ⟨rfl, nmX8, tyX8, tyX8_ok⟩
  | 9, h => cases h; exact ⟨rfl, nmX9, tyX9, tyX9_ok⟩
  | 10, h => cases h; exact ⟨rfl, nmX10, tyX10, tyX10_ok⟩
  | 11, h => cases h; exact ⟨rfl, nmX11, tyX11, tyX11_ok⟩
  | 12, h => cases h; exact ⟨rfl, nmX12, tyX12, tyX12_ok⟩
  | 13, h => cases h; exact ⟨rfl, nmX13, tyX13, tyX13_ok⟩
  | k + 14, h => exact absurd (show k + 14 < 14 from hl) (by omega)
theorem g_E_same {dA : Nat → ClassId} {I I' : g_I} {J J' : g_J} {R R' : g_R} {a : Nat} (hI : I' a = I a) (hJ : J' a = J a) (hR : R' a = R a) : g_E dA I' J' R' a = g_E dA I J R a := by
  unfold g_E g_fs
  cases g_sh a with
  | inl ci =>
    have : ∀ kd j, g_fv kd I' J' R' a j = g_fv kd I J R a j := by
      intro kd j
      unfold g_fv
      split <;> simp [hI, hJ, hR]
    simp [this]
  | inr t => simp [hI, hJ, hR]
/-- a field of a class by its place in a pool: class ci, slot j, kind -/
def g_lk (own : String) (idx ci j kind : Nat) (ds : String) : Prop := ∃ (C nm : String) (T : u_T) (N : Nat) (fin : Bool), g_cls[ci]? = some (C, T, N) ∧ T j = (C, nm, ds, fin) ∧ j < N ∧ (g_kd ci)[j]? = some kind ∧ Cond.fieldLink own idx C nm ds ∈ g_tb ∧ fin = false
def g_lkF (own : String) (idx ci j kind : Nat) (ds : String) : Prop := ∃ (C nm : String) (T : u_T) (N : Nat), g_cls[ci]? = some (C, T, N) ∧ T j = (C, nm, ds, true) ∧ j < N ∧ (g_kd ci)[j]? = some kind ∧ Cond.fieldLink own idx C nm ds ∈ g_tb
theorem g_get0 {k ci j idx kind : Nat} {C nm ds : String} {T : u_T} {N : Nat} {fin : Bool} (hc : g_OK w x cc nL rt own d) (h1 : g_cls[ci]? = some (C, T, N)) (h2 : T j = (C, nm, ds, fin)) (h3 : j < N) (h4 : (g_kd ci)[j]? = some kind) (h5 : Cond.fieldLink own idx C nm ds ∈ g_tb) (hs : g_at n k (.inl ci)) (hd : decode cc pc = .ok (.getfield idx, 3)) (kk : G w x P u v n I J R (pc + 3) L (g_fv kind I J R k j :: st)) : G w x P u v n I J R pc L (gvr w k :: st) := by
  obtain ⟨p, e, Rm, s, m, args, below, meth, c, mc, ms⟩ := x
  obtain ⟨hx, hb, hml, hr, hown, hts, hK, hsta, hlk, hsz, hRm⟩ := hc
  exact fun H locs ls hP hS hl => va_get (C := C) (T := T) (N := N) (ref := C) hx hb hts (g_cw ci _ h1) hown hK hP k (g_at_o hs) h1 j h3 (show (Cond.fieldLink own idx C (T j).2.1 (T j).2.2.1).before args s = true by rw [h2]; exact hts _ h5) (show ∀ z, s.fieldFound? (T j).1 (T j).2.1 (T j).2.2.1 = some z → s.fieldFound? C (T j).2.1 (T j).2.2.1 = some z by rw [h2]; exact fun _ h => h) (g_fs_at h4) hd (kk H locs ls hP hS hl)
theorem g_getI {k ci j idx : Nat} {ds : String} (hc : g_OK w x cc nL rt own d) (h : g_lk own idx ci j 0 ds) (hs : g_at n k (.inl ci)) (hd : decode cc pc = .ok (.getfield idx, 3)) (kk : G w x P u v n I J R (pc + 3) L (gvI (I k (j : Int)) :: st)) : G w x P u v n I J R pc L (gvr w k :: st) := by
  obtain ⟨C, nm, T, N, fin, h1, h2, h3, h4, h5, -⟩ := h
  exact g_get0 hc h1 h2 h3 h4 h5 hs hd kk
theorem g_getL {k ci j idx : Nat} {ds : String} (hc : g_OK w x cc nL rt own d) (h : g_lk own idx ci j 1 ds) (hs : g_at n k (.inl ci)) (hd : decode cc pc = .ok (.getfield idx, 3)) (kk : G w x P u v n I J R (pc + 3) L (gvL (J k) :: st)) : G w x P u v n I J R pc L (gvr w k :: st) := by
  obtain ⟨C, nm, T, N, fin, h1, h2, h3, h4, h5, -⟩ := h
  exact g_get0 hc h1 h2 h3 h4 h5 hs hd kk
/-- a reference field (final): it holds the address a -/
theorem g_getR {k ci j idx a : Nat} {ds : String} (hc : g_OK w x cc nL rt own d) (h : g_lkF own idx ci j 2 ds) (hs : g_at n k (.inl ci)) (hR : R k (j : Int) = some a) (hd : decode cc pc = .ok (.getfield idx, 3)) (kk : G w x P u v n I J R (pc + 3) L (.ref a :: st)) : G w x P u v n I J R pc L (gvr w k :: st) := by
  obtain ⟨C, nm, T, N, h1, h2, h3, h4, h5⟩ := h
  refine g_get0 hc h1 h2 h3 h4 h5 hs hd ?_
  show G w x P u v n I J R (pc + 3) L (va_rf (R k (j : Int)) :: st)
  rw [hR]
  exact kk
/-- a reference field that changes -/
theorem g_getRv {k ci j idx a : Nat} {ds : String} (hc : g_OK w x cc nL rt own d) (h : g_lk own idx ci j 2 ds) (hs : g_at n k (.inl ci)) (hR : R k (j : Int) = some a) (hd : decode cc pc = .ok (.getfield idx, 3)) (kk : G w x P u v n I J R (pc + 3) L (.ref a :: st)) : G w x P u v n I J R pc L (gvr w k :: st) := by
  obtain ⟨C, nm, T, N, fin, h1, h2, h3, h4, h5, -⟩ := h
  refine g_get0 hc h1 h2 h3 h4 h5 hs hd ?_
  show G w x P u v n I J R (pc + 3) L (va_rf (R k (j : Int)) :: st)
  rw [hR]
  exact kk
theorem g_put0 {k ci j idx kind : Nat} {ds : String} {ty : FieldType} {z : Value} {I' : g_I} {J' : g_J} {R' : g_R} (hc : g_OK w x cc nL rt own d) (h : g_lk own idx ci j kind ds) (hs : g_at n k (.inl ci)) (hty : parseFieldDescriptor ds = some ty) (hn : narrow ty z = z) (hf : fits ty z = true) (hz : g_fv kind I' J' R' k j = z) (hsame : ∀ i kd, i ≠ j → (g_kd ci)[i]? = some kd → g_fv kd I' J' R' k i = g_fv kd I J R k i) (hoth : ∀ a, a ≠ k → I' a = I a ∧ J' a = J a ∧ R' a = R a) (hd : decode cc pc = .ok (.putfield idx, 3)) (kk : G w x P u v n I' J' R' (pc + 3) L st) : G w x P u v n I J R pc L (z :: gvr w k :: st) := by
  obtain ⟨C, nm, T, N, fin, h1, h2, h3, h4, h5, rfl⟩ := h
  obtain ⟨p, e, Rm, s, m, args, below, meth, c, mc, ms⟩ := x
  obtain ⟨hx, hb, hml, hr, hown, hts, hK, hsta, hlk, hsz, hRm⟩ := hc
  obtain ⟨e1, e2, ty0, e3⟩ := g_ck ci _ h1
  intro H locs ls hP hS hl
  refine va_put (C := C) (T := T) (N := N) (ref := C) hx hb hts (g_cw ci _ h1) ty0 e3 e2 hown hK hP g_D hS k (g_at_o hs) h1 j h3 (show (Cond.fieldLink own idx C (T j).2.1 (T j).2.2.1).before args s = true by rw [h2]; exact hts _ h5) (show ∀ z, s.fieldFound? (T j).1 (T j).2.1 (T j).2.2.1 = some z → s.fieldFound? C (T j).2.1 (T j).2.2.1 = some z by rw [h2]; exact fun _ h => h) (show (T j).2.2.2 = false by rw [h2]) (show parseFieldDescriptor (T j).2.2.1 = some ty by rw [h2]; exact hty) hn hf (by simp [g_fs]; exact (List.getElem?_eq_some_iff.mp h4).1) hd (fun H1 locs1 hP1 hD1 hS1 => ?_)
  have he : g_E w.2.2.1 I' J' R' k = .inr (ci, (g_fs ci I J R k).set j z) := by
    simp only [g_E, hs.2]
    rw [g_fs_set h4 hz hsame]
  rw [g_ws_set hs.1 he (fun a ha => g_E_same (hoth a ha).1 (hoth a ha).2.1 (hoth a ha).2.2)] at hP1
  exact kk H1 locs1 ls hP1 hS1 hl
theorem g_putI {k ci j idx : Nat} {z : Int} (hc : g_OK w x cc nL rt own d) (h : g_lk own idx ci j 0 "I") (hs : g_at n k (.inl ci)) (hd : decode cc pc = .ok (.putfield idx, 3)) (kk : G w x P u v n (g_up I k (j : Int) z) J R (pc + 3) L st) : G w x P u v n I J R pc L (gvI z :: gvr w k :: st) := by
  refine g_put0 (ty := .int) (I' := g_up I k (j : Int) z) (J' := J) (R' := R) hc h hs (by decide +kernel) rfl rfl ?_ (fun i kd hi _ => ?_) (fun a ha => ⟨funext fun i => g_up_k ha, rfl, rfl⟩) hd kk
  · exact congrArg gvI g_up_s
  · unfold g_fv
    split
    · exact congrArg gvI (g_up_i (by omega))
    · rfl
    · rfl
theorem g_putZ {k ci j idx : Nat} {z : Int} (hc : g_OK w x cc nL rt own d) (h : g_lk own idx ci j 0 "Z") (hs : g_at n k (.inl ci)) (hz : z = 0 ∨ z = 1) (hd : decode cc pc = .ok (.putfield idx, 3)) (kk : G w x P u v n (g_up I k (j : Int) z) J R (pc + 3) L st) : G w x P u v n I J R pc L (gvI z :: gvr w k :: st) := by
  refine g_put0 (ty := .boolean) (I' := g_up I k (j : Int) z) (J' := J) (R' := R) hc h hs (by decide +kernel) (by rcases hz with rfl | rfl <;> decide +kernel) (by rcases hz with rfl | rfl <;> decide +kernel) ?_ (fun i kd hi _ => ?_) (fun a ha => ⟨funext fun i => g_up_k ha, rfl, rfl⟩) hd kk
  · exact congrArg gvI g_up_s
  · unfold g_fv
    split
    · exact congrArg gvI (g_up_i (by omega))
    · rfl
    · rfl
/-- one long a class at most: the long of cell k -/
theorem g_putL {k ci j idx : Nat} {z : Int} (hc : g_OK w x cc nL rt own d) (h : g_lk own idx ci j 1 "J") (hs : g_at n k (.inl ci)) (h1 : ∀ i, i ≠ j → ¬ (g_kd ci)[i]? = some 1) (hd : decode cc pc = .ok (.putfield idx, 3)) (kk : G w x P u v n I (g_upJ J k z) R (pc + 3) L st) : G w x P u v n I J R pc L (gvL z :: gvr w k :: st) := by
  refine g_put0 (ty := .long) (I' := I) (J' := g_upJ J k z) (R' := R) hc h hs (by decide +kernel) rfl rfl ?_ (fun i kd hi hkd => ?_) (fun a ha => ⟨rfl, if_neg ha, rfl⟩) hd kk
  · exact congrArg gvL (if_pos rfl)
  · unfold g_fv
    split
    · rfl
    · exact absurd hkd (h1 i hi)
    · rfl
theorem g_putR {k ci j idx a : Nat} {ds : String} {ty : FieldType} (hc : g_OK w x cc nL rt own d) (h : g_lk own idx ci j 2 ds) (hs : g_at n k (.inl ci)) (hty : parseFieldDescriptor ds = some ty) (hn : narrow ty (.ref a) = .ref a) (hf : fits ty (.ref a) = true) (hd : decode cc pc = .ok (.putfield idx, 3)) (kk : G w x P u v n I J (g_upR R k (j : Int) (some a)) (pc + 3) L st) : G w x P u v n I J R pc L (.ref a :: gvr w k :: st) := by
  refine g_put0 (ty := ty) (I' := I) (J' := J) (R' := g_upR R k (j : Int) (some a)) hc h hs hty hn hf ?_ (fun i kd hi hkd => ?_) (fun b hb => ⟨rfl, rfl, funext fun i => if_neg (fun q => hb q.1)⟩) hd kk
  · exact congrArg va_rf (if_pos ⟨rfl, rfl⟩)
  · unfold g_fv
    split
    · rfl
    · rfl
    · exact congrArg va_rf (if_neg (fun q => hi (by have := q.2; omega)))
theorem g_ix {i : Int} {len : Nat} (h0 : 0 ≤ i) (h1 : i < (len : Int)) (hn : len < 2 ^ 31) : ((Int32.ofInt i).toNatClampNeg : Int) = i := by
  rw [g_cl ⟨by omega, by omega⟩]
  exact Int.toNat_of_nonneg h0
theorem g_iald {k len : Nat} {i : Int} (hc : g_OK w x cc nL rt own d) (hs : g_at n k (.inr (0, len))) (hn : len < 2 ^ 31) (h0 : 0 ≤ i) (h1 : i < (len : Int)) (hd : decode cc pc = .ok (.iaload, 1)) (kk : G w x P u v n I J R (pc + 1) L (gvI (I k i) :: st)) : G w x P u v n I J R pc L (gvI i :: gvr w k :: st) := by
  obtain ⟨p, e, Rm, s, m, args, below, meth, c, mc, ms⟩ := x
  obtain ⟨hx, hb, hml, hr, hown, hts, hK, hsta, hlk, hsz, hRm⟩ := hc
  intro H locs ls hP hS hl
  have h2 := kk H locs ls hP hS hl
  refine va_iald hx hb hK hP k 0 (g_at_i hs (by decide)) rfl (g_in h0 h1 hn) hd ?_
  rw [g_ix h0 h1 hn]
  exact h2
theorem g_bald {k len : Nat} {i : Int} (hc : g_OK w x cc nL rt own d) (hs : g_at n k (.inr (1, len))) (hn : len < 2 ^ 31) (h0 : 0 ≤ i) (h1 : i < (len : Int)) (hd : decode cc pc = .ok (.baload, 1)) (kk : G w x P u v n I J R (pc + 1) L (gvI (I k i) :: st)) : G w x P u v n I J R pc L (gvI i :: gvr w k :: st) := by
  obtain ⟨p, e, Rm, s, m, args, below, meth, c, mc, ms⟩ := x
  obtain ⟨hx, hb, hml, hr, hown, hts, hK, hsta, hlk, hsz, hRm⟩ := hc
  intro H locs ls hP hS hl
  have h2 := kk H locs ls hP hS hl
  refine va_bald hx hb hK hP k 1 (g_at_i hs (by decide)) rfl (g_in h0 h1 hn) hd ?_
  rw [g_ix h0 h1 hn]
  exact h2
theorem g_zald {k len : Nat} {i : Int} (hc : g_OK w x cc nL rt own d) (hs : g_at n k (.inr (2, len))) (hn : len < 2 ^ 31) (h0 : 0 ≤ i) (h1 : i < (len : Int)) (hd : decode cc pc = .ok (.baload, 1)) (kk : G w x P u v n I J R (pc + 1) L (gvI (I k i) :: st)) : G w x P u v n I J R pc L (gvI i :: gvr w k :: st) := by
  obtain ⟨p, e, Rm, s, m, args, below, meth, c, mc, ms⟩ := x
  obtain ⟨hx, hb, hml, hr, hown, hts, hK, hsta, hlk, hsz, hRm⟩ := hc
  intro H locs ls hP hS hl
  have h2 := kk H locs ls hP hS hl
  refine va_zald hx hb hK hP k 2 (g_at_i hs (by decide)) rfl (g_in h0 h1 hn) hd ?_
  rw [g_ix h0 h1 hn]
  exact h2
theorem g_upd {I : g_I} {k : Nat} {i z : Int} (h0 : 0 ≤ i) (hi : ((Int32.ofInt i).toNatClampNeg : Int) = i) : upd (fun j : Nat => Int32.ofInt (I k (j : Int))) (Int32.ofInt i).toNatClampNeg (Int32.ofInt z) = fun j : Nat => Int32.ofInt (g_up I k i z k (j : Int)) := by
  funext j
  unfold upd g_up
  by_cases h : j = (Int32.ofInt i).toNatClampNeg
  · subst h
    simp [hi]
  · have h2 : ¬ (j : Int) = i := by omega
    simp [h, h2]
theorem g_ast0 {k t len : Nat} {i z : Int} (hs : g_at n k (.inr (t, len))) (ht : t < 3) (h0 : 0 ≤ i) (hi : ((Int32.ofInt i).toNatClampNeg : Int) = i) : (g_ws w n I J R).set k (w.2.2.2.1 + k, .inl (w.2.2.1 t, len, .inl (upd (fun j : Nat => Int32.ofInt (I k (j : Int))) (Int32.ofInt i).toNatClampNeg (Int32.ofInt z)))) = g_ws w n (g_up I k i z) J R := by
  refine g_ws_set hs.1 ?_ (fun a ha => g_E_same (funext fun i => g_up_k ha) rfl rfl)
  simp only [g_E, hs.2, ht, if_true]
  rw [g_upd h0 hi]
theorem g_iast {k len : Nat} {i z : Int} (hc : g_OK w x cc nL rt own d) (hs : g_at n k (.inr (0, len))) (hn : len < 2 ^ 31) (h0 : 0 ≤ i) (h1 : i < (len : Int)) (hd : decode cc pc = .ok (.iastore, 1)) (kk : G w x P u v n (g_up I k i z) J R (pc + 1) L st) : G w x P u v n I J R pc L (gvI z :: gvI i :: gvr w k :: st) := by
  obtain ⟨p, e, Rm, s, m, args, below, meth, c, mc, ms⟩ := x
  obtain ⟨hx, hb, hml, hr, hown, hts, hK, hsta, hlk, hsz, hRm⟩ := hc
  intro H locs ls hP hS hl
  refine va_iast hx hb hK hP g_D hS k 0 (g_at_i hs (by decide)) rfl (g_in h0 h1 hn) hd (fun H1 locs1 hP1 hD1 hS1 => ?_)
  rw [g_ast0 hs (by decide) h0 (g_ix h0 h1 hn)] at hP1
  exact kk H1 locs1 ls hP1 hS1 hl
theorem g_bast {k len : Nat} {i z : Int} (hc : g_OK w x cc nL rt own d) (hs : g_at n k (.inr (1, len))) (hn : len < 2 ^ 31) (h0 : 0 ≤ i) (h1 : i < (len : Int)) (hz : vp_nar .byte (Int32.ofInt z) = Int32.ofInt z) (hd : decode cc pc = .ok (.bastore, 1)) (kk : G w x P u v n (g_up I k i z) J R (pc + 1) L st) : G w x P u v n I J R pc L (gvI z :: gvI i :: gvr w k :: st) := by
  obtain ⟨p, e, Rm, s, m, args, below, meth, c, mc, ms⟩ := x
  obtain ⟨hx, hb, hml, hr, hown, hts, hK, hsta, hlk, hsz, hRm⟩ := hc
  intro H locs ls hP hS hl
  refine va_bast hx hb hK hP g_D hS k 1 (g_at_i hs (by decide)) rfl (g_in h0 h1 hn) hd (fun H1 locs1 hP1 hD1 hS1 => ?_)
  rw [hz, g_ast0 hs (by decide) h0 (g_ix h0 h1 hn)] at hP1
  exact kk H1 locs1 ls hP1 hS1 hl
theorem g_zast {k len : Nat} {i z : Int} (hc : g_OK w x cc nL rt own d) (hs : g_at n k (.inr (2, len))) (hn : len < 2 ^ 31) (h0 : 0 ≤ i) (h1 : i < (len : Int)) (hz : z = 0 ∨ z = 1) (hd : decode cc pc = .ok (.bastore, 1)) (kk : G w x P u v n (g_up I k i z) J R (pc + 1) L st) : G w x P u v n I J R pc L (gvI z :: gvI i :: gvr w k :: st) := by
  obtain ⟨p, e, Rm, s, m, args, below, meth, c, mc, ms⟩ := x
  obtain ⟨hx, hb, hml, hr, hown, hts, hK, hsta, hlk, hsz, hRm⟩ := hc
  intro H locs ls hP hS hl
  refine va_zast hx hb hK hP g_D hS k 2 (g_at_i hs (by decide)) rfl (g_in h0 h1 hn) hd (fun H1 locs1 hP1 hD1 hS1 => ?_)
  have hzz : vp_nar .boolean (Int32.ofInt z) = Int32.ofInt z := by rcases hz with rfl | rfl <;> decide +kernel
  rw [hzz, g_ast0 hs (by decide) h0 (g_ix h0 h1 hn)] at hP1
  exact kk H1 locs1 ls hP1 hS1 hl
theorem g_aald {k t len a : Nat} {ty : FieldType} {i : Int} (hc : g_OK w x cc nL rt own d) (hs : g_at n k (.inr (t, len))) (ht : ¬ t < 3) (hty : (g_ty w.2.2.1)[t]? = some (w.2.2.1 t, ty)) (hrf : ty.isReference = true) (hn : len < 2 ^ 31) (h0 : 0 ≤ i) (h1 : i < (len : Int)) (hR : R k i = some a) (hd : decode cc pc = .ok (.aaload, 1)) (kk : G w x P u v n I J R (pc + 1) L (.ref a :: st)) : G w x P u v n I J R pc L (gvI i :: gvr w k :: st) := by
  obtain ⟨p, e, Rm, s, m, args, below, meth, c, mc, ms⟩ := x
  obtain ⟨hx, hb, hml, hr, hown, hts, hK, hsta, hlk, hsz, hRm⟩ := hc
  intro H locs ls hP hS hl
  have h2 := kk H locs ls hP hS hl
  have hin : vp_in (Int32.ofInt i) len := g_in h0 h1 hn
  have hlt : (Int32.ofInt i).toNatClampNeg < len := Nat.not_le.mp fun q => hin (Or.inr q)
  have hv : va_rf (R k (((Int32.ofInt i).toNatClampNeg : Nat) : Int)) = .ref a := by rw [g_ix h0 h1 hn, hR]; rfl
  have h6 : t < 6 := by
    have hl := (List.getElem?_eq_some_iff.mp hty).1
    have hne : t ≠ 6 := by
      intro e
      subst e
      have he : FieldType.long = ty := congrArg Prod.snd (Option.some.inj hty)
      rw [← he] at hrf
      exact absurd hrf (by decide)
    have hl2 : t < 7 := hl
    omega
  refine W.aald (v := .ref a) (ty := ty) hx hb (hP k _ (g_at_r hs ht h6)) ((hK.2 t _ hty).1 len (fun j => va_rf (R k (j : Int)))) hrf (fun q => by cases q) (by show ¬ (Int32.ofInt i < 0 ∨ (arrV _ _ _).slots.size ≤ _); rw [arrV_size]; exact hin) (by show (arrV _ _ _).slots[_]? = _; rw [arrV_read _ _ hlt, hv]) rfl rfl hd h2
theorem g_alen {k t len : Nat} (hc : g_OK w x cc nL rt own d) (hs : g_at n k (.inr (t, len))) (ht : t < 6) (hd : decode cc pc = .ok (.arraylength, 1)) (kk : G w x P u v n I J R (pc + 1) L (gvI (len : Int) :: st)) : G w x P u v n I J R pc L (gvr w k :: st) := by
  obtain ⟨p, e, Rm, s, m, args, below, meth, c, mc, ms⟩ := x
  obtain ⟨hx, hb, hml, hr, hown, hts, hK, hsta, hlk, hsz, hRm⟩ := hc
  intro H locs ls hP hS hl
  have h2 := kk H locs ls hP hS hl
  have hv : Int32.ofNat len = Int32.ofInt (len : Int) := Int32.ofInt_eq_ofNat.symm
  have hty : ∃ ty, (g_ty w.2.2.1)[t]? = some (w.2.2.1 t, ty) := by
    match t, ht with
    | 0, _ => exact ⟨_, rfl⟩
    | 1, _ => exact ⟨_, rfl⟩
    | 2, _ => exact ⟨_, rfl⟩
    | 3, _ => exact ⟨_, rfl⟩
    | 4, _ => exact ⟨_, rfl⟩
    | 5, _ => exact ⟨_, rfl⟩
  obtain ⟨ty, hty⟩ := hty
  by_cases h3 : t < 3
  · exact va_alen hx hb hK hP k t (g_at_i hs h3) hty hv hd h2
  · exact va_alen hx hb hK hP k t (g_at_r hs h3 ht) hty hv hd h2
/-- a static array that nobody writes -/
theorem g_gets {i idx : Nat} {q : String × List Int} (hc : g_OK w x cc nL rt own d) (hq : g_sar[i]? = some q) (hl : Cond.fieldLink own idx "OtherSelves$LifeReader" q.1 "[I" ∈ g_tb) (hd : decode cc pc = .ok (.getstatic idx, 3)) (kk : G w x P u v n I J R (pc + 3) L (.ref (w.2.2.2.2 i) :: st)) : G w x P u v n I J R pc L st := by
  obtain ⟨p, e, Rm, s, m, args, below, meth, c, mc, ms⟩ := x
  obtain ⟨hx, hb, hml, hr, hown, hts, hK, hsta, hlk, hsz, hRm⟩ := hc
  exact fun H locs ls hP hS hll => va_gets hx hb (hsta.1 i q hq).1 hS hown (hts _ hl) (fun _ h => h) hd (kk H locs ls hP hS hll)
theorem g_tld {i : Nat} {j : Int} {q : String × List Int} (hc : g_OK w x cc nL rt own d) (hq : g_sar[i]? = some q) (h0 : 0 ≤ j) (h1 : j < (q.2.length : Int)) (hn : q.2.length < 2 ^ 31) (hd : decode cc pc = .ok (.iaload, 1)) (kk : G w x P u v n I J R (pc + 1) L (gvI (q.2.getD j.toNat 0) :: st)) : G w x P u v n I J R pc L (gvI j :: .ref (w.2.2.2.2 i) :: st) := by
  obtain ⟨p, e, Rm, s, m, args, below, meth, c, mc, ms⟩ := x
  obtain ⟨hx, hb, hml, hr, hown, hts, hK, hsta, hlk, hsz, hRm⟩ := hc
  exact fun H locs ls hP hS hll => va_ti hx hb (hsta.1 i q hq).2 hS (g_in h0 h1 hn) (by rw [g_cl ⟨by omega, by omega⟩]) hd (kk H locs ls hP hS hll)
theorem g_ldcS {idx i : Nat} {tx : String} (hc : g_OK w x cc nL rt own d) (hq : (own, idx, tx, i) ∈ g_str) (hd : decode cc pc = .ok (.ldc idx, 2)) (kk : G w x P u v n I J R (pc + 2) L (.ref (w.2.2.2.2 (100 + i)) :: st)) : G w x P u v n I J R pc L st := by
  obtain ⟨p, e, Rm, s, m, args, below, meth, c, mc, ms⟩ := x
  obtain ⟨hx, hb, hml, hr, hown, hts, hK, hsta, hlk, hsz, hRm⟩ := hc
  exact fun H locs ls hP hS hll => va_ldcS hx hb hown (hsta.2.2.1 _ hq) hd (kk H locs ls hP hS hll)
theorem g_end {oc : Option Value} {s t : State} {H : Heap} {locs : List Loc} {args : Array Value} (hP : va_P w.2.1 g_cls (g_ws w n I J R) H) (hS : va_S (g_A w) s.heap H locs) (h : P oc n I J R) (ht : t.heap = H) : g_Q w P args s (.returned oc) t :=
  ⟨⟨oc, n, I, J, R, rfl, h, by rw [ht]; exact hP⟩, hS.F ht⟩
theorem g_iret {a : Int} (hc : g_OK w x cc nL (some .int) own d) (he : x.2.2.2.2.2.2.2.2.2.1 = u ∧ x.2.2.2.2.2.2.2.2.2.2 = v) (hd : decode cc pc = .ok (.ireturn, 1)) (h : P (some (gvI a)) n I J R) : G w x P u v n I J R pc L [gvI a] := by
  obtain ⟨p, e, Rm, s, m, args, below, meth, c, mc, ms⟩ := x
  obtain ⟨hx, hb, hml, hr, hown, hts, hK, hsta, hlk, hsz, hRm⟩ := hc
  obtain ⟨rfl, rfl⟩ := he
  exact fun H locs ls hP hS hll => W.iret hx hb hr (fun t ht _ => g_end hP hS h ht) hS.2.2 hd hlk
theorem g_zret {a : Int} (hc : g_OK w x cc nL (some .boolean) own d) (he : x.2.2.2.2.2.2.2.2.2.1 = u ∧ x.2.2.2.2.2.2.2.2.2.2 = v) (ha : a = 0 ∨ a = 1) (hd : decode cc pc = .ok (.ireturn, 1)) (h : P (some (gvI a)) n I J R) : G w x P u v n I J R pc L [gvI a] := by
  obtain ⟨p, e, Rm, s, m, args, below, meth, c, mc, ms⟩ := x
  obtain ⟨hx, hb, hml, hr, hown, hts, hK, hsta, hlk, hsz, hRm⟩ := hc
  obtain ⟨rfl, rfl⟩ := he
  exact fun H locs ls hP hS hll => W.zret hx hb hr (by rcases ha with rfl | rfl <;> decide +kernel) (fun t ht _ => g_end hP hS h ht) hS.2.2 hd hlk
theorem g_lret {a : Int} (hc : g_OK w x cc nL (some .long) own d) (he : x.2.2.2.2.2.2.2.2.2.1 = u ∧ x.2.2.2.2.2.2.2.2.2.2 = v) (hd : decode cc pc = .ok (.lreturn, 1)) (h : P (some (gvL a)) n I J R) : G w x P u v n I J R pc L [gvL a] := by
  obtain ⟨p, e, Rm, s, m, args, below, meth, c, mc, ms⟩ := x
  obtain ⟨hx, hb, hml, hr, hown, hts, hK, hsta, hlk, hsz, hRm⟩ := hc
  obtain ⟨rfl, rfl⟩ := he
  exact fun H locs ls hP hS hll => W.lret hx hb hr (fun t ht _ => g_end hP hS h ht) hS.2.2 hd hlk
theorem g_vret (hc : g_OK w x cc nL none own d) (he : x.2.2.2.2.2.2.2.2.2.1 = u ∧ x.2.2.2.2.2.2.2.2.2.2 = v) (hd : decode cc pc = .ok (.return_, 1)) (h : P none n I J R) : G w x P u v n I J R pc L [] := by
  obtain ⟨p, e, Rm, s, m, args, below, meth, c, mc, ms⟩ := x
  obtain ⟨hx, hb, hml, hr, hown, hts, hK, hsta, hlk, hsz, hRm⟩ := hc
  obtain ⟨rfl, rfl⟩ := he
  exact fun H locs ls hP hS hll => W.vret hx hb hr (fun t ht _ => g_end hP hS h ht) hS.2.2 hd hlk

end GROWT
