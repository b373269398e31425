/-! ===== the rows once more, for a free end ===== -/
def GQ (w : g_W) (x : g_C) (Q : State → Prop) (u v n : Nat) (I : g_I) (J : g_J) (R : g_R) (pc : Nat) (L : List (Option Value)) (st : List Value) : Prop := match x with
  | (p, e, Rm, s, m, args, below, meth, c, mc, ms) => ∀ (H : Heap) (locs : List Loc) (ls : Array Slot), va_P w.2.1 g_cls (g_ws w n I J R) H → va_S (g_A w) s.heap H locs → g_lh ls L → W p w.1 e Rm s m args below meth c H locs u v Q (F0 m pc ls st)
section GQR
variable {w : g_W} {x : g_C} {P : State → Prop} {u v n : Nat} {I : g_I} {J : g_J} {R : g_R} {pc : Nat} {L : List (Option Value)} {st : List Value} {cc : ByteArray} {nL : Nat} {rt : Option FieldType} {own : String} {d : Nat}
theorem gq_iadd {a b : Int} (hc : g_OK w x cc nL rt own d) (hd : decode cc pc = .ok (.iadd, 1)) (kk : GQ w x P u v n I J R (pc + 1) L (gvI (a + b) :: st)) : GQ w x P u v n I J R pc L (gvI b :: gvI a :: st) := by
  obtain ⟨p, e, Rm, s, m, args, below, meth, c, mc, ms⟩ := x
  obtain ⟨hx, hb, hml, hr, hown, hts, hK, hsta, hlk, hsz, hRm⟩ := hc
  rw [gvI_add] at kk
  exact fun H locs ls hP hS hl => lv_iadd hx hb hd (kk H locs ls hP hS hl)
theorem gq_ladd {a b : Int} (hc : g_OK w x cc nL rt own d) (hd : decode cc pc = .ok (.ladd, 1)) (kk : GQ w x P u v n I J R (pc + 1) L (gvL (a + b) :: st)) : GQ w x P u v n I J R pc L (gvL b :: gvL a :: st) := by
  obtain ⟨p, e, Rm, s, m, args, below, meth, c, mc, ms⟩ := x
  obtain ⟨hx, hb, hml, hr, hown, hts, hK, hsta, hlk, hsz, hRm⟩ := hc
  rw [gvL_add] at kk
  exact fun H locs ls hP hS hl => lv_ladd hx hb hd (kk H locs ls hP hS hl)
theorem gq_isub {a b : Int} (hc : g_OK w x cc nL rt own d) (hd : decode cc pc = .ok (.isub, 1)) (kk : GQ w x P u v n I J R (pc + 1) L (gvI (a - b) :: st)) : GQ w x P u v n I J R pc L (gvI b :: gvI a :: st) := by
  obtain ⟨p, e, Rm, s, m, args, below, meth, c, mc, ms⟩ := x
  obtain ⟨hx, hb, hml, hr, hown, hts, hK, hsta, hlk, hsz, hRm⟩ := hc
  rw [gvI_sub] at kk
  exact fun H locs ls hP hS hl => lv_isub hx hb hd (kk H locs ls hP hS hl)
theorem gq_lsub {a b : Int} (hc : g_OK w x cc nL rt own d) (hd : decode cc pc = .ok (.lsub, 1)) (kk : GQ w x P u v n I J R (pc + 1) L (gvL (a - b) :: st)) : GQ w x P u v n I J R pc L (gvL b :: gvL a :: st) := by
  obtain ⟨p, e, Rm, s, m, args, below, meth, c, mc, ms⟩ := x
  obtain ⟨hx, hb, hml, hr, hown, hts, hK, hsta, hlk, hsz, hRm⟩ := hc
  rw [gvL_sub] at kk
  exact fun H locs ls hP hS hl => lv_lsub hx hb hd (kk H locs ls hP hS hl)
theorem gq_imul {a b : Int} (hc : g_OK w x cc nL rt own d) (hd : decode cc pc = .ok (.imul, 1)) (kk : GQ w x P u v n I J R (pc + 1) L (gvI (a * b) :: st)) : GQ w x P u v n I J R pc L (gvI b :: gvI a :: st) := by
  obtain ⟨p, e, Rm, s, m, args, below, meth, c, mc, ms⟩ := x
  obtain ⟨hx, hb, hml, hr, hown, hts, hK, hsta, hlk, hsz, hRm⟩ := hc
  rw [gvI_mul] at kk
  exact fun H locs ls hP hS hl => lv_imul hx hb hd (kk H locs ls hP hS hl)
theorem gq_lmul {a b : Int} (hc : g_OK w x cc nL rt own d) (hd : decode cc pc = .ok (.lmul, 1)) (kk : GQ w x P u v n I J R (pc + 1) L (gvL (a * b) :: st)) : GQ w x P u v n I J R pc L (gvL b :: gvL a :: st) := by
  obtain ⟨p, e, Rm, s, m, args, below, meth, c, mc, ms⟩ := x
  obtain ⟨hx, hb, hml, hr, hown, hts, hK, hsta, hlk, hsz, hRm⟩ := hc
  rw [gvL_mul] at kk
  exact fun H locs ls hP hS hl => lv_lmul hx hb hd (kk H locs ls hP hS hl)
theorem gq_ineg {a : Int} (hc : g_OK w x cc nL rt own d) (hd : decode cc pc = .ok (.ineg, 1)) (kk : GQ w x P u v n I J R (pc + 1) L (gvI (-a) :: st)) : GQ w x P u v n I J R pc L (gvI a :: st) := by
  obtain ⟨p, e, Rm, s, m, args, below, meth, c, mc, ms⟩ := x
  obtain ⟨hx, hb, hml, hr, hown, hts, hK, hsta, hlk, hsz, hRm⟩ := hc
  rw [gvI_neg] at kk
  exact fun H locs ls hP hS hl => lv_ineg hx hb hd (kk H locs ls hP hS hl)
theorem gq_iand {a b : Int} (hc : g_OK w x cc nL rt own d) (hd : decode cc pc = .ok (.iand, 1)) (kk : GQ w x P u v n I J R (pc + 1) L (gvI (g_and a b) :: st)) : GQ w x P u v n I J R pc L (gvI b :: gvI a :: st) := by
  obtain ⟨p, e, Rm, s, m, args, below, meth, c, mc, ms⟩ := x
  obtain ⟨hx, hb, hml, hr, hown, hts, hK, hsta, hlk, hsz, hRm⟩ := hc
  rw [g_and, gvI_of] at kk
  exact fun H locs ls hP hS hl => lv_iand hx hb hd (kk H locs ls hP hS hl)
theorem gq_ior {a b : Int} (hc : g_OK w x cc nL rt own d) (hd : decode cc pc = .ok (.ior, 1)) (kk : GQ w x P u v n I J R (pc + 1) L (gvI (g_or a b) :: st)) : GQ w x P u v n I J R pc L (gvI b :: gvI a :: st) := by
  obtain ⟨p, e, Rm, s, m, args, below, meth, c, mc, ms⟩ := x
  obtain ⟨hx, hb, hml, hr, hown, hts, hK, hsta, hlk, hsz, hRm⟩ := hc
  rw [g_or, gvI_of] at kk
  exact fun H locs ls hP hS hl => lv_ior hx hb hd (kk H locs ls hP hS hl)
theorem gq_ixor {a b : Int} (hc : g_OK w x cc nL rt own d) (hd : decode cc pc = .ok (.ixor, 1)) (kk : GQ w x P u v n I J R (pc + 1) L (gvI (g_xor a b) :: st)) : GQ w x P u v n I J R pc L (gvI b :: gvI a :: st) := by
  obtain ⟨p, e, Rm, s, m, args, below, meth, c, mc, ms⟩ := x
  obtain ⟨hx, hb, hml, hr, hown, hts, hK, hsta, hlk, hsz, hRm⟩ := hc
  rw [g_xor, gvI_of] at kk
  exact fun H locs ls hP hS hl => lv_ixor hx hb hd (kk H locs ls hP hS hl)
theorem gq_ishl {a b : Int} (hc : g_OK w x cc nL rt own d) (hd : decode cc pc = .ok (.ishl, 1)) (kk : GQ w x P u v n I J R (pc + 1) L (gvI (g_shl a b) :: st)) : GQ w x P u v n I J R pc L (gvI b :: gvI a :: st) := by
  obtain ⟨p, e, Rm, s, m, args, below, meth, c, mc, ms⟩ := x
  obtain ⟨hx, hb, hml, hr, hown, hts, hK, hsta, hlk, hsz, hRm⟩ := hc
  rw [g_shl, gvI_of] at kk
  exact fun H locs ls hP hS hl => lv_ishl hx hb hd (kk H locs ls hP hS hl)
theorem gq_ishr {a b : Int} (hc : g_OK w x cc nL rt own d) (hd : decode cc pc = .ok (.ishr, 1)) (kk : GQ w x P u v n I J R (pc + 1) L (gvI (g_shr a b) :: st)) : GQ w x P u v n I J R pc L (gvI b :: gvI a :: st) := by
  obtain ⟨p, e, Rm, s, m, args, below, meth, c, mc, ms⟩ := x
  obtain ⟨hx, hb, hml, hr, hown, hts, hK, hsta, hlk, hsz, hRm⟩ := hc
  rw [g_shr, gvI_of] at kk
  exact fun H locs ls hP hS hl => lv_ishr hx hb hd (kk H locs ls hP hS hl)
theorem gq_iushr {a b : Int} (hc : g_OK w x cc nL rt own d) (hd : decode cc pc = .ok (.iushr, 1)) (kk : GQ w x P u v n I J R (pc + 1) L (gvI (g_ushr a b) :: st)) : GQ w x P u v n I J R pc L (gvI b :: gvI a :: st) := by
  obtain ⟨p, e, Rm, s, m, args, below, meth, c, mc, ms⟩ := x
  obtain ⟨hx, hb, hml, hr, hown, hts, hK, hsta, hlk, hsz, hRm⟩ := hc
  rw [g_ushr, gvI_of] at kk
  exact fun H locs ls hP hS hl => lv_iushr hx hb hd rfl (kk H locs ls hP hS hl)
theorem gq_lushr' {a b : Int} (hc : g_OK w x cc nL rt own d) (hd : decode cc pc = .ok (.lushr, 1)) (kk : GQ w x P u v n I J R (pc + 1) L (gvL (g_lushr a b) :: st)) : GQ w x P u v n I J R pc L (gvI b :: gvL a :: st) := by
  obtain ⟨p, e, Rm, s, m, args, below, meth, c, mc, ms⟩ := x
  obtain ⟨hx, hb, hml, hr, hown, hts, hK, hsta, hlk, hsz, hRm⟩ := hc
  rw [g_lushr, gvL_of] at kk
  exact fun H locs ls hP hS hl => lv_lushr hx hb hd rfl (kk H locs ls hP hS hl)
theorem gq_lshl' {a b : Int} (hc : g_OK w x cc nL rt own d) (hd : decode cc pc = .ok (.lshl, 1)) (kk : GQ w x P u v n I J R (pc + 1) L (gvL (g_lshl a b) :: st)) : GQ w x P u v n I J R pc L (gvI b :: gvL a :: st) := by
  obtain ⟨p, e, Rm, s, m, args, below, meth, c, mc, ms⟩ := x
  obtain ⟨hx, hb, hml, hr, hown, hts, hK, hsta, hlk, hsz, hRm⟩ := hc
  rw [g_lshl, gvL_of] at kk
  exact fun H locs ls hP hS hl => lv_lshl hx hb hd rfl (kk H locs ls hP hS hl)
theorem gq_land' {a b : Int} (hc : g_OK w x cc nL rt own d) (hd : decode cc pc = .ok (.land, 1)) (kk : GQ w x P u v n I J R (pc + 1) L (gvL (g_land a b) :: st)) : GQ w x P u v n I J R pc L (gvL b :: gvL a :: st) := by
  obtain ⟨p, e, Rm, s, m, args, below, meth, c, mc, ms⟩ := x
  obtain ⟨hx, hb, hml, hr, hown, hts, hK, hsta, hlk, hsz, hRm⟩ := hc
  rw [g_land, gvL_of] at kk
  exact fun H locs ls hP hS hl => lv_land hx hb hd (kk H locs ls hP hS hl)
theorem gq_lor' {a b : Int} (hc : g_OK w x cc nL rt own d) (hd : decode cc pc = .ok (.lor, 1)) (kk : GQ w x P u v n I J R (pc + 1) L (gvL (g_lor a b) :: st)) : GQ w x P u v n I J R pc L (gvL b :: gvL a :: st) := by
  obtain ⟨p, e, Rm, s, m, args, below, meth, c, mc, ms⟩ := x
  obtain ⟨hx, hb, hml, hr, hown, hts, hK, hsta, hlk, hsz, hRm⟩ := hc
  rw [g_lor, gvL_of] at kk
  exact fun H locs ls hP hS hl => lv_lor hx hb hd (kk H locs ls hP hS hl)
theorem gq_idiv {a b : Int} (hc : g_OK w x cc nL rt own d) (hd : decode cc pc = .ok (.idiv, 1)) (ha : g32 a) (hb2 : g32 b) (hne : ¬ b = 0) (kk : GQ w x P u v n I J R (pc + 1) L (gvI (a.tdiv b) :: st)) : GQ w x P u v n I J R pc L (gvI b :: gvI a :: st) := by
  obtain ⟨p, e, Rm, s, m, args, below, meth, c, mc, ms⟩ := x
  obtain ⟨hx, hb, hml, hr, hown, hts, hK, hsta, hlk, hsz, hRm⟩ := hc
  rw [gvI, ← g_divI ha hb2 hne] at kk
  exact fun H locs ls hP hS hl => lv_idiv hx hb hd (g_ne0I hb2 hne) (kk H locs ls hP hS hl)
theorem gq_irem {a b : Int} (hc : g_OK w x cc nL rt own d) (hd : decode cc pc = .ok (.irem, 1)) (ha : g32 a) (hb2 : g32 b) (hne : ¬ b = 0) (kk : GQ w x P u v n I J R (pc + 1) L (gvI (a.tmod b) :: st)) : GQ w x P u v n I J R pc L (gvI b :: gvI a :: st) := by
  obtain ⟨p, e, Rm, s, m, args, below, meth, c, mc, ms⟩ := x
  obtain ⟨hx, hb, hml, hr, hown, hts, hK, hsta, hlk, hsz, hRm⟩ := hc
  rw [gvI, ← g_remI ha hb2 hne] at kk
  exact fun H locs ls hP hS hl => lv_irem hx hb hd (g_ne0I hb2 hne) (kk H locs ls hP hS hl)
theorem gq_ldiv {a b : Int} (hc : g_OK w x cc nL rt own d) (hd : decode cc pc = .ok (.ldiv, 1)) (ha : g64 a) (hb2 : g64 b) (hne : ¬ b = 0) (kk : GQ w x P u v n I J R (pc + 1) L (gvL (a.tdiv b) :: st)) : GQ w x P u v n I J R pc L (gvL b :: gvL a :: st) := by
  obtain ⟨p, e, Rm, s, m, args, below, meth, c, mc, ms⟩ := x
  obtain ⟨hx, hb, hml, hr, hown, hts, hK, hsta, hlk, hsz, hRm⟩ := hc
  rw [gvL, ← g_divL ha hb2 hne] at kk
  exact fun H locs ls hP hS hl => lv_ldiv hx hb hd (g_ne0L hb2 hne) (kk H locs ls hP hS hl)
theorem gq_lrem {a b : Int} (hc : g_OK w x cc nL rt own d) (hd : decode cc pc = .ok (.lrem, 1)) (ha : g64 a) (hb2 : g64 b) (hne : ¬ b = 0) (kk : GQ w x P u v n I J R (pc + 1) L (gvL (a.tmod b) :: st)) : GQ w x P u v n I J R pc L (gvL b :: gvL a :: st) := by
  obtain ⟨p, e, Rm, s, m, args, below, meth, c, mc, ms⟩ := x
  obtain ⟨hx, hb, hml, hr, hown, hts, hK, hsta, hlk, hsz, hRm⟩ := hc
  rw [gvL, ← g_remL ha hb2 hne] at kk
  exact fun H locs ls hP hS hl => lv_lrem hx hb hd (g_ne0L hb2 hne) (kk H locs ls hP hS hl)
theorem gq_i2l {a : Int} (hc : g_OK w x cc nL rt own d) (hd : decode cc pc = .ok (.i2l, 1)) (ha : g32 a) (kk : GQ w x P u v n I J R (pc + 1) L (gvL a :: st)) : GQ w x P u v n I J R pc L (gvI a :: st) := by
  obtain ⟨p, e, Rm, s, m, args, below, meth, c, mc, ms⟩ := x
  obtain ⟨hx, hb, hml, hr, hown, hts, hK, hsta, hlk, hsz, hRm⟩ := hc
  exact fun H locs ls hP hS hl => lv_i2l hx hb hd (Int32.toInt64_ofInt (by rw [g_mn32]; exact ha.1) (by have := ha.2; rw [g_mx32]; omega)) (kk H locs ls hP hS hl)
theorem gq_l2i {a : Int} (hc : g_OK w x cc nL rt own d) (hd : decode cc pc = .ok (.l2i, 1)) (kk : GQ w x P u v n I J R (pc + 1) L (gvI a :: st)) : GQ w x P u v n I J R pc L (gvL a :: st) := by
  obtain ⟨p, e, Rm, s, m, args, below, meth, c, mc, ms⟩ := x
  obtain ⟨hx, hb, hml, hr, hown, hts, hK, hsta, hlk, hsz, hRm⟩ := hc
  exact fun H locs ls hP hS hl => lv_l2i hx hb hd Int64.toInt32_ofInt (kk H locs ls hP hS hl)
theorem gq_i2b {a : Int} (hc : g_OK w x cc nL rt own d) (hd : decode cc pc = .ok (.i2b, 1)) (kk : GQ w x P u v n I J R (pc + 1) L (gvI (g_i2b' a) :: st)) : GQ w x P u v n I J R pc L (gvI a :: st) := by
  obtain ⟨p, e, Rm, s, m, args, below, meth, c, mc, ms⟩ := x
  obtain ⟨hx, hb, hml, hr, hown, hts, hK, hsta, hlk, hsz, hRm⟩ := hc
  rw [g_i2b', gvI_of] at kk
  exact fun H locs ls hP hS hl => lv_i2b hx hb hd rfl (kk H locs ls hP hS hl)
theorem gq_i2c {a : Int} (hc : g_OK w x cc nL rt own d) (hd : decode cc pc = .ok (.i2c, 1)) (kk : GQ w x P u v n I J R (pc + 1) L (gvI (g_i2c' a) :: st)) : GQ w x P u v n I J R pc L (gvI a :: st) := by
  obtain ⟨p, e, Rm, s, m, args, below, meth, c, mc, ms⟩ := x
  obtain ⟨hx, hb, hml, hr, hown, hts, hK, hsta, hlk, hsz, hRm⟩ := hc
  rw [g_i2c', gvI_of] at kk
  exact fun H locs ls hP hS hl => lv_i2c hx hb hd rfl (kk H locs ls hP hS hl)
theorem gq_lcmp {a b : Int} (hc : g_OK w x cc nL rt own d) (hd : decode cc pc = .ok (.lcmp, 1)) (ha : g64 a) (hb2 : g64 b) (kk : GQ w x P u v n I J R (pc + 1) L (gvI (if b < a then 1 else if a = b then 0 else -1) :: st)) : GQ w x P u v n I J R pc L (gvL b :: gvL a :: st) := by
  obtain ⟨p, e, Rm, s, m, args, below, meth, c, mc, ms⟩ := x
  obtain ⟨hx, hb, hml, hr, hown, hts, hK, hsta, hlk, hsz, hRm⟩ := hc
  rw [gvI, ← g_cmpL ha hb2] at kk
  exact fun H locs ls hP hS hl => W.lcmp hx hb hd (kk H locs ls hP hS hl)
theorem gq_iconst {k : Int} (hc : g_OK w x cc nL rt own d) (hd : decode cc pc = .ok (.iconst k, 1)) (kk : GQ w x P u v n I J R (pc + 1) L (gvI k :: st)) : GQ w x P u v n I J R pc L st := by
  obtain ⟨p, e, Rm, s, m, args, below, meth, c, mc, ms⟩ := x
  obtain ⟨hx, hb, hml, hr, hown, hts, hK, hsta, hlk, hsz, hRm⟩ := hc
  exact fun H locs ls hP hS hl => lv_iconst hx hb hd rfl (kk H locs ls hP hS hl)
theorem gq_bipush {k : Int} (hc : g_OK w x cc nL rt own d) (hd : decode cc pc = .ok (.bipush k, 2)) (hk : (Int8.ofInt k).toInt32 = Int32.ofInt k) (kk : GQ w x P u v n I J R (pc + 2) L (gvI k :: st)) : GQ w x P u v n I J R pc L st := by
  obtain ⟨p, e, Rm, s, m, args, below, meth, c, mc, ms⟩ := x
  obtain ⟨hx, hb, hml, hr, hown, hts, hK, hsta, hlk, hsz, hRm⟩ := hc
  exact fun H locs ls hP hS hl => lv_bipush hx hb hd hk (kk H locs ls hP hS hl)
theorem gq_sipush {k : Int} (hc : g_OK w x cc nL rt own d) (hd : decode cc pc = .ok (.sipush k, 3)) (hk : (Int16.ofInt k).toInt32 = Int32.ofInt k) (kk : GQ w x P u v n I J R (pc + 3) L (gvI k :: st)) : GQ w x P u v n I J R pc L st := by
  obtain ⟨p, e, Rm, s, m, args, below, meth, c, mc, ms⟩ := x
  obtain ⟨hx, hb, hml, hr, hown, hts, hK, hsta, hlk, hsz, hRm⟩ := hc
  exact fun H locs ls hP hS hl => lv_sipush hx hb hd hk (kk H locs ls hP hS hl)
theorem gq_ldc {idx : Nat} {k : Int} (hc : g_OK w x cc nL rt own d) (hd : decode cc pc = .ok (.ldc idx, 2)) (z : Int32) (hw : Cond.constant own idx z ∈ g_tb) (hz : z = Int32.ofInt k) (kk : GQ w x P u v n I J R (pc + 2) L (gvI k :: st)) : GQ w x P u v n I J R pc L st := by
  obtain ⟨p, e, Rm, s, m, args, below, meth, c, mc, ms⟩ := x
  obtain ⟨hx, hb, hml, hr, hown, hts, hK, hsta, hlk, hsz, hRm⟩ := hc
  subst hz
  exact fun H locs ls hP hS hl => lv_ldc hx hb hown (hts _ hw) hd (kk H locs ls hP hS hl)
theorem gq_ldc2 {idx : Nat} {k : Int} (hc : g_OK w x cc nL rt own d) (hd : decode cc pc = .ok (.ldc2_w idx, 3)) (z : Int64) (hw : Cond.constantLong own idx z ∈ g_tb) (hz : z = Int64.ofInt k) (kk : GQ w x P u v n I J R (pc + 3) L (gvL k :: st)) : GQ w x P u v n I J R pc L st := by
  obtain ⟨p, e, Rm, s, m, args, below, meth, c, mc, ms⟩ := x
  obtain ⟨hx, hb, hml, hr, hown, hts, hK, hsta, hlk, hsz, hRm⟩ := hc
  subst hz
  exact fun H locs ls hP hS hl => lv_ldc2 hx hb hown (hts _ hw) hd (kk H locs ls hP hS hl)
theorem gq_lconst {k : Fin 2} (hc : g_OK w x cc nL rt own d) (hd : decode cc pc = .ok (.lconst k, 1)) (z : Int) (hk : Int64.ofNat (k : Nat) = Int64.ofInt z) (kk : GQ w x P u v n I J R (pc + 1) L (gvL z :: st)) : GQ w x P u v n I J R pc L st := by
  obtain ⟨p, e, Rm, s, m, args, below, meth, c, mc, ms⟩ := x
  obtain ⟨hx, hb, hml, hr, hown, hts, hK, hsta, hlk, hsz, hRm⟩ := hc
  exact fun H locs ls hP hS hl => lv_lconst hx hb hd hk (kk H locs ls hP hS hl)
theorem gq_iload_n {k : Fin 4} {z : Int} (hc : g_OK w x cc nL rt own d) (hd : decode cc pc = .ok (.iload_n k, 1)) (hL : L[(k : Nat)]? = some (some (gvI z))) (kk : GQ w x P u v n I J R (pc + 1) L (gvI z :: st)) : GQ w x P u v n I J R pc L st := by
  obtain ⟨p, e, Rm, s, m, args, below, meth, c, mc, ms⟩ := x
  obtain ⟨hx, hb, hml, hr, hown, hts, hK, hsta, hlk, hsz, hRm⟩ := hc
  exact fun H locs ls hP hS hl => lv_iload_n hx hb hd rfl (hl.2.2 _ _ hL) (kk H locs ls hP hS hl)
theorem gq_iload {i : Nat} {z : Int} (hc : g_OK w x cc nL rt own d) (hd : decode cc pc = .ok (.iload i, 2)) (hL : L[i]? = some (some (gvI z))) (kk : GQ w x P u v n I J R (pc + 2) L (gvI z :: st)) : GQ w x P u v n I J R pc L st := by
  obtain ⟨p, e, Rm, s, m, args, below, meth, c, mc, ms⟩ := x
  obtain ⟨hx, hb, hml, hr, hown, hts, hK, hsta, hlk, hsz, hRm⟩ := hc
  exact fun H locs ls hP hS hl => lv_iload hx hb hd (hl.2.2 _ _ hL) (kk H locs ls hP hS hl)
theorem gq_lload_n {k : Fin 4} {z : Int} (hc : g_OK w x cc nL rt own d) (hd : decode cc pc = .ok (.lload_n k, 1)) (hL : L[(k : Nat)]? = some (some (gvL z))) (kk : GQ w x P u v n I J R (pc + 1) L (gvL z :: st)) : GQ w x P u v n I J R pc L st := by
  obtain ⟨p, e, Rm, s, m, args, below, meth, c, mc, ms⟩ := x
  obtain ⟨hx, hb, hml, hr, hown, hts, hK, hsta, hlk, hsz, hRm⟩ := hc
  exact fun H locs ls hP hS hl => lv_lload_n hx hb hd rfl (hl.2.2 _ _ hL) (kk H locs ls hP hS hl)
theorem gq_lload {i : Nat} {z : Int} (hc : g_OK w x cc nL rt own d) (hd : decode cc pc = .ok (.lload i, 2)) (hL : L[i]? = some (some (gvL z))) (kk : GQ w x P u v n I J R (pc + 2) L (gvL z :: st)) : GQ w x P u v n I J R pc L st := by
  obtain ⟨p, e, Rm, s, m, args, below, meth, c, mc, ms⟩ := x
  obtain ⟨hx, hb, hml, hr, hown, hts, hK, hsta, hlk, hsz, hRm⟩ := hc
  exact fun H locs ls hP hS hl => lv_lload hx hb hd (hl.2.2 _ _ hL) (kk H locs ls hP hS hl)
theorem gq_aload_n {k : Fin 4} {z : Nat} (hc : g_OK w x cc nL rt own d) (hd : decode cc pc = .ok (.aload_n k, 1)) (hL : L[(k : Nat)]? = some (some (.ref z))) (kk : GQ w x P u v n I J R (pc + 1) L (.ref z :: st)) : GQ w x P u v n I J R pc L st := by
  obtain ⟨p, e, Rm, s, m, args, below, meth, c, mc, ms⟩ := x
  obtain ⟨hx, hb, hml, hr, hown, hts, hK, hsta, hlk, hsz, hRm⟩ := hc
  exact fun H locs ls hP hS hl => lv_aload_n hx hb hd rfl (hl.2.2 _ _ hL) (kk H locs ls hP hS hl)
theorem gq_aload {i : Nat} {z : Nat} (hc : g_OK w x cc nL rt own d) (hd : decode cc pc = .ok (.aload i, 2)) (hL : L[i]? = some (some (.ref z))) (kk : GQ w x P u v n I J R (pc + 2) L (.ref z :: st)) : GQ w x P u v n I J R pc L st := by
  obtain ⟨p, e, Rm, s, m, args, below, meth, c, mc, ms⟩ := x
  obtain ⟨hx, hb, hml, hr, hown, hts, hK, hsta, hlk, hsz, hRm⟩ := hc
  exact fun H locs ls hP hS hl => lv_aload hx hb hd (hl.2.2 _ _ hL) (kk H locs ls hP hS hl)
theorem gq_istore_n' {k : Fin 4} {z : Int} {L' : List (Option Value)} (hc : g_OK w x cc nL rt own d) (hd : decode cc pc = .ok (.istore_n k, 1)) (hp : g_c1 L k = true) (hk : (k : Nat) < L.length) (hL : L.set k (some (gvI z)) = L') (kk : GQ w x P u v n I J R (pc + 1) L' st) : GQ w x P u v n I J R pc L (gvI z :: st) := by
  obtain ⟨p, e, Rm, s, m, args, below, meth, c, mc, ms⟩ := x
  obtain ⟨hx, hb, hml, hr, hown, hts, hK, hsta, hlk, hsz, hRm⟩ := hc
  subst hL
  exact fun H locs ls hP hS hl => lv_istore_n hx hb hd rfl (g_lh_has.mp hl) hk rfl (fun ls' h' => kk H locs ls' hP hS (g_lh_set1 hp h'))
theorem gq_istore' {i : Nat} {z : Int} {L' : List (Option Value)} (hc : g_OK w x cc nL rt own d) (hd : decode cc pc = .ok (.istore i, 2)) (hp : g_c1 L i = true) (hk : i < L.length) (hL : L.set i (some (gvI z)) = L') (kk : GQ w x P u v n I J R (pc + 2) L' st) : GQ w x P u v n I J R pc L (gvI z :: st) := by
  obtain ⟨p, e, Rm, s, m, args, below, meth, c, mc, ms⟩ := x
  obtain ⟨hx, hb, hml, hr, hown, hts, hK, hsta, hlk, hsz, hRm⟩ := hc
  subst hL
  exact fun H locs ls hP hS hl => lv_istore hx hb hd (g_lh_has.mp hl) hk rfl (fun ls' h' => kk H locs ls' hP hS (g_lh_set1 hp h'))
theorem gq_astore_n' {k : Fin 4} {z : Nat} {L' : List (Option Value)} (hc : g_OK w x cc nL rt own d) (hd : decode cc pc = .ok (.astore_n k, 1)) (hp : g_c1 L k = true) (hk : (k : Nat) < L.length) (hL : L.set k (some (.ref z)) = L') (kk : GQ w x P u v n I J R (pc + 1) L' st) : GQ w x P u v n I J R pc L (.ref z :: st) := by
  obtain ⟨p, e, Rm, s, m, args, below, meth, c, mc, ms⟩ := x
  obtain ⟨hx, hb, hml, hr, hown, hts, hK, hsta, hlk, hsz, hRm⟩ := hc
  subst hL
  exact fun H locs ls hP hS hl => lv_astore_n hx hb hd rfl (g_lh_has.mp hl) hk rfl (fun ls' h' => kk H locs ls' hP hS (g_lh_set1 hp h'))
theorem gq_astore' {i : Nat} {z : Nat} {L' : List (Option Value)} (hc : g_OK w x cc nL rt own d) (hd : decode cc pc = .ok (.astore i, 2)) (hp : g_c1 L i = true) (hk : i < L.length) (hL : L.set i (some (.ref z)) = L') (kk : GQ w x P u v n I J R (pc + 2) L' st) : GQ w x P u v n I J R pc L (.ref z :: st) := by
  obtain ⟨p, e, Rm, s, m, args, below, meth, c, mc, ms⟩ := x
  obtain ⟨hx, hb, hml, hr, hown, hts, hK, hsta, hlk, hsz, hRm⟩ := hc
  subst hL
  exact fun H locs ls hP hS hl => lv_astore hx hb hd (g_lh_has.mp hl) hk rfl (fun ls' h' => kk H locs ls' hP hS (g_lh_set1 hp h'))
theorem gq_lstore_n' {k : Fin 4} {z : Int} {L' : List (Option Value)} (hc : g_OK w x cc nL rt own d) (hd : decode cc pc = .ok (.lstore_n k, 1)) (hp : g_c1 L k = true) (hk : (k : Nat) + 1 < L.length) (hL : (L.set k (some (gvL z))).set ((k : Nat) + 1) none = L') (kk : GQ w x P u v n I J R (pc + 1) L' st) : GQ w x P u v n I J R pc L (gvL z :: st) := by
  obtain ⟨p, e, Rm, s, m, args, below, meth, c, mc, ms⟩ := x
  obtain ⟨hx, hb, hml, hr, hown, hts, hK, hsta, hlk, hsz, hRm⟩ := hc
  subst hL
  exact fun H locs ls hP hS hl => lv_lstore_n hx hb hd rfl (g_lh_has.mp hl) hk rfl (fun ls' h' => kk H locs ls' hP hS (g_lh_set2 hp h'))
theorem gq_lstore' {i : Nat} {z : Int} {L' : List (Option Value)} (hc : g_OK w x cc nL rt own d) (hd : decode cc pc = .ok (.lstore i, 2)) (hp : g_c1 L i = true) (hk : i + 1 < L.length) (hL : (L.set i (some (gvL z))).set (i + 1) none = L') (kk : GQ w x P u v n I J R (pc + 2) L' st) : GQ w x P u v n I J R pc L (gvL z :: st) := by
  obtain ⟨p, e, Rm, s, m, args, below, meth, c, mc, ms⟩ := x
  obtain ⟨hx, hb, hml, hr, hown, hts, hK, hsta, hlk, hsz, hRm⟩ := hc
  subst hL
  exact fun H locs ls hP hS hl => lv_lstore hx hb hd (g_lh_has.mp hl) hk rfl (fun ls' h' => kk H locs ls' hP hS (g_lh_set2 hp h'))
theorem gq_iinc' {i : Nat} {k z : Int} {L' : List (Option Value)} (hc : g_OK w x cc nL rt own d) (hd : decode cc pc = .ok (.iinc i k, 3)) (hp : g_c1 L i = true) (hz : L[i]? = some (some (gvI z))) (hL : L.set i (some (gvI (z + k))) = L') (kk : GQ w x P u v n I J R (pc + 3) L' st) : GQ w x P u v n I J R pc L st := by
  obtain ⟨p, e, Rm, s, m, args, below, meth, c, mc, ms⟩ := x
  obtain ⟨hx, hb, hml, hr, hown, hts, hK, hsta, hlk, hsz, hRm⟩ := hc
  subst hL
  intro H locs ls hP hS hl
  have hq : ((i, gvI z) : Nat × Value) ∈ g_ll L := g_ll_in.mpr hz
  obtain ⟨k0, hk0⟩ := List.getElem?_of_mem hq
  refine lv_iinc (v := Int32.ofInt (z + k)) hx hb hd (g_lh_has.mp hl) hk0 (by rw [Int32.ofInt_add]) (List.getElem?_eq_some_iff.mp hz).1 rfl (fun ls' h' => kk H locs ls' hP hS (g_lh_set1 hp h'))
theorem gq_istore_0 {c0 : Option Value} {t : List (Option Value)} {z : Int} (hc : g_OK w x cc nL rt own d) (hd : decode cc pc = .ok (.istore_n 0, 1)) (kk : GQ w x P u v n I J R (pc + 1) (some (gvI z) :: t) st) : GQ w x P u v n I J R pc (c0 :: t) (gvI z :: st) := gq_istore_n' hc hd rfl (show 0 < _ by simp only [List.length_cons]; omega) rfl kk
theorem gq_astore_0 {c0 : Option Value} {t : List (Option Value)} {z : Nat} (hc : g_OK w x cc nL rt own d) (hd : decode cc pc = .ok (.astore_n 0, 1)) (kk : GQ w x P u v n I J R (pc + 1) (some (.ref z) :: t) st) : GQ w x P u v n I J R pc (c0 :: t) (.ref z :: st) := gq_astore_n' hc hd rfl (show 0 < _ by simp only [List.length_cons]; omega) rfl kk
theorem gq_lstore_0 {c0 c1 : Option Value} {t : List (Option Value)} {z : Int} (hc : g_OK w x cc nL rt own d) (hd : decode cc pc = .ok (.lstore_n 0, 1)) (kk : GQ w x P u v n I J R (pc + 1) (some (gvL z) :: none :: t) st) : GQ w x P u v n I J R pc (c0 :: c1 :: t) (gvL z :: st) := gq_lstore_n' hc hd rfl (show 0 + 1 < _ by simp only [List.length_cons]; omega) rfl kk
theorem gq_iinc_0 {t : List (Option Value)} {z k : Int} (hc : g_OK w x cc nL rt own d) (hd : decode cc pc = .ok (.iinc 0 k, 3)) (kk : GQ w x P u v n I J R (pc + 3) (some (gvI (z + k)) :: t) st) : GQ w x P u v n I J R pc (some (gvI z) :: t) st := gq_iinc' hc hd rfl rfl rfl kk
theorem gq_istore_1 {a0 : Option Value} {c0 : Option Value} {t : List (Option Value)} {z : Int} (hc : g_OK w x cc nL rt own d) (hd : decode cc pc = .ok (.istore_n 1, 1)) (hp : g_c1 [a0] 1 = true) (kk : GQ w x P u v n I J R (pc + 1) (a0 :: some (gvI z) :: t) st) : GQ w x P u v n I J R pc (a0 :: c0 :: t) (gvI z :: st) := gq_istore_n' hc hd (by exact hp) (show 1 < _ by simp only [List.length_cons]; omega) rfl kk
theorem gq_astore_1 {a0 : Option Value} {c0 : Option Value} {t : List (Option Value)} {z : Nat} (hc : g_OK w x cc nL rt own d) (hd : decode cc pc = .ok (.astore_n 1, 1)) (hp : g_c1 [a0] 1 = true) (kk : GQ w x P u v n I J R (pc + 1) (a0 :: some (.ref z) :: t) st) : GQ w x P u v n I J R pc (a0 :: c0 :: t) (.ref z :: st) := gq_astore_n' hc hd (by exact hp) (show 1 < _ by simp only [List.length_cons]; omega) rfl kk
theorem gq_lstore_1 {a0 : Option Value} {c0 c1 : Option Value} {t : List (Option Value)} {z : Int} (hc : g_OK w x cc nL rt own d) (hd : decode cc pc = .ok (.lstore_n 1, 1)) (hp : g_c1 [a0] 1 = true) (kk : GQ w x P u v n I J R (pc + 1) (a0 :: some (gvL z) :: none :: t) st) : GQ w x P u v n I J R pc (a0 :: c0 :: c1 :: t) (gvL z :: st) := gq_lstore_n' hc hd (by exact hp) (show 1 + 1 < _ by simp only [List.length_cons]; omega) rfl kk
theorem gq_iinc_1 {a0 : Option Value} {t : List (Option Value)} {z k : Int} (hc : g_OK w x cc nL rt own d) (hd : decode cc pc = .ok (.iinc 1 k, 3)) (hp : g_c1 [a0] 1 = true) (kk : GQ w x P u v n I J R (pc + 3) (a0 :: some (gvI (z + k)) :: t) st) : GQ w x P u v n I J R pc (a0 :: some (gvI z) :: t) st := gq_iinc' hc hd (by exact hp) rfl rfl kk
theorem gq_istore_2 {a0 a1 : Option Value} {c0 : Option Value} {t : List (Option Value)} {z : Int} (hc : g_OK w x cc nL rt own d) (hd : decode cc pc = .ok (.istore_n 2, 1)) (hp : g_c1 [a0, a1] 2 = true) (kk : GQ w x P u v n I J R (pc + 1) (a0 :: a1 :: some (gvI z) :: t) st) : GQ w x P u v n I J R pc (a0 :: a1 :: c0 :: t) (gvI z :: st) := gq_istore_n' hc hd (by exact hp) (show 2 < _ by simp only [List.length_cons]; omega) rfl kk
theorem gq_astore_2 {a0 a1 : Option Value} {c0 : Option Value} {t : List (Option Value)} {z : Nat} (hc : g_OK w x cc nL rt own d) (hd : decode cc pc = .ok (.astore_n 2, 1)) (hp : g_c1 [a0, a1] 2 = true) (kk : GQ w x P u v n I J R (pc + 1) (a0 :: a1 :: some (.ref z) :: t) st) : GQ w x P u v n I J R pc (a0 :: a1 :: c0 :: t) (.ref z :: st) := gq_astore_n' hc hd (by exact hp) (show 2 < _ by simp only [List.length_cons]; omega) rfl kk
theorem gq_lstore_2 {a0 a1 : Option Value} {c0 c1 : Option Value} {t : List (Option Value)} {z : Int} (hc : g_OK w x cc nL rt own d) (hd : decode cc pc = .ok (.lstore_n 2, 1)) (hp : g_c1 [a0, a1] 2 = true) (kk : GQ w x P u v n I J R (pc + 1) (a0 :: a1 :: some (gvL z) :: none :: t) st) : GQ w x P u v n I J R pc (a0 :: a1 :: c0 :: c1 :: t) (gvL z :: st) := gq_lstore_n' hc hd (by exact hp) (show 2 + 1 < _ by simp only [List.length_cons]; omega) rfl kk
theorem gq_iinc_2 {a0 a1 : Option Value} {t : List (Option Value)} {z k : Int} (hc : g_OK w x cc nL rt own d) (hd : decode cc pc = .ok (.iinc 2 k, 3)) (hp : g_c1 [a0, a1] 2 = true) (kk : GQ w x P u v n I J R (pc + 3) (a0 :: a1 :: some (gvI (z + k)) :: t) st) : GQ w x P u v n I J R pc (a0 :: a1 :: some (gvI z) :: t) st := gq_iinc' hc hd (by exact hp) rfl rfl kk
theorem gq_istore_3 {a0 a1 a2 : Option Value} {c0 : Option Value} {t : List (Option Value)} {z : Int} (hc : g_OK w x cc nL rt own d) (hd : decode cc pc = .ok (.istore_n 3, 1)) (hp : g_c1 [a0, a1, a2] 3 = true) (kk : GQ w x P u v n I J R (pc + 1) (a0 :: a1 :: a2 :: some (gvI z) :: t) st) : GQ w x P u v n I J R pc (a0 :: a1 :: a2 :: c0 :: t) (gvI z :: st) := gq_istore_n' hc hd (by exact hp) (show 3 < _ by simp only [List.length_cons]; omega) rfl kk
theorem gq_astore_3 {a0 a1 a2 : Option Value} {c0 : Option Value} {t : List (Option Value)} {z : Nat} (hc : g_OK w x cc nL rt own d) (hd : decode cc pc = .ok (.astore_n 3, 1)) (hp : g_c1 [a0, a1, a2] 3 = true) (kk : GQ w x P u v n I J R (pc + 1) (a0 :: a1 :: a2 :: some (.ref z) :: t) st) : GQ w x P u v n I J R pc (a0 :: a1 :: a2 :: c0 :: t) (.ref z :: st) := gq_astore_n' hc hd (by exact hp) (show 3 < _ by simp only [List.length_cons]; omega) rfl kk
theorem gq_lstore_3 {a0 a1 a2 : Option Value} {c0 c1 : Option Value} {t : List (Option Value)} {z : Int} (hc : g_OK w x cc nL rt own d) (hd : decode cc pc = .ok (.lstore_n 3, 1)) (hp : g_c1 [a0, a1, a2] 3 = true) (kk : GQ w x P u v n I J R (pc + 1) (a0 :: a1 :: a2 :: some (gvL z) :: none :: t) st) : GQ w x P u v n I J R pc (a0 :: a1 :: a2 :: c0 :: c1 :: t) (gvL z :: st) := gq_lstore_n' hc hd (by exact hp) (show 3 + 1 < _ by simp only [List.length_cons]; omega) rfl kk
theorem gq_iinc_3 {a0 a1 a2 : Option Value} {t : List (Option Value)} {z k : Int} (hc : g_OK w x cc nL rt own d) (hd : decode cc pc = .ok (.iinc 3 k, 3)) (hp : g_c1 [a0, a1, a2] 3 = true) (kk : GQ w x P u v n I J R (pc + 3) (a0 :: a1 :: a2 :: some (gvI (z + k)) :: t) st) : GQ w x P u v n I J R pc (a0 :: a1 :: a2 :: some (gvI z) :: t) st := gq_iinc' hc hd (by exact hp) rfl rfl kk
theorem gq_istore_4 {a0 a1 a2 a3 : Option Value} {c0 : Option Value} {t : List (Option Value)} {z : Int} (hc : g_OK w x cc nL rt own d) (hd : decode cc pc = .ok (.istore 4, 2)) (hp : g_c1 [a0, a1, a2, a3] 4 = true) (kk : GQ w x P u v n I J R (pc + 2) (a0 :: a1 :: a2 :: a3 :: some (gvI z) :: t) st) : GQ w x P u v n I J R pc (a0 :: a1 :: a2 :: a3 :: c0 :: t) (gvI z :: st) := gq_istore' hc hd (by exact hp) (show 4 < _ by simp only [List.length_cons]; omega) rfl kk
theorem gq_astore_4 {a0 a1 a2 a3 : Option Value} {c0 : Option Value} {t : List (Option Value)} {z : Nat} (hc : g_OK w x cc nL rt own d) (hd : decode cc pc = .ok (.astore 4, 2)) (hp : g_c1 [a0, a1, a2, a3] 4 = true) (kk : GQ w x P u v n I J R (pc + 2) (a0 :: a1 :: a2 :: a3 :: some (.ref z) :: t) st) : GQ w x P u v n I J R pc (a0 :: a1 :: a2 :: a3 :: c0 :: t) (.ref z :: st) := gq_astore' hc hd (by exact hp) (show 4 < _ by simp only [List.length_cons]; omega) rfl kk
theorem gq_lstore_4 {a0 a1 a2 a3 : Option Value} {c0 c1 : Option Value} {t : List (Option Value)} {z : Int} (hc : g_OK w x cc nL rt own d) (hd : decode cc pc = .ok (.lstore 4, 2)) (hp : g_c1 [a0, a1, a2, a3] 4 = true) (kk : GQ w x P u v n I J R (pc + 2) (a0 :: a1 :: a2 :: a3 :: some (gvL z) :: none :: t) st) : GQ w x P u v n I J R pc (a0 :: a1 :: a2 :: a3 :: c0 :: c1 :: t) (gvL z :: st) := gq_lstore' hc hd (by exact hp) (show 4 + 1 < _ by simp only [List.length_cons]; omega) rfl kk
theorem gq_iinc_4 {a0 a1 a2 a3 : Option Value} {t : List (Option Value)} {z k : Int} (hc : g_OK w x cc nL rt own d) (hd : decode cc pc = .ok (.iinc 4 k, 3)) (hp : g_c1 [a0, a1, a2, a3] 4 = true) (kk : GQ w x P u v n I J R (pc + 3) (a0 :: a1 :: a2 :: a3 :: some (gvI (z + k)) :: t) st) : GQ w x P u v n I J R pc (a0 :: a1 :: a2 :: a3 :: some (gvI z) :: t) st := gq_iinc' hc hd (by exact hp) rfl rfl kk
theorem gq_istore_5 {a0 a1 a2 a3 a4 : Option Value} {c0 : Option Value} {t : List (Option Value)} {z : Int} (hc : g_OK w x cc nL rt own d) (hd : decode cc pc = .ok (.istore 5, 2)) (hp : g_c1 [a0, a1, a2, a3, a4] 5 = true) (kk : GQ w x P u v n I J R (pc + 2) (a0 :: a1 :: a2 :: a3 :: a4 :: some (gvI z) :: t) st) : GQ w x P u v n I J R pc (a0 :: a1 :: a2 :: a3 :: a4 :: c0 :: t) (gvI z :: st) := gq_istore' hc hd (by exact hp) (show 5 < _ by simp only [List.length_cons]; omega) rfl kk
theorem gq_astore_5 {a0 a1 a2 a3 a4 : Option Value} {c0 : Option Value} {t : List (Option Value)} {z : Nat} (hc : g_OK w x cc nL rt own d) (hd : decode cc pc = .ok (.astore 5, 2)) (hp : g_c1 [a0, a1, a2, a3, a4] 5 = true) (kk : GQ w x P u v n I J R (pc + 2) (a0 :: a1 :: a2 :: a3 :: a4 :: some (.ref z) :: t) st) : GQ w x P u v n I J R pc (a0 :: a1 :: a2 :: a3 :: a4 :: c0 :: t) (.ref z :: st) := gq_astore' hc hd (by exact hp) (show 5 < _ by simp only [List.length_cons]; omega) rfl kk
theorem gq_lstore_5 {a0 a1 a2 a3 a4 : Option Value} {c0 c1 : Option Value} {t : List (Option Value)} {z : Int} (hc : g_OK w x cc nL rt own d) (hd : decode cc pc = .ok (.lstore 5, 2)) (hp : g_c1 [a0, a1, a2, a3, a4] 5 = true) (kk : GQ w x P u v n I J R (pc + 2) (a0 :: a1 :: a2 :: a3 :: a4 :: some (gvL z) :: none :: t) st) : GQ w x P u v n I J R pc (a0 :: a1 :: a2 :: a3 :: a4 :: c0 :: c1 :: t) (gvL z :: st) := gq_lstore' hc hd (by exact hp) (show 5 + 1 < _ by simp only [List.length_cons]; omega) rfl kk
theorem gq_iinc_5 {a0 a1 a2 a3 a4 : Option Value} {t : List (Option Value)} {z k : Int} (hc : g_OK w x cc nL rt own d) (hd : decode cc pc = .ok (.iinc 5 k, 3)) (hp : g_c1 [a0, a1, a2, a3, a4] 5 = true) (kk : GQ w x P u v n I J R (pc + 3) (a0 :: a1 :: a2 :: a3 :: a4 :: some (gvI (z + k)) :: t) st) : GQ w x P u v n I J R pc (a0 :: a1 :: a2 :: a3 :: a4 :: some (gvI z) :: t) st := gq_iinc' hc hd (by exact hp) rfl rfl kk
theorem gq_istore_6 {a0 a1 a2 a3 a4 a5 : Option Value} {c0 : Option Value} {t : List (Option Value)} {z : Int} (hc : g_OK w x cc nL rt own d) (hd : decode cc pc = .ok (.istore 6, 2)) (hp : g_c1 [a0, a1, a2, a3, a4, a5] 6 = true) (kk : GQ w x P u v n I J R (pc + 2) (a0 :: a1 :: a2 :: a3 :: a4 :: a5 :: some (gvI z) :: t) st) : GQ w x P u v n I J R pc (a0 :: a1 :: a2 :: a3 :: a4 :: a5 :: c0 :: t) (gvI z :: st) := gq_istore' hc hd (by exact hp) (show 6 < _ by simp only [List.length_cons]; omega) rfl kk
theorem gq_astore_6 {a0 a1 a2 a3 a4 a5 : Option Value} {c0 : Option Value} {t : List (Option Value)} {z : Nat} (hc : g_OK w x cc nL rt own d) (hd : decode cc pc = .ok (.astore 6, 2)) (hp : g_c1 [a0, a1, a2, a3, a4, a5] 6 = true) (kk : GQ w x P u v n I J R (pc + 2) (a0 :: a1 :: a2 :: a3 :: a4 :: a5 :: some (.ref z) :: t) st) : GQ w x P u v n I J R pc (a0 :: a1 :: a2 :: a3 :: a4 :: a5 :: c0 :: t) (.ref z :: st) := gq_astore' hc hd (by exact hp) (show 6 < _ by simp only [List.length_cons]; omega) rfl kk
theorem gq_lstore_6 {a0 a1 a2 a3 a4 a5 : Option Value} {c0 c1 : Option Value} {t : List (Option Value)} {z : Int} (hc : g_OK w x cc nL rt own d) (hd : decode cc pc = .ok (.lstore 6, 2)) (hp : g_c1 [a0, a1, a2, a3, a4, a5] 6 = true) (kk : GQ w x P u v n I J R (pc + 2) (a0 :: a1 :: a2 :: a3 :: a4 :: a5 :: some (gvL z) :: none :: t) st) : GQ w x P u v n I J R pc (a0 :: a1 :: a2 :: a3 :: a4 :: a5 :: c0 :: c1 :: t) (gvL z :: st) := gq_lstore' hc hd (by exact hp) (show 6 + 1 < _ by simp only [List.length_cons]; omega) rfl kk
theorem gq_iinc_6 {a0 a1 a2 a3 a4 a5 : Option Value} {t : List (Option Value)} {z k : Int} (hc : g_OK w x cc nL rt own d) (hd : decode cc pc = .ok (.iinc 6 k, 3)) (hp : g_c1 [a0, a1, a2, a3, a4, a5] 6 = true) (kk : GQ w x P u v n I J R (pc + 3) (a0 :: a1 :: a2 :: a3 :: a4 :: a5 :: some (gvI (z + k)) :: t) st) : GQ w x P u v n I J R pc (a0 :: a1 :: a2 :: a3 :: a4 :: a5 :: some (gvI z) :: t) st := gq_iinc' hc hd (by exact hp) rfl rfl kk
theorem gq_istore_7 {a0 a1 a2 a3 a4 a5 a6 : Option Value} {c0 : Option Value} {t : List (Option Value)} {z : Int} (hc : g_OK w x cc nL rt own d) (hd : decode cc pc = .ok (.istore 7, 2)) (hp : g_c1 [a0, a1, a2, a3, a4, a5, a6] 7 = true) (kk : GQ w x P u v n I J R (pc + 2) (a0 :: a1 :: a2 :: a3 :: a4 :: a5 :: a6 :: some (gvI z) :: t) st) : GQ w x P u v n I J R pc (a0 :: a1 :: a2 :: a3 :: a4 :: a5 :: a6 :: c0 :: t) (gvI z :: st) := gq_istore' hc hd (by exact hp) (show 7 < _ by simp only [List.length_cons]; omega) rfl kk
theorem gq_astore_7 {a0 a1 a2 a3 a4 a5 a6 : Option Value} {c0 : Option Value} {t : List (Option Value)} {z : Nat} (hc : g_OK w x cc nL rt own d) (hd : decode cc pc = .ok (.astore 7, 2)) (hp : g_c1 [a0, a1, a2, a3, a4, a5, a6] 7 = true) (kk : GQ w x P u v n I J R (pc + 2) (a0 :: a1 :: a2 :: a3 :: a4 :: a5 :: a6 :: some (.ref z) :: t) st) : GQ w x P u v n I J R pc (a0 :: a1 :: a2 :: a3 :: a4 :: a5 :: a6 :: c0 :: t) (.ref z :: st) := gq_astore' hc hd (by exact hp) (show 7 < _ by simp only [List.length_cons]; omega) rfl kk
theorem gq_lstore_7 {a0 a1 a2 a3 a4 a5 a6 : Option Value} {c0 c1 : Option Value} {t : List (Option Value)} {z : Int} (hc : g_OK w x cc nL rt own d) (hd : decode cc pc = .ok (.lstore 7, 2)) (hp : g_c1 [a0, a1, a2, a3, a4, a5, a6] 7 = true) (kk : GQ w x P u v n I J R (pc + 2) (a0 :: a1 :: a2 :: a3 :: a4 :: a5 :: a6 :: some (gvL z) :: none :: t) st) : GQ w x P u v n I J R pc (a0 :: a1 :: a2 :: a3 :: a4 :: a5 :: a6 :: c0 :: c1 :: t) (gvL z :: st) := gq_lstore' hc hd (by exact hp) (show 7 + 1 < _ by simp only [List.length_cons]; omega) rfl kk
theorem gq_iinc_7 {a0 a1 a2 a3 a4 a5 a6 : Option Value} {t : List (Option Value)} {z k : Int} (hc : g_OK w x cc nL rt own d) (hd : decode cc pc = .ok (.iinc 7 k, 3)) (hp : g_c1 [a0, a1, a2, a3, a4, a5, a6] 7 = true) (kk : GQ w x P u v n I J R (pc + 3) (a0 :: a1 :: a2 :: a3 :: a4 :: a5 :: a6 :: some (gvI (z + k)) :: t) st) : GQ w x P u v n I J R pc (a0 :: a1 :: a2 :: a3 :: a4 :: a5 :: a6 :: some (gvI z) :: t) st := gq_iinc' hc hd (by exact hp) rfl rfl kk
theorem gq_istore_8 {a0 a1 a2 a3 a4 a5 a6 a7 : Option Value} {c0 : Option Value} {t : List (Option Value)} {z : Int} (hc : g_OK w x cc nL rt own d) (hd : decode cc pc = .ok (.istore 8, 2)) (hp : g_c1 [a0, a1, a2, a3, a4, a5, a6, a7] 8 = true) (kk : GQ w x P u v n I J R (pc + 2) (a0 :: a1 :: a2 :: a3 :: a4 :: a5 :: a6 :: a7 :: some (gvI z) :: t) st) : GQ w x P u v n I J R pc (a0 :: a1 :: a2 :: a3 :: a4 :: a5 :: a6 :: a7 :: c0 :: t) (gvI z :: st) := gq_istore' hc hd (by exact hp) (show 8 < _ by simp only [List.length_cons]; omega) rfl kk
theorem gq_astore_8 {a0 a1 a2 a3 a4 a5 a6 a7 : Option Value} {c0 : Option Value} {t : List (Option Value)} {z : Nat} (hc : g_OK w x cc nL rt own d) (hd : decode cc pc = .ok (.astore 8, 2)) (hp : g_c1 [a0, a1, a2, a3, a4, a5, a6, a7] 8 = true) (kk : GQ w x P u v n I J R (pc + 2) (a0 :: a1 :: a2 :: a3 :: a4 :: a5 :: a6 :: a7 :: some (.ref z) :: t) st) : GQ w x P u v n I J R pc (a0 :: a1 :: a2 :: a3 :: a4 :: a5 :: a6 :: a7 :: c0 :: t) (.ref z :: st) := gq_astore' hc hd (by exact hp) (show 8 < _ by simp only [List.length_cons]; omega) rfl kk
theorem gq_lstore_8 {a0 a1 a2 a3 a4 a5 a6 a7 : Option Value} {c0 c1 : Option Value} {t : List (Option Value)} {z : Int} (hc : g_OK w x cc nL rt own d) (hd : decode cc pc = .ok (.lstore 8, 2)) (hp : g_c1 [a0, a1, a2, a3, a4, a5, a6, a7] 8 = true) (kk : GQ w x P u v n I J R (pc + 2) (a0 :: a1 :: a2 :: a3 :: a4 :: a5 :: a6 :: a7 :: some (gvL z) :: none :: t) st) : GQ w x P u v n I J R pc (a0 :: a1 :: a2 :: a3 :: a4 :: a5 :: a6 :: a7 :: c0 :: c1 :: t) (gvL z :: st) := gq_lstore' hc hd (by exact hp) (show 8 + 1 < _ by simp only [List.length_cons]; omega) rfl kk
theorem gq_iinc_8 {a0 a1 a2 a3 a4 a5 a6 a7 : Option Value} {t : List (Option Value)} {z k : Int} (hc : g_OK w x cc nL rt own d) (hd : decode cc pc = .ok (.iinc 8 k, 3)) (hp : g_c1 [a0, a1, a2, a3, a4, a5, a6, a7] 8 = true) (kk : GQ w x P u v n I J R (pc + 3) (a0 :: a1 :: a2 :: a3 :: a4 :: a5 :: a6 :: a7 :: some (gvI (z + k)) :: t) st) : GQ w x P u v n I J R pc (a0 :: a1 :: a2 :: a3 :: a4 :: a5 :: a6 :: a7 :: some (gvI z) :: t) st := gq_iinc' hc hd (by exact hp) rfl rfl kk
theorem gq_istore_9 {a0 a1 a2 a3 a4 a5 a6 a7 a8 : Option Value} {c0 : Option Value} {t : List (Option Value)} {z : Int} (hc : g_OK w x cc nL rt own d) (hd : decode cc pc = .ok (.istore 9, 2)) (hp : g_c1 [a0, a1, a2, a3, a4, a5, a6, a7, a8] 9 = true) (kk : GQ w x P u v n I J R (pc + 2) (a0 :: a1 :: a2 :: a3 :: a4 :: a5 :: a6 :: a7 :: a8 :: some (gvI z) :: t) st) : GQ w x P u v n I J R pc (a0 :: a1 :: a2 :: a3 :: a4 :: a5 :: a6 :: a7 :: a8 :: c0 :: t) (gvI z :: st) := gq_istore' hc hd (by exact hp) (show 9 < _ by simp only [List.length_cons]; omega) rfl kk
theorem gq_astore_9 {a0 a1 a2 a3 a4 a5 a6 a7 a8 : Option Value} {c0 : Option Value} {t : List (Option Value)} {z : Nat} (hc : g_OK w x cc nL rt own d) (hd : decode cc pc = .ok (.astore 9, 2)) (hp : g_c1 [a0, a1, a2, a3, a4, a5, a6, a7, a8] 9 = true) (kk : GQ w x P u v n I J R (pc + 2) (a0 :: a1 :: a2 :: a3 :: a4 :: a5 :: a6 :: a7 :: a8 :: some (.ref z) :: t) st) : GQ w x P u v n I J R pc (a0 :: a1 :: a2 :: a3 :: a4 :: a5 :: a6 :: a7 :: a8 :: c0 :: t) (.ref z :: st) := gq_astore' hc hd (by exact hp) (show 9 < _ by simp only [List.length_cons]; omega) rfl kk
theorem gq_lstore_9 {a0 a1 a2 a3 a4 a5 a6 a7 a8 : Option Value} {c0 c1 : Option Value} {t : List (Option Value)} {z : Int} (hc : g_OK w x cc nL rt own d) (hd : decode cc pc = .ok (.lstore 9, 2)) (hp : g_c1 [a0, a1, a2, a3, a4, a5, a6, a7, a8] 9 = true) (kk : GQ w x P u v n I J R (pc + 2) (a0 :: a1 :: a2 :: a3 :: a4 :: a5 :: a6 :: a7 :: a8 :: some (gvL z) :: none :: t) st) : GQ w x P u v n I J R pc (a0 :: a1 :: a2 :: a3 :: a4 :: a5 :: a6 :: a7 :: a8 :: c0 :: c1 :: t) (gvL z :: st) := gq_lstore' hc hd (by exact hp) (show 9 + 1 < _ by simp only [List.length_cons]; omega) rfl kk
theorem gq_iinc_9 {a0 a1 a2 a3 a4 a5 a6 a7 a8 : Option Value} {t : List (Option Value)} {z k : Int} (hc : g_OK w x cc nL rt own d) (hd : decode cc pc = .ok (.iinc 9 k, 3)) (hp : g_c1 [a0, a1, a2, a3, a4, a5, a6, a7, a8] 9 = true) (kk : GQ w x P u v n I J R (pc + 3) (a0 :: a1 :: a2 :: a3 :: a4 :: a5 :: a6 :: a7 :: a8 :: some (gvI (z + k)) :: t) st) : GQ w x P u v n I J R pc (a0 :: a1 :: a2 :: a3 :: a4 :: a5 :: a6 :: a7 :: a8 :: some (gvI z) :: t) st := gq_iinc' hc hd (by exact hp) rfl rfl kk
theorem gq_istore_10 {a0 a1 a2 a3 a4 a5 a6 a7 a8 a9 : Option Value} {c0 : Option Value} {t : List (Option Value)} {z : Int} (hc : g_OK w x cc nL rt own d) (hd : decode cc pc = .ok (.istore 10, 2)) (hp : g_c1 [a0, a1, a2, a3, a4, a5, a6, a7, a8, a9] 10 = true) (kk : GQ w x P u v n I J R (pc + 2) (a0 :: a1 :: a2 :: a3 :: a4 :: a5 :: a6 :: a7 :: a8 :: a9 :: some (gvI z) :: t) st) : GQ w x P u v n I J R pc (a0 :: a1 :: a2 :: a3 :: a4 :: a5 :: a6 :: a7 :: a8 :: a9 :: c0 :: t) (gvI z :: st) := gq_istore' hc hd (by exact hp) (show 10 < _ by simp only [List.length_cons]; omega) rfl kk
theorem gq_astore_10 {a0 a1 a2 a3 a4 a5 a6 a7 a8 a9 : Option Value} {c0 : Option Value} {t : List (Option Value)} {z : Nat} (hc : g_OK w x cc nL rt own d) (hd : decode cc pc = .ok (.astore 10, 2)) (hp : g_c1 [a0, a1, a2, a3, a4, a5, a6, a7, a8, a9] 10 = true) (kk : GQ w x P u v n I J R (pc + 2) (a0 :: a1 :: a2 :: a3 :: a4 :: a5 :: a6 :: a7 :: a8 :: a9 :: some (.ref z) :: t) st) : GQ w x P u v n I J R pc (a0 :: a1 :: a2 :: a3 :: a4 :: a5 :: a6 :: a7 :: a8 :: a9 :: c0 :: t) (.ref z :: st) := gq_astore' hc hd (by exact hp) (show 10 < _ by simp only [List.length_cons]; omega) rfl kk
theorem gq_lstore_10 {a0 a1 a2 a3 a4 a5 a6 a7 a8 a9 : Option Value} {c0 c1 : Option Value} {t : List (Option Value)} {z : Int} (hc : g_OK w x cc nL rt own d) (hd : decode cc pc = .ok (.lstore 10, 2)) (hp : g_c1 [a0, a1, a2, a3, a4, a5, a6, a7, a8, a9] 10 = true) (kk : GQ w x P u v n I J R (pc + 2) (a0 :: a1 :: a2 :: a3 :: a4 :: a5 :: a6 :: a7 :: a8 :: a9 :: some (gvL z) :: none :: t) st) : GQ w x P u v n I J R pc (a0 :: a1 :: a2 :: a3 :: a4 :: a5 :: a6 :: a7 :: a8 :: a9 :: c0 :: c1 :: t) (gvL z :: st) := gq_lstore' hc hd (by exact hp) (show 10 + 1 < _ by simp only [List.length_cons]; omega) rfl kk
theorem gq_iinc_10 {a0 a1 a2 a3 a4 a5 a6 a7 a8 a9 : Option Value} {t : List (Option Value)} {z k : Int} (hc : g_OK w x cc nL rt own d) (hd : decode cc pc = .ok (.iinc 10 k, 3)) (hp : g_c1 [a0, a1, a2, a3, a4, a5, a6, a7, a8, a9] 10 = true) (kk : GQ w x P u v n I J R (pc + 3) (a0 :: a1 :: a2 :: a3 :: a4 :: a5 :: a6 :: a7 :: a8 :: a9 :: some (gvI (z + k)) :: t) st) : GQ w x P u v n I J R pc (a0 :: a1 :: a2 :: a3 :: a4 :: a5 :: a6 :: a7 :: a8 :: a9 :: some (gvI z) :: t) st := gq_iinc' hc hd (by exact hp) rfl rfl kk
theorem gq_istore_11 {a0 a1 a2 a3 a4 a5 a6 a7 a8 a9 a10 : Option Value} {c0 : Option Value} {t : List (Option Value)} {z : Int} (hc : g_OK w x cc nL rt own d) (hd : decode cc pc = .ok (.istore 11, 2)) (hp : g_c1 [a0, a1, a2, a3, a4, a5, a6, a7, a8, a9, a10] 11 = true) (kk : GQ w x P u v n I J R (pc + 2) (a0 :: a1 :: a2 :: a3 :: a4 :: a5 :: a6 :: a7 :: a8 :: a9 :: a10 :: some (gvI z) :: t) st) : GQ w x P u v n I J R pc (a0 :: a1 :: a2 :: a3 :: a4 :: a5 :: a6 :: a7 :: a8 :: a9 :: a10 :: c0 :: t) (gvI z :: st) := gq_istore' hc hd (by exact hp) (show 11 < _ by simp only [List.length_cons]; omega) rfl kk
theorem gq_astore_11 {a0 a1 a2 a3 a4 a5 a6 a7 a8 a9 a10 : Option Value} {c0 : Option Value} {t : List (Option Value)} {z : Nat} (hc : g_OK w x cc nL rt own d) (hd : decode cc pc = .ok (.astore 11, 2)) (hp : g_c1 [a0, a1, a2, a3, a4, a5, a6, a7, a8, a9, a10] 11 = true) (kk : GQ w x P u v n I J R (pc + 2) (a0 :: a1 :: a2 :: a3 :: a4 :: a5 :: a6 :: a7 :: a8 :: a9 :: a10 :: some (.ref z) :: t) st) : GQ w x P u v n I J R pc (a0 :: a1 :: a2 :: a3 :: a4 :: a5 :: a6 :: a7 :: a8 :: a9 :: a10 :: c0 :: t) (.ref z :: st) := gq_astore' hc hd (by exact hp) (show 11 < _ by simp only [List.length_cons]; omega) rfl kk
theorem gq_lstore_11 {a0 a1 a2 a3 a4 a5 a6 a7 a8 a9 a10 : Option Value} {c0 c1 : Option Value} {t : List (Option Value)} {z : Int} (hc : g_OK w x cc nL rt own d) (hd : decode cc pc = .ok (.lstore 11, 2)) (hp : g_c1 [a0, a1, a2, a3, a4, a5, a6, a7, a8, a9, a10] 11 = true) (kk : GQ w x P u v n I J R (pc + 2) (a0 :: a1 :: a2 :: a3 :: a4 :: a5 :: a6 :: a7 :: a8 :: a9 :: a10 :: some (gvL z) :: none :: t) st) : GQ w x P u v n I J R pc (a0 :: a1 :: a2 :: a3 :: a4 :: a5 :: a6 :: a7 :: a8 :: a9 :: a10 :: c0 :: c1 :: t) (gvL z :: st) := gq_lstore' hc hd (by exact hp) (show 11 + 1 < _ by simp only [List.length_cons]; omega) rfl kk
theorem gq_iinc_11 {a0 a1 a2 a3 a4 a5 a6 a7 a8 a9 a10 : Option Value} {t : List (Option Value)} {z k : Int} (hc : g_OK w x cc nL rt own d) (hd : decode cc pc = .ok (.iinc 11 k, 3)) (hp : g_c1 [a0, a1, a2, a3, a4, a5, a6, a7, a8, a9, a10] 11 = true) (kk : GQ w x P u v n I J R (pc + 3) (a0 :: a1 :: a2 :: a3 :: a4 :: a5 :: a6 :: a7 :: a8 :: a9 :: a10 :: some (gvI (z + k)) :: t) st) : GQ w x P u v n I J R pc (a0 :: a1 :: a2 :: a3 :: a4 :: a5 :: a6 :: a7 :: a8 :: a9 :: a10 :: some (gvI z) :: t) st := gq_iinc' hc hd (by exact hp) rfl rfl kk
theorem gq_istore_12 {a0 a1 a2 a3 a4 a5 a6 a7 a8 a9 a10 a11 : Option Value} {c0 : Option Value} {t : List (Option Value)} {z : Int} (hc : g_OK w x cc nL rt own d) (hd : decode cc pc = .ok (.istore 12, 2)) (hp : g_c1 [a0, a1, a2, a3, a4, a5, a6, a7, a8, a9, a10, a11] 12 = true) (kk : GQ w x P u v n I J R (pc + 2) (a0 :: a1 :: a2 :: a3 :: a4 :: a5 :: a6 :: a7 :: a8 :: a9 :: a10 :: a11 :: some (gvI z) :: t) st) : GQ w x P u v n I J R pc (a0 :: a1 :: a2 :: a3 :: a4 :: a5 :: a6 :: a7 :: a8 :: a9 :: a10 :: a11 :: c0 :: t) (gvI z :: st) := gq_istore' hc hd (by exact hp) (show 12 < _ by simp only [List.length_cons]; omega) rfl kk
theorem gq_astore_12 {a0 a1 a2 a3 a4 a5 a6 a7 a8 a9 a10 a11 : Option Value} {c0 : Option Value} {t : List (Option Value)} {z : Nat} (hc : g_OK w x cc nL rt own d) (hd : decode cc pc = .ok (.astore 12, 2)) (hp : g_c1 [a0, a1, a2, a3, a4, a5, a6, a7, a8, a9, a10, a11] 12 = true) (kk : GQ w x P u v n I J R (pc + 2) (a0 :: a1 :: a2 :: a3 :: a4 :: a5 :: a6 :: a7 :: a8 :: a9 :: a10 :: a11 :: some (.ref z) :: t) st) : GQ w x P u v n I J R pc (a0 :: a1 :: a2 :: a3 :: a4 :: a5 :: a6 :: a7 :: a8 :: a9 :: a10 :: a11 :: c0 :: t) (.ref z :: st) := gq_astore' hc hd (by exact hp) (show 12 < _ by simp only [List.length_cons]; omega) rfl kk
theorem gq_lstore_12 {a0 a1 a2 a3 a4 a5 a6 a7 a8 a9 a10 a11 : Option Value} {c0 c1 : Option Value} {t : List (Option Value)} {z : Int} (hc : g_OK w x cc nL rt own d) (hd : decode cc pc = .ok (.lstore 12, 2)) (hp : g_c1 [a0, a1, a2, a3, a4, a5, a6, a7, a8, a9, a10, a11] 12 = true) (kk : GQ w x P u v n I J R (pc + 2) (a0 :: a1 :: a2 :: a3 :: a4 :: a5 :: a6 :: a7 :: a8 :: a9 :: a10 :: a11 :: some (gvL z) :: none :: t) st) : GQ w x P u v n I J R pc (a0 :: a1 :: a2 :: a3 :: a4 :: a5 :: a6 :: a7 :: a8 :: a9 :: a10 :: a11 :: c0 :: c1 :: t) (gvL z :: st) := gq_lstore' hc hd (by exact hp) (show 12 + 1 < _ by simp only [List.length_cons]; omega) rfl kk
theorem gq_iinc_12 {a0 a1 a2 a3 a4 a5 a6 a7 a8 a9 a10 a11 : Option Value} {t : List (Option Value)} {z k : Int} (hc : g_OK w x cc nL rt own d) (hd : decode cc pc = .ok (.iinc 12 k, 3)) (hp : g_c1 [a0, a1, a2, a3, a4, a5, a6, a7, a8, a9, a10, a11] 12 = true) (kk : GQ w x P u v n I J R (pc + 3) (a0 :: a1 :: a2 :: a3 :: a4 :: a5 :: a6 :: a7 :: a8 :: a9 :: a10 :: a11 :: some (gvI (z + k)) :: t) st) : GQ w x P u v n I J R pc (a0 :: a1 :: a2 :: a3 :: a4 :: a5 :: a6 :: a7 :: a8 :: a9 :: a10 :: a11 :: some (gvI z) :: t) st := gq_iinc' hc hd (by exact hp) rfl rfl kk
theorem gq_istore_13 {a0 a1 a2 a3 a4 a5 a6 a7 a8 a9 a10 a11 a12 : Option Value} {c0 : Option Value} {t : List (Option Value)} {z : Int} (hc : g_OK w x cc nL rt own d) (hd : decode cc pc = .ok (.istore 13, 2)) (hp : g_c1 [a0, a1, a2, a3, a4, a5, a6, a7, a8, a9, a10, a11, a12] 13 = true) (kk : GQ w x P u v n I J R (pc + 2) (a0 :: a1 :: a2 :: a3 :: a4 :: a5 :: a6 :: a7 :: a8 :: a9 :: a10 :: a11 :: a12 :: some (gvI z) :: t) st) : GQ w x P u v n I J R pc (a0 :: a1 :: a2 :: a3 :: a4 :: a5 :: a6 :: a7 :: a8 :: a9 :: a10 :: a11 :: a12 :: c0 :: t) (gvI z :: st) := gq_istore' hc hd (by exact hp) (show 13 < _ by simp only [List.length_cons]; omega) rfl kk
theorem gq_astore_13 {a0 a1 a2 a3 a4 a5 a6 a7 a8 a9 a10 a11 a12 : Option Value} {c0 : Option Value} {t : List (Option Value)} {z : Nat} (hc : g_OK w x cc nL rt own d) (hd : decode cc pc = .ok (.astore 13, 2)) (hp : g_c1 [a0, a1, a2, a3, a4, a5, a6, a7, a8, a9, a10, a11, a12] 13 = true) (kk : GQ w x P u v n I J R (pc + 2) (a0 :: a1 :: a2 :: a3 :: a4 :: a5 :: a6 :: a7 :: a8 :: a9 :: a10 :: a11 :: a12 :: some (.ref z) :: t) st) : GQ w x P u v n I J R pc (a0 :: a1 :: a2 :: a3 :: a4 :: a5 :: a6 :: a7 :: a8 :: a9 :: a10 :: a11 :: a12 :: c0 :: t) (.ref z :: st) := gq_astore' hc hd (by exact hp) (show 13 < _ by simp only [List.length_cons]; omega) rfl kk
theorem gq_lstore_13 {a0 a1 a2 a3 a4 a5 a6 a7 a8 a9 a10 a11 a12 : Option Value} {c0 c1 : Option Value} {t : List (Option Value)} {z : Int} (hc : g_OK w x cc nL rt own d) (hd : decode cc pc = .ok (.lstore 13, 2)) (hp : g_c1 [a0, a1, a2, a3, a4, a5, a6, a7, a8, a9, a10, a11, a12] 13 = true) (kk : GQ w x P u v n I J R (pc + 2) (a0 :: a1 :: a2 :: a3 :: a4 :: a5 :: a6 :: a7 :: a8 :: a9 :: a10 :: a11 :: a12 :: some (gvL z) :: none :: t) st) : GQ w x P u v n I J R pc (a0 :: a1 :: a2 :: a3 :: a4 :: a5 :: a6 :: a7 :: a8 :: a9 :: a10 :: a11 :: a12 :: c0 :: c1 :: t) (gvL z :: st) := gq_lstore' hc hd (by exact hp) (show 13 + 1 < _ by simp only [List.length_cons]; omega) rfl kk
theorem gq_iinc_13 {a0 a1 a2 a3 a4 a5 a6 a7 a8 a9 a10 a11 a12 : Option Value} {t : List (Option Value)} {z k : Int} (hc : g_OK w x cc nL rt own d) (hd : decode cc pc = .ok (.iinc 13 k, 3)) (hp : g_c1 [a0, a1, a2, a3, a4, a5, a6, a7, a8, a9, a10, a11, a12] 13 = true) (kk : GQ w x P u v n I J R (pc + 3) (a0 :: a1 :: a2 :: a3 :: a4 :: a5 :: a6 :: a7 :: a8 :: a9 :: a10 :: a11 :: a12 :: some (gvI (z + k)) :: t) st) : GQ w x P u v n I J R pc (a0 :: a1 :: a2 :: a3 :: a4 :: a5 :: a6 :: a7 :: a8 :: a9 :: a10 :: a11 :: a12 :: some (gvI z) :: t) st := gq_iinc' hc hd (by exact hp) rfl rfl kk
theorem gq_istore_14 {a0 a1 a2 a3 a4 a5 a6 a7 a8 a9 a10 a11 a12 a13 : Option Value} {c0 : Option Value} {t : List (Option Value)} {z : Int} (hc : g_OK w x cc nL rt own d) (hd : decode cc pc = .ok (.istore 14, 2)) (hp : g_c1 [a0, a1, a2, a3, a4, a5, a6, a7, a8, a9, a10, a11, a12, a13] 14 = true) (kk : GQ w x P u v n I J R (pc + 2) (a0 :: a1 :: a2 :: a3 :: a4 :: a5 :: a6 :: a7 :: a8 :: a9 :: a10 :: a11 :: a12 :: a13 :: some (gvI z) :: t) st) : GQ w x P u v n I J R pc (a0 :: a1 :: a2 :: a3 :: a4 :: a5 :: a6 :: a7 :: a8 :: a9 :: a10 :: a11 :: a12 :: a13 :: c0 :: t) (gvI z :: st) := gq_istore' hc hd (by exact hp) (show 14 < _ by simp only [List.length_cons]; omega) rfl kk
theorem gq_astore_14 {a0 a1 a2 a3 a4 a5 a6 a7 a8 a9 a10 a11 a12 a13 : Option Value} {c0 : Option Value} {t : List (Option Value)} {z : Nat} (hc : g_OK w x cc nL rt own d) (hd : decode cc pc = .ok (.astore 14, 2)) (hp : g_c1 [a0, a1, a2, a3, a4, a5, a6, a7, a8, a9, a10, a11, a12, a13] 14 = true) (kk : GQ w x P u v n I J R (pc + 2) (a0 :: a1 :: a2 :: a3 :: a4 :: a5 :: a6 :: a7 :: a8 :: a9 :: a10 :: a11 :: a12 :: a13 :: some (.ref z) :: t) st) : GQ w x P u v n I J R pc (a0 :: a1 :: a2 :: a3 :: a4 :: a5 :: a6 :: a7 :: a8 :: a9 :: a10 :: a11 :: a12 :: a13 :: c0 :: t) (.ref z :: st) := gq_astore' hc hd (by exact hp) (show 14 < _ by simp only [List.length_cons]; omega) rfl kk
theorem gq_lstore_14 {a0 a1 a2 a3 a4 a5 a6 a7 a8 a9 a10 a11 a12 a13 : Option Value} {c0 c1 : Option Value} {t : List (Option Value)} {z : Int} (hc : g_OK w x cc nL rt own d) (hd : decode cc pc = .ok (.lstore 14, 2)) (hp : g_c1 [a0, a1, a2, a3, a4, a5, a6, a7, a8, a9, a10, a11, a12, a13] 14 = true) (kk : GQ w x P u v n I J R (pc + 2) (a0 :: a1 :: a2 :: a3 :: a4 :: a5 :: a6 :: a7 :: a8 :: a9 :: a10 :: a11 :: a12 :: a13 :: some (gvL z) :: none :: t) st) : GQ w x P u v n I J R pc (a0 :: a1 :: a2 :: a3 :: a4 :: a5 :: a6 :: a7 :: a8 :: a9 :: a10 :: a11 :: a12 :: a13 :: c0 :: c1 :: t) (gvL z :: st) := gq_lstore' hc hd (by exact hp) (show 14 + 1 < _ by simp only [List.length_cons]; omega) rfl kk
theorem gq_iinc_14 {a0 a1 a2 a3 a4 a5 a6 a7 a8 a9 a10 a11 a12 a13 : Option Value} {t : List (Option Value)} {z k : Int} (hc : g_OK w x cc nL rt own d) (hd : decode cc pc = .ok (.iinc 14 k, 3)) (hp : g_c1 [a0, a1, a2, a3, a4, a5, a6, a7, a8, a9, a10, a11, a12, a13] 14 = true) (kk : GQ w x P u v n I J R (pc + 3) (a0 :: a1 :: a2 :: a3 :: a4 :: a5 :: a6 :: a7 :: a8 :: a9 :: a10 :: a11 :: a12 :: a13 :: some (gvI (z + k)) :: t) st) : GQ w x P u v n I J R pc (a0 :: a1 :: a2 :: a3 :: a4 :: a5 :: a6 :: a7 :: a8 :: a9 :: a10 :: a11 :: a12 :: a13 :: some (gvI z) :: t) st := gq_iinc' hc hd (by exact hp) rfl rfl kk
theorem gq_istore_15 {a0 a1 a2 a3 a4 a5 a6 a7 a8 a9 a10 a11 a12 a13 a14 : Option Value} {c0 : Option Value} {t : List (Option Value)} {z : Int} (hc : g_OK w x cc nL rt own d) (hd : decode cc pc = .ok (.istore 15, 2)) (hp : g_c1 [a0, a1, a2, a3, a4, a5, a6, a7, a8, a9, a10, a11, a12, a13, a14] 15 = true) (kk : GQ w x P u v n I J R (pc + 2) (a0 :: a1 :: a2 :: a3 :: a4 :: a5 :: a6 :: a7 :: a8 :: a9 :: a10 :: a11 :: a12 :: a13 :: a14 :: some (gvI z) :: t) st) : GQ w x P u v n I J R pc (a0 :: a1 :: a2 :: a3 :: a4 :: a5 :: a6 :: a7 :: a8 :: a9 :: a10 :: a11 :: a12 :: a13 :: a14 :: c0 :: t) (gvI z :: st) := gq_istore' hc hd (by exact hp) (show 15 < _ by simp only [List.length_cons]; omega) rfl kk
theorem gq_astore_15 {a0 a1 a2 a3 a4 a5 a6 a7 a8 a9 a10 a11 a12 a13 a14 : Option Value} {c0 : Option Value} {t : List (Option Value)} {z : Nat} (hc : g_OK w x cc nL rt own d) (hd : decode cc pc = .ok (.astore 15, 2)) (hp : g_c1 [a0, a1, a2, a3, a4, a5, a6, a7, a8, a9, a10, a11, a12, a13, a14] 15 = true) (kk : GQ w x P u v n I J R (pc + 2) (a0 :: a1 :: a2 :: a3 :: a4 :: a5 :: a6 :: a7 :: a8 :: a9 :: a10 :: a11 :: a12 :: a13 :: a14 :: some (.ref z) :: t) st) : GQ w x P u v n I J R pc (a0 :: a1 :: a2 :: a3 :: a4 :: a5 :: a6 :: a7 :: a8 :: a9 :: a10 :: a11 :: a12 :: a13 :: a14 :: c0 :: t) (.ref z :: st) := gq_astore' hc hd (by exact hp) (show 15 < _ by simp only [List.length_cons]; omega) rfl kk
theorem gq_lstore_15 {a0 a1 a2 a3 a4 a5 a6 a7 a8 a9 a10 a11 a12 a13 a14 : Option Value} {c0 c1 : Option Value} {t : List (Option Value)} {z : Int} (hc : g_OK w x cc nL rt own d) (hd : decode cc pc = .ok (.lstore 15, 2)) (hp : g_c1 [a0, a1, a2, a3, a4, a5, a6, a7, a8, a9, a10, a11, a12, a13, a14] 15 = true) (kk : GQ w x P u v n I J R (pc + 2) (a0 :: a1 :: a2 :: a3 :: a4 :: a5 :: a6 :: a7 :: a8 :: a9 :: a10 :: a11 :: a12 :: a13 :: a14 :: some (gvL z) :: none :: t) st) : GQ w x P u v n I J R pc (a0 :: a1 :: a2 :: a3 :: a4 :: a5 :: a6 :: a7 :: a8 :: a9 :: a10 :: a11 :: a12 :: a13 :: a14 :: c0 :: c1 :: t) (gvL z :: st) := gq_lstore' hc hd (by exact hp) (show 15 + 1 < _ by simp only [List.length_cons]; omega) rfl kk
theorem gq_iinc_15 {a0 a1 a2 a3 a4 a5 a6 a7 a8 a9 a10 a11 a12 a13 a14 : Option Value} {t : List (Option Value)} {z k : Int} (hc : g_OK w x cc nL rt own d) (hd : decode cc pc = .ok (.iinc 15 k, 3)) (hp : g_c1 [a0, a1, a2, a3, a4, a5, a6, a7, a8, a9, a10, a11, a12, a13, a14] 15 = true) (kk : GQ w x P u v n I J R (pc + 3) (a0 :: a1 :: a2 :: a3 :: a4 :: a5 :: a6 :: a7 :: a8 :: a9 :: a10 :: a11 :: a12 :: a13 :: a14 :: some (gvI (z + k)) :: t) st) : GQ w x P u v n I J R pc (a0 :: a1 :: a2 :: a3 :: a4 :: a5 :: a6 :: a7 :: a8 :: a9 :: a10 :: a11 :: a12 :: a13 :: a14 :: some (gvI z) :: t) st := gq_iinc' hc hd (by exact hp) rfl rfl kk
theorem gq_istore_16 {a0 a1 a2 a3 a4 a5 a6 a7 a8 a9 a10 a11 a12 a13 a14 a15 : Option Value} {c0 : Option Value} {t : List (Option Value)} {z : Int} (hc : g_OK w x cc nL rt own d) (hd : decode cc pc = .ok (.istore 16, 2)) (hp : g_c1 [a0, a1, a2, a3, a4, a5, a6, a7, a8, a9, a10, a11, a12, a13, a14, a15] 16 = true) (kk : GQ w x P u v n I J R (pc + 2) (a0 :: a1 :: a2 :: a3 :: a4 :: a5 :: a6 :: a7 :: a8 :: a9 :: a10 :: a11 :: a12 :: a13 :: a14 :: a15 :: some (gvI z) :: t) st) : GQ w x P u v n I J R pc (a0 :: a1 :: a2 :: a3 :: a4 :: a5 :: a6 :: a7 :: a8 :: a9 :: a10 :: a11 :: a12 :: a13 :: a14 :: a15 :: c0 :: t) (gvI z :: st) := gq_istore' hc hd (by exact hp) (show 16 < _ by simp only [List.length_cons]; omega) rfl kk
theorem gq_astore_16 {a0 a1 a2 a3 a4 a5 a6 a7 a8 a9 a10 a11 a12 a13 a14 a15 : Option Value} {c0 : Option Value} {t : List (Option Value)} {z : Nat} (hc : g_OK w x cc nL rt own d) (hd : decode cc pc = .ok (.astore 16, 2)) (hp : g_c1 [a0, a1, a2, a3, a4, a5, a6, a7, a8, a9, a10, a11, a12, a13, a14, a15] 16 = true) (kk : GQ w x P u v n I J R (pc + 2) (a0 :: a1 :: a2 :: a3 :: a4 :: a5 :: a6 :: a7 :: a8 :: a9 :: a10 :: a11 :: a12 :: a13 :: a14 :: a15 :: some (.ref z) :: t) st) : GQ w x P u v n I J R pc (a0 :: a1 :: a2 :: a3 :: a4 :: a5 :: a6 :: a7 :: a8 :: a9 :: a10 :: a11 :: a12 :: a13 :: a14 :: a15 :: c0 :: t) (.ref z :: st) := gq_astore' hc hd (by exact hp) (show 16 < _ by simp only [List.length_cons]; omega) rfl kk
theorem gq_lstore_16 {a0 a1 a2 a3 a4 a5 a6 a7 a8 a9 a10 a11 a12 a13 a14 a15 : Option Value} {c0 c1 : Option Value} {t : List (Option Value)} {z : Int} (hc : g_OK w x cc nL rt own d) (hd : decode cc pc = .ok (.lstore 16, 2)) (hp : g_c1 [a0, a1, a2, a3, a4, a5, a6, a7, a8, a9, a10, a11, a12, a13, a14, a15] 16 = true) (kk : GQ w x P u v n I J R (pc + 2) (a0 :: a1 :: a2 :: a3 :: a4 :: a5 :: a6 :: a7 :: a8 :: a9 :: a10 :: a11 :: a12 :: a13 :: a14 :: a15 :: some (gvL z) :: none :: t) st) : GQ w x P u v n I J R pc (a0 :: a1 :: a2 :: a3 :: a4 :: a5 :: a6 :: a7 :: a8 :: a9 :: a10 :: a11 :: a12 :: a13 :: a14 :: a15 :: c0 :: c1 :: t) (gvL z :: st) := gq_lstore' hc hd (by exact hp) (show 16 + 1 < _ by simp only [List.length_cons]; omega) rfl kk
theorem gq_iinc_16 {a0 a1 a2 a3 a4 a5 a6 a7 a8 a9 a10 a11 a12 a13 a14 a15 : Option Value} {t : List (Option Value)} {z k : Int} (hc : g_OK w x cc nL rt own d) (hd : decode cc pc = .ok (.iinc 16 k, 3)) (hp : g_c1 [a0, a1, a2, a3, a4, a5, a6, a7, a8, a9, a10, a11, a12, a13, a14, a15] 16 = true) (kk : GQ w x P u v n I J R (pc + 3) (a0 :: a1 :: a2 :: a3 :: a4 :: a5 :: a6 :: a7 :: a8 :: a9 :: a10 :: a11 :: a12 :: a13 :: a14 :: a15 :: some (gvI (z + k)) :: t) st) : GQ w x P u v n I J R pc (a0 :: a1 :: a2 :: a3 :: a4 :: a5 :: a6 :: a7 :: a8 :: a9 :: a10 :: a11 :: a12 :: a13 :: a14 :: a15 :: some (gvI z) :: t) st := gq_iinc' hc hd (by exact hp) rfl rfl kk
theorem gq_istore_17 {a0 a1 a2 a3 a4 a5 a6 a7 a8 a9 a10 a11 a12 a13 a14 a15 a16 : Option Value} {c0 : Option Value} {t : List (Option Value)} {z : Int} (hc : g_OK w x cc nL rt own d) (hd : decode cc pc = .ok (.istore 17, 2)) (hp : g_c1 [a0, a1, a2, a3, a4, a5, a6, a7, a8, a9, a10, a11, a12, a13, a14, a15, a16] 17 = true) (kk : GQ w x P u v n I J R (pc + 2) (a0 :: a1 :: a2 :: a3 :: a4 :: a5 :: a6 :: a7 :: a8 :: a9 :: a10 :: a11 :: a12 :: a13 :: a14 :: a15 :: a16 :: some (gvI z) :: t) st) : GQ w x P u v n I J R pc (a0 :: a1 :: a2 :: a3 :: a4 :: a5 :: a6 :: a7 :: a8 :: a9 :: a10 :: a11 :: a12 :: a13 :: a14 :: a15 :: a16 :: c0 :: t) (gvI z :: st) := gq_istore' hc hd (by exact hp) (show 17 < _ by simp only [List.length_cons]; omega) rfl kk
theorem gq_astore_17 {a0 a1 a2 a3 a4 a5 a6 a7 a8 a9 a10 a11 a12 a13 a14 a15 a16 : Option Value} {c0 : Option Value} {t : List (Option Value)} {z : Nat} (hc : g_OK w x cc nL rt own d) (hd : decode cc pc = .ok (.astore 17, 2)) (hp : g_c1 [a0, a1, a2, a3, a4, a5, a6, a7, a8, a9, a10, a11, a12, a13, a14, a15, a16] 17 = true) (kk : GQ w x P u v n I J R (pc + 2) (a0 :: a1 :: a2 :: a3 :: a4 :: a5 :: a6 :: a7 :: a8 :: a9 :: a10 :: a11 :: a12 :: a13 :: a14 :: a15 :: a16 :: some (.ref z) :: t) st) : GQ w x P u v n I J R pc (a0 :: a1 :: a2 :: a3 :: a4 :: a5 :: a6 :: a7 :: a8 :: a9 :: a10 :: a11 :: a12 :: a13 :: a14 :: a15 :: a16 :: c0 :: t) (.ref z :: st) := gq_astore' hc hd (by exact hp) (show 17 < _ by simp only [List.length_cons]; omega) rfl kk
theorem gq_lstore_17 {a0 a1 a2 a3 a4 a5 a6 a7 a8 a9 a10 a11 a12 a13 a14 a15 a16 : Option Value} {c0 c1 : Option Value} {t : List (Option Value)} {z : Int} (hc : g_OK w x cc nL rt own d) (hd : decode cc pc = .ok (.lstore 17, 2)) (hp : g_c1 [a0, a1, a2, a3, a4, a5, a6, a7, a8, a9, a10, a11, a12, a13, a14, a15, a16] 17 = true) (kk : GQ w x P u v n I J R (pc + 2) (a0 :: a1 :: a2 :: a3 :: a4 :: a5 :: a6 :: a7 :: a8 :: a9 :: a10 :: a11 :: a12 :: a13 :: a14 :: a15 :: a16 :: some (gvL z) :: none :: t) st) : GQ w x P u v n I J R pc (a0 :: a1 :: a2 :: a3 :: a4 :: a5 :: a6 :: a7 :: a8 :: a9 :: a10 :: a11 :: a12 :: a13 :: a14 :: a15 :: a16 :: c0 :: c1 :: t) (gvL z :: st) := gq_lstore' hc hd (by exact hp) (show 17 + 1 < _ by simp only [List.length_cons]; omega) rfl kk
theorem gq_iinc_17 {a0 a1 a2 a3 a4 a5 a6 a7 a8 a9 a10 a11 a12 a13 a14 a15 a16 : Option Value} {t : List (Option Value)} {z k : Int} (hc : g_OK w x cc nL rt own d) (hd : decode cc pc = .ok (.iinc 17 k, 3)) (hp : g_c1 [a0, a1, a2, a3, a4, a5, a6, a7, a8, a9, a10, a11, a12, a13, a14, a15, a16] 17 = true) (kk : GQ w x P u v n I J R (pc + 3) (a0 :: a1 :: a2 :: a3 :: a4 :: a5 :: a6 :: a7 :: a8 :: a9 :: a10 :: a11 :: a12 :: a13 :: a14 :: a15 :: a16 :: some (gvI (z + k)) :: t) st) : GQ w x P u v n I J R pc (a0 :: a1 :: a2 :: a3 :: a4 :: a5 :: a6 :: a7 :: a8 :: a9 :: a10 :: a11 :: a12 :: a13 :: a14 :: a15 :: a16 :: some (gvI z) :: t) st := gq_iinc' hc hd (by exact hp) rfl rfl kk
theorem gq_istore_18 {a0 a1 a2 a3 a4 a5 a6 a7 a8 a9 a10 a11 a12 a13 a14 a15 a16 a17 : Option Value} {c0 : Option Value} {t : List (Option Value)} {z : Int} (hc : g_OK w x cc nL rt own d) (hd : decode cc pc = .ok (.istore 18, 2)) (hp : g_c1 [a0, a1, a2, a3, a4, a5, a6, a7, a8, a9, a10, a11, a12, a13, a14, a15, a16, a17] 18 = true) (kk : GQ w x P u v n I J R (pc + 2) (a0 :: a1 :: a2 :: a3 :: a4 :: a5 :: a6 :: a7 :: a8 :: a9 :: a10 :: a11 :: a12 :: a13 :: a14 :: a15 :: a16 :: a17 :: some (gvI z) :: t) st) : GQ w x P u v n I J R pc (a0 :: a1 :: a2 :: a3 :: a4 :: a5 :: a6 :: a7 :: a8 :: a9 :: a10 :: a11 :: a12 :: a13 :: a14 :: a15 :: a16 :: a17 :: c0 :: t) (gvI z :: st) := gq_istore' hc hd (by exact hp) (show 18 < _ by simp only [List.length_cons]; omega) rfl kk
theorem gq_astore_18 {a0 a1 a2 a3 a4 a5 a6 a7 a8 a9 a10 a11 a12 a13 a14 a15 a16 a17 : Option Value} {c0 : Option Value} {t : List (Option Value)} {z : Nat} (hc : g_OK w x cc nL rt own d) (hd : decode cc pc = .ok (.astore 18, 2)) (hp : g_c1 [a0, a1, a2, a3, a4, a5, a6, a7, a8, a9, a10, a11, a12, a13, a14, a15, a16, a17] 18 = true) (kk : GQ w x P u v n I J R (pc + 2) (a0 :: a1 :: a2 :: a3 :: a4 :: a5 :: a6 :: a7 :: a8 :: a9 :: a10 :: a11 :: a12 :: a13 :: a14 :: a15 :: a16 :: a17 :: some (.ref z) :: t) st) : GQ w x P u v n I J R pc (a0 :: a1 :: a2 :: a3 :: a4 :: a5 :: a6 :: a7 :: a8 :: a9 :: a10 :: a11 :: a12 :: a13 :: a14 :: a15 :: a16 :: a17 :: c0 :: t) (.ref z :: st) := gq_astore' hc hd (by exact hp) (show 18 < _ by simp only [List.length_cons]; omega) rfl kk
theorem gq_lstore_18 {a0 a1 a2 a3 a4 a5 a6 a7 a8 a9 a10 a11 a12 a13 a14 a15 a16 a17 : Option Value} {c0 c1 : Option Value} {t : List (Option Value)} {z : Int} (hc : g_OK w x cc nL rt own d) (hd : decode cc pc = .ok (.lstore 18, 2)) (hp : g_c1 [a0, a1, a2, a3, a4, a5, a6, a7, a8, a9, a10, a11, a12, a13, a14, a15, a16, a17] 18 = true) (kk : GQ w x P u v n I J R (pc + 2) (a0 :: a1 :: a2 :: a3 :: a4 :: a5 :: a6 :: a7 :: a8 :: a9 :: a10 :: a11 :: a12 :: a13 :: a14 :: a15 :: a16 :: a17 :: some (gvL z) :: none :: t) st) : GQ w x P u v n I J R pc (a0 :: a1 :: a2 :: a3 :: a4 :: a5 :: a6 :: a7 :: a8 :: a9 :: a10 :: a11 :: a12 :: a13 :: a14 :: a15 :: a16 :: a17 :: c0 :: c1 :: t) (gvL z :: st) := gq_lstore' hc hd (by exact hp) (show 18 + 1 < _ by simp only [List.length_cons]; omega) rfl kk
theorem gq_iinc_18 {a0 a1 a2 a3 a4 a5 a6 a7 a8 a9 a10 a11 a12 a13 a14 a15 a16 a17 : Option Value} {t : List (Option Value)} {z k : Int} (hc : g_OK w x cc nL rt own d) (hd : decode cc pc = .ok (.iinc 18 k, 3)) (hp : g_c1 [a0, a1, a2, a3, a4, a5, a6, a7, a8, a9, a10, a11, a12, a13, a14, a15, a16, a17] 18 = true) (kk : GQ w x P u v n I J R (pc + 3) (a0 :: a1 :: a2 :: a3 :: a4 :: a5 :: a6 :: a7 :: a8 :: a9 :: a10 :: a11 :: a12 :: a13 :: a14 :: a15 :: a16 :: a17 :: some (gvI (z + k)) :: t) st) : GQ w x P u v n I J R pc (a0 :: a1 :: a2 :: a3 :: a4 :: a5 :: a6 :: a7 :: a8 :: a9 :: a10 :: a11 :: a12 :: a13 :: a14 :: a15 :: a16 :: a17 :: some (gvI z) :: t) st := gq_iinc' hc hd (by exact hp) rfl rfl kk
theorem gq_istore_19 {a0 a1 a2 a3 a4 a5 a6 a7 a8 a9 a10 a11 a12 a13 a14 a15 a16 a17 a18 : Option Value} {c0 : Option Value} {t : List (Option Value)} {z : Int} (hc : g_OK w x cc nL rt own d) (hd : decode cc pc = .ok (.istore 19, 2)) (hp : g_c1 [a0, a1, a2, a3, a4, a5, a6, a7, a8, a9, a10, a11, a12, a13, a14, a15, a16, a17, a18] 19 = true) (kk : GQ w x P u v n I J R (pc + 2) (a0 :: a1 :: a2 :: a3 :: a4 :: a5 :: a6 :: a7 :: a8 :: a9 :: a10 :: a11 :: a12 :: a13 :: a14 :: a15 :: a16 :: a17 :: a18 :: some (gvI z) :: t) st) : GQ w x P u v n I J R pc (a0 :: a1 :: a2 :: a3 :: a4 :: a5 :: a6 :: a7 :: a8 :: a9 :: a10 :: a11 :: a12 :: a13 :: a14 :: a15 :: a16 :: a17 :: a18 :: c0 :: t) (gvI z :: st) := gq_istore' hc hd (by exact hp) (show 19 < _ by simp only [List.length_cons]; omega) rfl kk
theorem gq_astore_19 {a0 a1 a2 a3 a4 a5 a6 a7 a8 a9 a10 a11 a12 a13 a14 a15 a16 a17 a18 : Option Value} {c0 : Option Value} {t : List (Option Value)} {z : Nat} (hc : g_OK w x cc nL rt own d) (hd : decode cc pc = .ok (.astore 19, 2)) (hp : g_c1 [a0, a1, a2, a3, a4, a5, a6, a7, a8, a9, a10, a11, a12, a13, a14, a15, a16, a17, a18] 19 = true) (kk : GQ w x P u v n I J R (pc + 2) (a0 :: a1 :: a2 :: a3 :: a4 :: a5 :: a6 :: a7 :: a8 :: a9 :: a10 :: a11 :: a12 :: a13 :: a14 :: a15 :: a16 :: a17 :: a18 :: some (.ref z) :: t) st) : GQ w x P u v n I J R pc (a0 :: a1 :: a2 :: a3 :: a4 :: a5 :: a6 :: a7 :: a8 :: a9 :: a10 :: a11 :: a12 :: a13 :: a14 :: a15 :: a16 :: a17 :: a18 :: c0 :: t) (.ref z :: st) := gq_astore' hc hd (by exact hp) (show 19 < _ by simp only [List.length_cons]; omega) rfl kk
theorem gq_lstore_19 {a0 a1 a2 a3 a4 a5 a6 a7 a8 a9 a10 a11 a12 a13 a14 a15 a16 a17 a18 : Option Value} {c0 c1 : Option Value} {t : List (Option Value)} {z : Int} (hc : g_OK w x cc nL rt own d) (hd : decode cc pc = .ok (.lstore 19, 2)) (hp : g_c1 [a0, a1, a2, a3, a4, a5, a6, a7, a8, a9, a10, a11, a12, a13, a14, a15, a16, a17, a18] 19 = true) (kk : GQ w x P u v n I J R (pc + 2) (a0 :: a1 :: a2 :: a3 :: a4 :: a5 :: a6 :: a7 :: a8 :: a9 :: a10 :: a11 :: a12 :: a13 :: a14 :: a15 :: a16 :: a17 :: a18 :: some (gvL z) :: none :: t) st) : GQ w x P u v n I J R pc (a0 :: a1 :: a2 :: a3 :: a4 :: a5 :: a6 :: a7 :: a8 :: a9 :: a10 :: a11 :: a12 :: a13 :: a14 :: a15 :: a16 :: a17 :: a18 :: c0 :: c1 :: t) (gvL z :: st) := gq_lstore' hc hd (by exact hp) (show 19 + 1 < _ by simp only [List.length_cons]; omega) rfl kk
theorem gq_iinc_19 {a0 a1 a2 a3 a4 a5 a6 a7 a8 a9 a10 a11 a12 a13 a14 a15 a16 a17 a18 : Option Value} {t : List (Option Value)} {z k : Int} (hc : g_OK w x cc nL rt own d) (hd : decode cc pc = .ok (.iinc 19 k, 3)) (hp : g_c1 [a0, a1, a2, a3, a4, a5, a6, a7, a8, a9, a10, a11, a12, a13, a14, a15, a16, a17, a18] 19 = true) (kk : GQ w x P u v n I J R (pc + 3) (a0 :: a1 :: a2 :: a3 :: a4 :: a5 :: a6 :: a7 :: a8 :: a9 :: a10 :: a11 :: a12 :: a13 :: a14 :: a15 :: a16 :: a17 :: a18 :: some (gvI (z + k)) :: t) st) : GQ w x P u v n I J R pc (a0 :: a1 :: a2 :: a3 :: a4 :: a5 :: a6 :: a7 :: a8 :: a9 :: a10 :: a11 :: a12 :: a13 :: a14 :: a15 :: a16 :: a17 :: a18 :: some (gvI z) :: t) st := gq_iinc' hc hd (by exact hp) rfl rfl kk
theorem gq_icmp_eq {a b : Int} {off : Int} {tgt : Nat} (hc : g_OK w x cc nL rt own d) (hd : decode cc pc = .ok (.if_icmp .eq off, 3)) (ht : (pc : Int) + off = (tgt : Int)) (ha : g32 a) (hb2 : g32 b) (kt : a = b → GQ w x P u v n I J R tgt L st) (kf : ¬ a = b → GQ w x P u v n I J R (pc + 3) L st) : GQ w x P u v n I J R pc L (gvI b :: gvI a :: st) := by
  obtain ⟨p, e, Rm, s, m, args, below, meth, c, mc, ms⟩ := x
  obtain ⟨hx, hb, hml, hr, hown, hts, hK, hsta, hlk, hsz, hRm⟩ := hc
  exact fun H locs ls hP hS hl => lv_icmp_eq hx hb hd ht (fun q => kt ((g_eqI ha hb2).mp q) H locs ls hP hS hl) (fun q => kf (fun z => q ((g_eqI ha hb2).mpr z)) H locs ls hP hS hl)
theorem gq_if_eq {a : Int} {off : Int} {tgt : Nat} (hc : g_OK w x cc nL rt own d) (hd : decode cc pc = .ok (.ifCond .eq off, 3)) (ht : (pc : Int) + off = (tgt : Int)) (ha : g32 a) (kt : a = 0 → GQ w x P u v n I J R tgt L st) (kf : ¬ a = 0 → GQ w x P u v n I J R (pc + 3) L st) : GQ w x P u v n I J R pc L (gvI a :: st) := by
  obtain ⟨p, e, Rm, s, m, args, below, meth, c, mc, ms⟩ := x
  obtain ⟨hx, hb, hml, hr, hown, hts, hK, hsta, hlk, hsz, hRm⟩ := hc
  exact fun H locs ls hP hS hl => lv_if_eq hx hb hd ht (fun q => kt ((g_eqI ha (show g32 0 from ⟨by decide, by decide⟩)).mp q) H locs ls hP hS hl) (fun q => kf (fun z => q ((g_eqI ha (show g32 0 from ⟨by decide, by decide⟩)).mpr z)) H locs ls hP hS hl)
theorem gq_icmp_ne {a b : Int} {off : Int} {tgt : Nat} (hc : g_OK w x cc nL rt own d) (hd : decode cc pc = .ok (.if_icmp .ne off, 3)) (ht : (pc : Int) + off = (tgt : Int)) (ha : g32 a) (hb2 : g32 b) (kt : ¬ a = b → GQ w x P u v n I J R tgt L st) (kf : a = b → GQ w x P u v n I J R (pc + 3) L st) : GQ w x P u v n I J R pc L (gvI b :: gvI a :: st) := by
  obtain ⟨p, e, Rm, s, m, args, below, meth, c, mc, ms⟩ := x
  obtain ⟨hx, hb, hml, hr, hown, hts, hK, hsta, hlk, hsz, hRm⟩ := hc
  exact fun H locs ls hP hS hl => lv_icmp_ne hx hb hd ht (fun q => kt (fun z => q ((g_eqI ha hb2).mpr z)) H locs ls hP hS hl) (fun q => kf ((g_eqI ha hb2).mp q) H locs ls hP hS hl)
theorem gq_if_ne {a : Int} {off : Int} {tgt : Nat} (hc : g_OK w x cc nL rt own d) (hd : decode cc pc = .ok (.ifCond .ne off, 3)) (ht : (pc : Int) + off = (tgt : Int)) (ha : g32 a) (kt : ¬ a = 0 → GQ w x P u v n I J R tgt L st) (kf : a = 0 → GQ w x P u v n I J R (pc + 3) L st) : GQ w x P u v n I J R pc L (gvI a :: st) := by
  obtain ⟨p, e, Rm, s, m, args, below, meth, c, mc, ms⟩ := x
  obtain ⟨hx, hb, hml, hr, hown, hts, hK, hsta, hlk, hsz, hRm⟩ := hc
  exact fun H locs ls hP hS hl => lv_if_ne hx hb hd ht (fun q => kt (fun z => q ((g_eqI ha (show g32 0 from ⟨by decide, by decide⟩)).mpr z)) H locs ls hP hS hl) (fun q => kf ((g_eqI ha (show g32 0 from ⟨by decide, by decide⟩)).mp q) H locs ls hP hS hl)
theorem gq_icmp_lt {a b : Int} {off : Int} {tgt : Nat} (hc : g_OK w x cc nL rt own d) (hd : decode cc pc = .ok (.if_icmp .lt off, 3)) (ht : (pc : Int) + off = (tgt : Int)) (ha : g32 a) (hb2 : g32 b) (kt : a < b → GQ w x P u v n I J R tgt L st) (kf : ¬ a < b → GQ w x P u v n I J R (pc + 3) L st) : GQ w x P u v n I J R pc L (gvI b :: gvI a :: st) := by
  obtain ⟨p, e, Rm, s, m, args, below, meth, c, mc, ms⟩ := x
  obtain ⟨hx, hb, hml, hr, hown, hts, hK, hsta, hlk, hsz, hRm⟩ := hc
  exact fun H locs ls hP hS hl => lv_icmp_lt hx hb hd ht (fun q => kt ((g_ltI ha hb2).mp q) H locs ls hP hS hl) (fun q => kf (fun z => q ((g_ltI ha hb2).mpr z)) H locs ls hP hS hl)
theorem gq_if_lt {a : Int} {off : Int} {tgt : Nat} (hc : g_OK w x cc nL rt own d) (hd : decode cc pc = .ok (.ifCond .lt off, 3)) (ht : (pc : Int) + off = (tgt : Int)) (ha : g32 a) (kt : a < 0 → GQ w x P u v n I J R tgt L st) (kf : ¬ a < 0 → GQ w x P u v n I J R (pc + 3) L st) : GQ w x P u v n I J R pc L (gvI a :: st) := by
  obtain ⟨p, e, Rm, s, m, args, below, meth, c, mc, ms⟩ := x
  obtain ⟨hx, hb, hml, hr, hown, hts, hK, hsta, hlk, hsz, hRm⟩ := hc
  exact fun H locs ls hP hS hl => lv_if_lt hx hb hd ht (fun q => kt ((g_ltI ha (show g32 0 from ⟨by decide, by decide⟩)).mp q) H locs ls hP hS hl) (fun q => kf (fun z => q ((g_ltI ha (show g32 0 from ⟨by decide, by decide⟩)).mpr z)) H locs ls hP hS hl)
theorem gq_icmp_ge {a b : Int} {off : Int} {tgt : Nat} (hc : g_OK w x cc nL rt own d) (hd : decode cc pc = .ok (.if_icmp .ge off, 3)) (ht : (pc : Int) + off = (tgt : Int)) (ha : g32 a) (hb2 : g32 b) (kt : b ≤ a → GQ w x P u v n I J R tgt L st) (kf : ¬ b ≤ a → GQ w x P u v n I J R (pc + 3) L st) : GQ w x P u v n I J R pc L (gvI b :: gvI a :: st) := by
  obtain ⟨p, e, Rm, s, m, args, below, meth, c, mc, ms⟩ := x
  obtain ⟨hx, hb, hml, hr, hown, hts, hK, hsta, hlk, hsz, hRm⟩ := hc
  exact fun H locs ls hP hS hl => lv_icmp_ge hx hb hd ht (fun q => kt ((g_leI hb2 ha).mp q) H locs ls hP hS hl) (fun q => kf (fun z => q ((g_leI hb2 ha).mpr z)) H locs ls hP hS hl)
theorem gq_if_ge {a : Int} {off : Int} {tgt : Nat} (hc : g_OK w x cc nL rt own d) (hd : decode cc pc = .ok (.ifCond .ge off, 3)) (ht : (pc : Int) + off = (tgt : Int)) (ha : g32 a) (kt : 0 ≤ a → GQ w x P u v n I J R tgt L st) (kf : ¬ 0 ≤ a → GQ w x P u v n I J R (pc + 3) L st) : GQ w x P u v n I J R pc L (gvI a :: st) := by
  obtain ⟨p, e, Rm, s, m, args, below, meth, c, mc, ms⟩ := x
  obtain ⟨hx, hb, hml, hr, hown, hts, hK, hsta, hlk, hsz, hRm⟩ := hc
  exact fun H locs ls hP hS hl => lv_if_ge hx hb hd ht (fun q => kt ((g_leI (show g32 0 from ⟨by decide, by decide⟩) ha).mp q) H locs ls hP hS hl) (fun q => kf (fun z => q ((g_leI (show g32 0 from ⟨by decide, by decide⟩) ha).mpr z)) H locs ls hP hS hl)
theorem gq_icmp_gt {a b : Int} {off : Int} {tgt : Nat} (hc : g_OK w x cc nL rt own d) (hd : decode cc pc = .ok (.if_icmp .gt off, 3)) (ht : (pc : Int) + off = (tgt : Int)) (ha : g32 a) (hb2 : g32 b) (kt : b < a → GQ w x P u v n I J R tgt L st) (kf : ¬ b < a → GQ w x P u v n I J R (pc + 3) L st) : GQ w x P u v n I J R pc L (gvI b :: gvI a :: st) := by
  obtain ⟨p, e, Rm, s, m, args, below, meth, c, mc, ms⟩ := x
  obtain ⟨hx, hb, hml, hr, hown, hts, hK, hsta, hlk, hsz, hRm⟩ := hc
  exact fun H locs ls hP hS hl => lv_icmp_gt hx hb hd ht (fun q => kt ((g_ltI hb2 ha).mp q) H locs ls hP hS hl) (fun q => kf (fun z => q ((g_ltI hb2 ha).mpr z)) H locs ls hP hS hl)
theorem gq_if_gt {a : Int} {off : Int} {tgt : Nat} (hc : g_OK w x cc nL rt own d) (hd : decode cc pc = .ok (.ifCond .gt off, 3)) (ht : (pc : Int) + off = (tgt : Int)) (ha : g32 a) (kt : 0 < a → GQ w x P u v n I J R tgt L st) (kf : ¬ 0 < a → GQ w x P u v n I J R (pc + 3) L st) : GQ w x P u v n I J R pc L (gvI a :: st) := by
  obtain ⟨p, e, Rm, s, m, args, below, meth, c, mc, ms⟩ := x
  obtain ⟨hx, hb, hml, hr, hown, hts, hK, hsta, hlk, hsz, hRm⟩ := hc
  exact fun H locs ls hP hS hl => lv_if_gt hx hb hd ht (fun q => kt ((g_ltI (show g32 0 from ⟨by decide, by decide⟩) ha).mp q) H locs ls hP hS hl) (fun q => kf (fun z => q ((g_ltI (show g32 0 from ⟨by decide, by decide⟩) ha).mpr z)) H locs ls hP hS hl)
theorem gq_icmp_le {a b : Int} {off : Int} {tgt : Nat} (hc : g_OK w x cc nL rt own d) (hd : decode cc pc = .ok (.if_icmp .le off, 3)) (ht : (pc : Int) + off = (tgt : Int)) (ha : g32 a) (hb2 : g32 b) (kt : a ≤ b → GQ w x P u v n I J R tgt L st) (kf : ¬ a ≤ b → GQ w x P u v n I J R (pc + 3) L st) : GQ w x P u v n I J R pc L (gvI b :: gvI a :: st) := by
  obtain ⟨p, e, Rm, s, m, args, below, meth, c, mc, ms⟩ := x
  obtain ⟨hx, hb, hml, hr, hown, hts, hK, hsta, hlk, hsz, hRm⟩ := hc
  exact fun H locs ls hP hS hl => lv_icmp_le hx hb hd ht (fun q => kt ((g_leI ha hb2).mp q) H locs ls hP hS hl) (fun q => kf (fun z => q ((g_leI ha hb2).mpr z)) H locs ls hP hS hl)
theorem gq_if_le {a : Int} {off : Int} {tgt : Nat} (hc : g_OK w x cc nL rt own d) (hd : decode cc pc = .ok (.ifCond .le off, 3)) (ht : (pc : Int) + off = (tgt : Int)) (ha : g32 a) (kt : a ≤ 0 → GQ w x P u v n I J R tgt L st) (kf : ¬ a ≤ 0 → GQ w x P u v n I J R (pc + 3) L st) : GQ w x P u v n I J R pc L (gvI a :: st) := by
  obtain ⟨p, e, Rm, s, m, args, below, meth, c, mc, ms⟩ := x
  obtain ⟨hx, hb, hml, hr, hown, hts, hK, hsta, hlk, hsz, hRm⟩ := hc
  exact fun H locs ls hP hS hl => lv_if_le hx hb hd ht (fun q => kt ((g_leI ha (show g32 0 from ⟨by decide, by decide⟩)).mp q) H locs ls hP hS hl) (fun q => kf (fun z => q ((g_leI ha (show g32 0 from ⟨by decide, by decide⟩)).mpr z)) H locs ls hP hS hl)
theorem gq_goto {off : Int} {tgt : Nat} (hc : g_OK w x cc nL rt own d) (hd : decode cc pc = .ok (.goto off, 3)) (ht : (pc : Int) + off = (tgt : Int)) (kk : GQ w x P u v n I J R tgt L st) : GQ w x P u v n I J R pc L st := by
  obtain ⟨p, e, Rm, s, m, args, below, meth, c, mc, ms⟩ := x
  obtain ⟨hx, hb, hml, hr, hown, hts, hK, hsta, hlk, hsz, hRm⟩ := hc
  exact fun H locs ls hP hS hl => lv_goto hx hb hd ht (kk H locs ls hP hS hl)
theorem gq_tableOut {dflt lo hi : Int} {offs : Array Int} {len : Nat} {a : Int} {tgt : Nat} (hc : g_OK w x cc nL rt own d) (hd : decode cc pc = .ok (.tableswitch dflt lo hi offs, len)) (ha : g32 a) (h : a < lo ∨ hi < a) (ht : (pc : Int) + dflt = (tgt : Int)) (kk : GQ w x P u v n I J R tgt L st) : GQ w x P u v n I J R pc L (gvI a :: st) := by
  obtain ⟨p, e, Rm, s, m, args, below, meth, c, mc, ms⟩ := x
  obtain ⟨hx, hb, hml, hr, hown, hts, hK, hsta, hlk, hsz, hRm⟩ := hc
  exact fun H locs ls hP hS hl => lv_tableOut hx hb hd (by rw [g32_to ha]; exact h) ht (kk H locs ls hP hS hl)
theorem gq_tableIn {dflt lo hi : Int} {offs : Array Int} {len : Nat} {a off : Int} {tgt : Nat} (hc : g_OK w x cc nL rt own d) (hd : decode cc pc = .ok (.tableswitch dflt lo hi offs, len)) (ha : g32 a) (h1 : ¬ a < lo) (h2 : ¬ hi < a) (ho : offs[(a - lo).toNat]? = some off) (ht : (pc : Int) + off = (tgt : Int)) (kk : GQ w x P u v n I J R tgt L st) : GQ w x P u v n I J R pc L (gvI a :: st) := by
  obtain ⟨p, e, Rm, s, m, args, below, meth, c, mc, ms⟩ := x
  obtain ⟨hx, hb, hml, hr, hown, hts, hK, hsta, hlk, hsz, hRm⟩ := hc
  exact fun H locs ls hP hS hl => lv_tableIn hx hb hd (by rw [g32_to ha]; exact h1) (by rw [g32_to ha]; exact h2) (by rw [g32_to ha]; exact ho) ht (kk H locs ls hP hS hl)
theorem gq_lookup {dflt : Int} {ps : Array (Int × Int)} {len : Nat} {a off : Int} {tgt : Nat} (hc : g_OK w x cc nL rt own d) (hd : decode cc pc = .ok (.lookupswitch dflt ps, len)) (ha : g32 a) (hp : (ps.toList.zip (ps.toList.drop 1)).all (fun (a, next) => a.1 < next.1) = true) (ho : Op.lookupswitch.offset ps.toList dflt a = off) (ht : (pc : Int) + off = (tgt : Int)) (kk : GQ w x P u v n I J R tgt L st) : GQ w x P u v n I J R pc L (gvI a :: st) := by
  obtain ⟨p, e, Rm, s, m, args, below, meth, c, mc, ms⟩ := x
  obtain ⟨hx, hb, hml, hr, hown, hts, hK, hsta, hlk, hsz, hRm⟩ := hc
  exact fun H locs ls hP hS hl => lv_lookup hx hb hd hp (by rw [g32_to ha]; exact ho) ht (kk H locs ls hP hS hl)
theorem gq_dup {a : Value} (hc : g_OK w x cc nL rt own d) (hd : decode cc pc = .ok (.dup, 1)) (h : a.category = 1) (kk : GQ w x P u v n I J R (pc + 1) L (a :: a :: st)) : GQ w x P u v n I J R pc L (a :: st) := by
  obtain ⟨p, e, Rm, s, m, args, below, meth, c, mc, ms⟩ := x
  obtain ⟨hx, hb, hml, hr, hown, hts, hK, hsta, hlk, hsz, hRm⟩ := hc
  exact fun H locs ls hP hS hl => lv_dup hx hb hd h (kk H locs ls hP hS hl)
theorem gq_pop {a : Value} (hc : g_OK w x cc nL rt own d) (hd : decode cc pc = .ok (.pop, 1)) (h : a.category = 1) (kk : GQ w x P u v n I J R (pc + 1) L st) : GQ w x P u v n I J R pc L (a :: st) := by
  obtain ⟨p, e, Rm, s, m, args, below, meth, c, mc, ms⟩ := x
  obtain ⟨hx, hb, hml, hr, hown, hts, hK, hsta, hlk, hsz, hRm⟩ := hc
  exact fun H locs ls hP hS hl => lv_pop hx hb hd h (kk H locs ls hP hS hl)
theorem gq_dup_x1 {a b : Value} (hc : g_OK w x cc nL rt own d) (hd : decode cc pc = .ok (.dup_x1, 1)) (h : a.category = 1) (h2 : b.category = 1) (kk : GQ w x P u v n I J R (pc + 1) L (a :: b :: a :: st)) : GQ w x P u v n I J R pc L (a :: b :: st) := by
  obtain ⟨p, e, Rm, s, m, args, below, meth, c, mc, ms⟩ := x
  obtain ⟨hx, hb, hml, hr, hown, hts, hK, hsta, hlk, hsz, hRm⟩ := hc
  exact fun H locs ls hP hS hl => lv_dup_x1 hx hb hd h h2 (kk H locs ls hP hS hl)
theorem gq_dup2 {a b : Value} (hc : g_OK w x cc nL rt own d) (hd : decode cc pc = .ok (.dup2, 1)) (h : a.category = 1) (h2 : b.category = 1) (kk : GQ w x P u v n I J R (pc + 1) L (a :: b :: a :: b :: st)) : GQ w x P u v n I J R pc L (a :: b :: st) := by
  obtain ⟨p, e, Rm, s, m, args, below, meth, c, mc, ms⟩ := x
  obtain ⟨hx, hb, hml, hr, hown, hts, hK, hsta, hlk, hsz, hRm⟩ := hc
  exact fun H locs ls hP hS hl => lv_dup2_11 hx hb hd h h2 (kk H locs ls hP hS hl)
theorem gq_dup2L {a : Value} (hc : g_OK w x cc nL rt own d) (hd : decode cc pc = .ok (.dup2, 1)) (h : a.category = 2) (kk : GQ w x P u v n I J R (pc + 1) L (a :: a :: st)) : GQ w x P u v n I J R pc L (a :: st) := by
  obtain ⟨p, e, Rm, s, m, args, below, meth, c, mc, ms⟩ := x
  obtain ⟨hx, hb, hml, hr, hown, hts, hK, hsta, hlk, hsz, hRm⟩ := hc
  exact fun H locs ls hP hS hl => lv_dup2_2 hx hb hd h (kk H locs ls hP hS hl)
theorem gq_dup2_x1L {a b : Value} (hc : g_OK w x cc nL rt own d) (hd : decode cc pc = .ok (.dup2_x1, 1)) (h : a.category = 2) (h2 : b.category = 1) (kk : GQ w x P u v n I J R (pc + 1) L (a :: b :: a :: st)) : GQ w x P u v n I J R pc L (a :: b :: st) := by
  obtain ⟨p, e, Rm, s, m, args, below, meth, c, mc, ms⟩ := x
  obtain ⟨hx, hb, hml, hr, hown, hts, hK, hsta, hlk, hsz, hRm⟩ := hc
  exact fun H locs ls hP hS hl => lv_dup2_x1_2 hx hb hd h h2 (kk H locs ls hP hS hl)
theorem gq_get0 {k ci j idx kind : Nat} {C nm ds : String} {T : u_T} {N : Nat} {fin : Bool} (hc : g_OK w x cc nL rt own d) (h1 : g_cls[ci]? = some (C, T, N)) (h2 : T j = (C, nm, ds, fin)) (h3 : j < N) (h4 : (g_kd ci)[j]? = some kind) (h5 : Cond.fieldLink own idx C nm ds ∈ g_tb) (hs : g_at n k (.inl ci)) (hd : decode cc pc = .ok (.getfield idx, 3)) (kk : GQ w x P u v n I J R (pc + 3) L (g_fv kind I J R k j :: st)) : GQ w x P u v n I J R pc L (gvr w k :: st) := by
  obtain ⟨p, e, Rm, s, m, args, below, meth, c, mc, ms⟩ := x
  obtain ⟨hx, hb, hml, hr, hown, hts, hK, hsta, hlk, hsz, hRm⟩ := hc
  exact fun H locs ls hP hS hl => va_get (C := C) (T := T) (N := N) (ref := C) hx hb hts (g_cw ci _ h1) hown hK hP k (g_at_o hs) h1 j h3 (show (Cond.fieldLink own idx C (T j).2.1 (T j).2.2.1).before args s = true by rw [h2]; exact hts _ h5) (show ∀ z, s.fieldFound? (T j).1 (T j).2.1 (T j).2.2.1 = some z → s.fieldFound? C (T j).2.1 (T j).2.2.1 = some z by rw [h2]; exact fun _ h => h) (g_fs_at h4) hd (kk H locs ls hP hS hl)
theorem gq_getI {k ci j idx : Nat} {ds : String} (hc : g_OK w x cc nL rt own d) (h : g_lk own idx ci j 0 ds) (hs : g_at n k (.inl ci)) (hd : decode cc pc = .ok (.getfield idx, 3)) (kk : GQ w x P u v n I J R (pc + 3) L (gvI (I k (j : Int)) :: st)) : GQ w x P u v n I J R pc L (gvr w k :: st) := by
  obtain ⟨C, nm, T, N, fin, h1, h2, h3, h4, h5, -⟩ := h
  exact gq_get0 hc h1 h2 h3 h4 h5 hs hd kk
theorem gq_getL {k ci j idx : Nat} {ds : String} (hc : g_OK w x cc nL rt own d) (h : g_lk own idx ci j 1 ds) (hs : g_at n k (.inl ci)) (hd : decode cc pc = .ok (.getfield idx, 3)) (kk : GQ w x P u v n I J R (pc + 3) L (gvL (J k) :: st)) : GQ w x P u v n I J R pc L (gvr w k :: st) := by
  obtain ⟨C, nm, T, N, fin, h1, h2, h3, h4, h5, -⟩ := h
  exact gq_get0 hc h1 h2 h3 h4 h5 hs hd kk
theorem gq_getR {k ci j idx a : Nat} {ds : String} (hc : g_OK w x cc nL rt own d) (h : g_lkF own idx ci j 2 ds) (hs : g_at n k (.inl ci)) (hR : R k (j : Int) = some a) (hd : decode cc pc = .ok (.getfield idx, 3)) (kk : GQ w x P u v n I J R (pc + 3) L (.ref a :: st)) : GQ w x P u v n I J R pc L (gvr w k :: st) := by
  obtain ⟨C, nm, T, N, h1, h2, h3, h4, h5⟩ := h
  refine gq_get0 hc h1 h2 h3 h4 h5 hs hd ?_
  show GQ w x P u v n I J R (pc + 3) L (va_rf (R k (j : Int)) :: st)
  rw [hR]
  exact kk
theorem gq_getRv {k ci j idx a : Nat} {ds : String} (hc : g_OK w x cc nL rt own d) (h : g_lk own idx ci j 2 ds) (hs : g_at n k (.inl ci)) (hR : R k (j : Int) = some a) (hd : decode cc pc = .ok (.getfield idx, 3)) (kk : GQ w x P u v n I J R (pc + 3) L (.ref a :: st)) : GQ w x P u v n I J R pc L (gvr w k :: st) := by
  obtain ⟨C, nm, T, N, fin, h1, h2, h3, h4, h5, -⟩ := h
  refine gq_get0 hc h1 h2 h3 h4 h5 hs hd ?_
  show GQ w x P u v n I J R (pc + 3) L (va_rf (R k (j : Int)) :: st)
  rw [hR]
  exact kk
theorem gq_put0 {k ci j idx kind : Nat} {ds : String} {ty : FieldType} {z : Value} {I' : g_I} {J' : g_J} {R' : g_R} (hc : g_OK w x cc nL rt own d) (h : g_lk own idx ci j kind ds) (hs : g_at n k (.inl ci)) (hty : parseFieldDescriptor ds = some ty) (hn : narrow ty z = z) (hf : fits ty z = true) (hz : g_fv kind I' J' R' k j = z) (hsame : ∀ i kd, i ≠ j → (g_kd ci)[i]? = some kd → g_fv kd I' J' R' k i = g_fv kd I J R k i) (hoth : ∀ a, a ≠ k → I' a = I a ∧ J' a = J a ∧ R' a = R a) (hd : decode cc pc = .ok (.putfield idx, 3)) (kk : GQ w x P u v n I' J' R' (pc + 3) L st) : GQ w x P u v n I J R pc L (z :: gvr w k :: st) := by
  obtain ⟨C, nm, T, N, fin, h1, h2, h3, h4, h5, rfl⟩ := h
  obtain ⟨p, e, Rm, s, m, args, below, meth, c, mc, ms⟩ := x
  obtain ⟨hx, hb, hml, hr, hown, hts, hK, hsta, hlk, hsz, hRm⟩ := hc
  obtain ⟨e1, e2, ty0, e3⟩ := g_ck ci _ h1
  intro H locs ls hP hS hl
  refine va_put (C := C) (T := T) (N := N) (ref := C) hx hb hts (g_cw ci _ h1) ty0 e3 e2 hown hK hP g_D hS k (g_at_o hs) h1 j h3 (show (Cond.fieldLink own idx C (T j).2.1 (T j).2.2.1).before args s = true by rw [h2]; exact hts _ h5) (show ∀ z, s.fieldFound? (T j).1 (T j).2.1 (T j).2.2.1 = some z → s.fieldFound? C (T j).2.1 (T j).2.2.1 = some z by rw [h2]; exact fun _ h => h) (show (T j).2.2.2 = false by rw [h2]) (show parseFieldDescriptor (T j).2.2.1 = some ty by rw [h2]; exact hty) hn hf (by simp [g_fs]; exact (List.getElem?_eq_some_iff.mp h4).1) hd (fun H1 locs1 hP1 hD1 hS1 => ?_)
  have he : g_E w.2.2.1 I' J' R' k = .inr (ci, (g_fs ci I J R k).set j z) := by
    simp only [g_E, hs.2]
    rw [g_fs_set h4 hz hsame]
  rw [g_ws_set hs.1 he (fun a ha => g_E_same (hoth a ha).1 (hoth a ha).2.1 (hoth a ha).2.2)] at hP1
  exact kk H1 locs1 ls hP1 hS1 hl
theorem gq_putI {k ci j idx : Nat} {z : Int} (hc : g_OK w x cc nL rt own d) (h : g_lk own idx ci j 0 "I") (hs : g_at n k (.inl ci)) (hd : decode cc pc = .ok (.putfield idx, 3)) (kk : GQ w x P u v n (g_up I k (j : Int) z) J R (pc + 3) L st) : GQ w x P u v n I J R pc L (gvI z :: gvr w k :: st) := by
  refine gq_put0 (ty := .int) (I' := g_up I k (j : Int) z) (J' := J) (R' := R) hc h hs (by decide +kernel) rfl rfl ?_ (fun i kd hi _ => ?_) (fun a ha => ⟨funext fun i => g_up_k ha, rfl, rfl⟩) hd kk
  · exact congrArg gvI g_up_s
  · unfold g_fv
    split
    · exact congrArg gvI (g_up_i (by omega))
    · rfl
    · rfl
theorem gq_putZ {k ci j idx : Nat} {z : Int} (hc : g_OK w x cc nL rt own d) (h : g_lk own idx ci j 0 "Z") (hs : g_at n k (.inl ci)) (hz : z = 0 ∨ z = 1) (hd : decode cc pc = .ok (.putfield idx, 3)) (kk : GQ w x P u v n (g_up I k (j : Int) z) J R (pc + 3) L st) : GQ w x P u v n I J R pc L (gvI z :: gvr w k :: st) := by
  refine gq_put0 (ty := .boolean) (I' := g_up I k (j : Int) z) (J' := J) (R' := R) hc h hs (by decide +kernel) (by rcases hz with rfl | rfl <;> decide +kernel) (by rcases hz with rfl | rfl <;> decide +kernel) ?_ (fun i kd hi _ => ?_) (fun a ha => ⟨funext fun i => g_up_k ha, rfl, rfl⟩) hd kk
  · exact congrArg gvI g_up_s
  · unfold g_fv
    split
    · exact congrArg gvI (g_up_i (by omega))
    · rfl
    · rfl
theorem gq_putL {k ci j idx : Nat} {z : Int} (hc : g_OK w x cc nL rt own d) (h : g_lk own idx ci j 1 "J") (hs : g_at n k (.inl ci)) (h1 : ∀ i, i ≠ j → ¬ (g_kd ci)[i]? = some 1) (hd : decode cc pc = .ok (.putfield idx, 3)) (kk : GQ w x P u v n I (g_upJ J k z) R (pc + 3) L st) : GQ w x P u v n I J R pc L (gvL z :: gvr w k :: st) := by
  refine gq_put0 (ty := .long) (I' := I) (J' := g_upJ J k z) (R' := R) hc h hs (by decide +kernel) rfl rfl ?_ (fun i kd hi hkd => ?_) (fun a ha => ⟨rfl, if_neg ha, rfl⟩) hd kk
  · exact congrArg gvL (if_pos rfl)
  · unfold g_fv
    split
    · rfl
    · exact absurd hkd (h1 i hi)
    · rfl
theorem gq_putR {k ci j idx a : Nat} {ds : String} {ty : FieldType} (hc : g_OK w x cc nL rt own d) (h : g_lk own idx ci j 2 ds) (hs : g_at n k (.inl ci)) (hty : parseFieldDescriptor ds = some ty) (hn : narrow ty (.ref a) = .ref a) (hf : fits ty (.ref a) = true) (hd : decode cc pc = .ok (.putfield idx, 3)) (kk : GQ w x P u v n I J (g_upR R k (j : Int) (some a)) (pc + 3) L st) : GQ w x P u v n I J R pc L (.ref a :: gvr w k :: st) := by
  refine gq_put0 (ty := ty) (I' := I) (J' := J) (R' := g_upR R k (j : Int) (some a)) hc h hs hty hn hf ?_ (fun i kd hi hkd => ?_) (fun b hb => ⟨rfl, rfl, funext fun i => if_neg (fun q => hb q.1)⟩) hd kk
  · exact congrArg va_rf (if_pos ⟨rfl, rfl⟩)
  · unfold g_fv
    split
    · rfl
    · rfl
    · exact congrArg va_rf (if_neg (fun q => hi (by have := q.2; omega)))
theorem gq_iald {k len : Nat} {i : Int} (hc : g_OK w x cc nL rt own d) (hs : g_at n k (.inr (0, len))) (hn : len < 2 ^ 31) (h0 : 0 ≤ i) (h1 : i < (len : Int)) (hd : decode cc pc = .ok (.iaload, 1)) (kk : GQ w x P u v n I J R (pc + 1) L (gvI (I k i) :: st)) : GQ w x P u v n I J R pc L (gvI i :: gvr w k :: st) := by
  obtain ⟨p, e, Rm, s, m, args, below, meth, c, mc, ms⟩ := x
  obtain ⟨hx, hb, hml, hr, hown, hts, hK, hsta, hlk, hsz, hRm⟩ := hc
  intro H locs ls hP hS hl
  have h2 := kk H locs ls hP hS hl
  refine va_iald hx hb hK hP k 0 (g_at_i hs (by decide)) rfl (g_in h0 h1 hn) hd ?_
  rw [g_ix h0 h1 hn]
  exact h2
theorem gq_bald {k len : Nat} {i : Int} (hc : g_OK w x cc nL rt own d) (hs : g_at n k (.inr (1, len))) (hn : len < 2 ^ 31) (h0 : 0 ≤ i) (h1 : i < (len : Int)) (hd : decode cc pc = .ok (.baload, 1)) (kk : GQ w x P u v n I J R (pc + 1) L (gvI (I k i) :: st)) : GQ w x P u v n I J R pc L (gvI i :: gvr w k :: st) := by
  obtain ⟨p, e, Rm, s, m, args, below, meth, c, mc, ms⟩ := x
  obtain ⟨hx, hb, hml, hr, hown, hts, hK, hsta, hlk, hsz, hRm⟩ := hc
  intro H locs ls hP hS hl
  have h2 := kk H locs ls hP hS hl
  refine va_bald hx hb hK hP k 1 (g_at_i hs (by decide)) rfl (g_in h0 h1 hn) hd ?_
  rw [g_ix h0 h1 hn]
  exact h2
theorem gq_zald {k len : Nat} {i : Int} (hc : g_OK w x cc nL rt own d) (hs : g_at n k (.inr (2, len))) (hn : len < 2 ^ 31) (h0 : 0 ≤ i) (h1 : i < (len : Int)) (hd : decode cc pc = .ok (.baload, 1)) (kk : GQ w x P u v n I J R (pc + 1) L (gvI (I k i) :: st)) : GQ w x P u v n I J R pc L (gvI i :: gvr w k :: st) := by
  obtain ⟨p, e, Rm, s, m, args, below, meth, c, mc, ms⟩ := x
  obtain ⟨hx, hb, hml, hr, hown, hts, hK, hsta, hlk, hsz, hRm⟩ := hc
  intro H locs ls hP hS hl
  have h2 := kk H locs ls hP hS hl
  refine va_zald hx hb hK hP k 2 (g_at_i hs (by decide)) rfl (g_in h0 h1 hn) hd ?_
  rw [g_ix h0 h1 hn]
  exact h2
theorem gq_iast {k len : Nat} {i z : Int} (hc : g_OK w x cc nL rt own d) (hs : g_at n k (.inr (0, len))) (hn : len < 2 ^ 31) (h0 : 0 ≤ i) (h1 : i < (len : Int)) (hd : decode cc pc = .ok (.iastore, 1)) (kk : GQ w x P u v n (g_up I k i z) J R (pc + 1) L st) : GQ w x P u v n I J R pc L (gvI z :: gvI i :: gvr w k :: st) := by
  obtain ⟨p, e, Rm, s, m, args, below, meth, c, mc, ms⟩ := x
  obtain ⟨hx, hb, hml, hr, hown, hts, hK, hsta, hlk, hsz, hRm⟩ := hc
  intro H locs ls hP hS hl
  refine va_iast hx hb hK hP g_D hS k 0 (g_at_i hs (by decide)) rfl (g_in h0 h1 hn) hd (fun H1 locs1 hP1 hD1 hS1 => ?_)
  rw [g_ast0 hs (by decide) h0 (g_ix h0 h1 hn)] at hP1
  exact kk H1 locs1 ls hP1 hS1 hl
theorem gq_bast {k len : Nat} {i z : Int} (hc : g_OK w x cc nL rt own d) (hs : g_at n k (.inr (1, len))) (hn : len < 2 ^ 31) (h0 : 0 ≤ i) (h1 : i < (len : Int)) (hz : vp_nar .byte (Int32.ofInt z) = Int32.ofInt z) (hd : decode cc pc = .ok (.bastore, 1)) (kk : GQ w x P u v n (g_up I k i z) J R (pc + 1) L st) : GQ w x P u v n I J R pc L (gvI z :: gvI i :: gvr w k :: st) := by
  obtain ⟨p, e, Rm, s, m, args, below, meth, c, mc, ms⟩ := x
  obtain ⟨hx, hb, hml, hr, hown, hts, hK, hsta, hlk, hsz, hRm⟩ := hc
  intro H locs ls hP hS hl
  refine va_bast hx hb hK hP g_D hS k 1 (g_at_i hs (by decide)) rfl (g_in h0 h1 hn) hd (fun H1 locs1 hP1 hD1 hS1 => ?_)
  rw [hz, g_ast0 hs (by decide) h0 (g_ix h0 h1 hn)] at hP1
  exact kk H1 locs1 ls hP1 hS1 hl
theorem gq_zast {k len : Nat} {i z : Int} (hc : g_OK w x cc nL rt own d) (hs : g_at n k (.inr (2, len))) (hn : len < 2 ^ 31) (h0 : 0 ≤ i) (h1 : i < (len : Int)) (hz : z = 0 ∨ z = 1) (hd : decode cc pc = .ok (.bastore, 1)) (kk : GQ w x P u v n (g_up I k i z) J R (pc + 1) L st) : GQ w x P u v n I J R pc L (gvI z :: gvI i :: gvr w k :: st) := by
  obtain ⟨p, e, Rm, s, m, args, below, meth, c, mc, ms⟩ := x
  obtain ⟨hx, hb, hml, hr, hown, hts, hK, hsta, hlk, hsz, hRm⟩ := hc
  intro H locs ls hP hS hl
  refine va_zast hx hb hK hP g_D hS k 2 (g_at_i hs (by decide)) rfl (g_in h0 h1 hn) hd (fun H1 locs1 hP1 hD1 hS1 => ?_)
  have hzz : vp_nar .boolean (Int32.ofInt z) = Int32.ofInt z := by rcases hz with rfl | rfl <;> decide +kernel
  rw [hzz, g_ast0 hs (by decide) h0 (g_ix h0 h1 hn)] at hP1
  exact kk H1 locs1 ls hP1 hS1 hl
theorem gq_aald {k t len a : Nat} {ty : FieldType} {i : Int} (hc : g_OK w x cc nL rt own d) (hs : g_at n k (.inr (t, len))) (ht : ¬ t < 3) (hty : (g_ty w.2.2.1)[t]? = some (w.2.2.1 t, ty)) (hrf : ty.isReference = true) (hn : len < 2 ^ 31) (h0 : 0 ≤ i) (h1 : i < (len : Int)) (hR : R k i = some a) (hd : decode cc pc = .ok (.aaload, 1)) (kk : GQ w x P u v n I J R (pc + 1) L (.ref a :: st)) : GQ w x P u v n I J R pc L (gvI i :: gvr w k :: st) := by
  obtain ⟨p, e, Rm, s, m, args, below, meth, c, mc, ms⟩ := x
  obtain ⟨hx, hb, hml, hr, hown, hts, hK, hsta, hlk, hsz, hRm⟩ := hc
  intro H locs ls hP hS hl
  have h2 := kk H locs ls hP hS hl
  have hin : vp_in (Int32.ofInt i) len := g_in h0 h1 hn
  have hlt : (Int32.ofInt i).toNatClampNeg < len := Nat.not_le.mp fun q => hin (Or.inr q)
  have hv : va_rf (R k (((Int32.ofInt i).toNatClampNeg : Nat) : Int)) = .ref a := by rw [g_ix h0 h1 hn, hR]; rfl
  have h6 : t < 6 := by
    have hl := (List.getElem?_eq_some_iff.mp hty).1
    have hne : t ≠ 6 := by
      intro e
      subst e
      have he : FieldType.long = ty := congrArg Prod.snd (Option.some.inj hty)
      rw [← he] at hrf
      exact absurd hrf (by decide)
    have hl2 : t < 7 := hl
    omega
  refine W.aald (v := .ref a) (ty := ty) hx hb (hP k _ (g_at_r hs ht h6)) ((hK.2 t _ hty).1 len (fun j => va_rf (R k (j : Int)))) hrf (fun q => by cases q) (by show ¬ (Int32.ofInt i < 0 ∨ (arrV _ _ _).slots.size ≤ _); rw [arrV_size]; exact hin) (by show (arrV _ _ _).slots[_]? = _; rw [arrV_read _ _ hlt, hv]) rfl rfl hd h2
theorem gq_alen {k t len : Nat} (hc : g_OK w x cc nL rt own d) (hs : g_at n k (.inr (t, len))) (ht : t < 6) (hd : decode cc pc = .ok (.arraylength, 1)) (kk : GQ w x P u v n I J R (pc + 1) L (gvI (len : Int) :: st)) : GQ w x P u v n I J R pc L (gvr w k :: st) := by
  obtain ⟨p, e, Rm, s, m, args, below, meth, c, mc, ms⟩ := x
  obtain ⟨hx, hb, hml, hr, hown, hts, hK, hsta, hlk, hsz, hRm⟩ := hc
  intro H locs ls hP hS hl
  have h2 := kk H locs ls hP hS hl
  have hv : Int32.ofNat len = Int32.ofInt (len : Int) := Int32.ofInt_eq_ofNat.symm
  have hty : ∃ ty, (g_ty w.2.2.1)[t]? = some (w.2.2.1 t, ty) := by
    match t, ht with
    | 0, _ => exact ⟨_, rfl⟩
    | 1, _ => exact ⟨_, rfl⟩
    | 2, _ => exact ⟨_, rfl⟩
    | 3, _ => exact ⟨_, rfl⟩
    | 4, _ => exact ⟨_, rfl⟩
    | 5, _ => exact ⟨_, rfl⟩
  obtain ⟨ty, hty⟩ := hty
  by_cases h3 : t < 3
  · exact va_alen hx hb hK hP k t (g_at_i hs h3) hty hv hd h2
  · exact va_alen hx hb hK hP k t (g_at_r hs h3 ht) hty hv hd h2
theorem gq_gets {i idx : Nat} {q : String × List Int} (hc : g_OK w x cc nL rt own d) (hq : g_sar[i]? = some q) (hl : Cond.fieldLink own idx "OtherSelves$LifeReader" q.1 "[I" ∈ g_tb) (hd : decode cc pc = .ok (.getstatic idx, 3)) (kk : GQ w x P u v n I J R (pc + 3) L (.ref (w.2.2.2.2 i) :: st)) : GQ w x P u v n I J R pc L st := by
  obtain ⟨p, e, Rm, s, m, args, below, meth, c, mc, ms⟩ := x
  obtain ⟨hx, hb, hml, hr, hown, hts, hK, hsta, hlk, hsz, hRm⟩ := hc
  exact fun H locs ls hP hS hll => va_gets hx hb (hsta.1 i q hq).1 hS hown (hts _ hl) (fun _ h => h) hd (kk H locs ls hP hS hll)
theorem gq_tld {i : Nat} {j : Int} {q : String × List Int} (hc : g_OK w x cc nL rt own d) (hq : g_sar[i]? = some q) (h0 : 0 ≤ j) (h1 : j < (q.2.length : Int)) (hn : q.2.length < 2 ^ 31) (hd : decode cc pc = .ok (.iaload, 1)) (kk : GQ w x P u v n I J R (pc + 1) L (gvI (q.2.getD j.toNat 0) :: st)) : GQ w x P u v n I J R pc L (gvI j :: .ref (w.2.2.2.2 i) :: st) := by
  obtain ⟨p, e, Rm, s, m, args, below, meth, c, mc, ms⟩ := x
  obtain ⟨hx, hb, hml, hr, hown, hts, hK, hsta, hlk, hsz, hRm⟩ := hc
  exact fun H locs ls hP hS hll => va_ti hx hb (hsta.1 i q hq).2 hS (g_in h0 h1 hn) (by rw [g_cl ⟨by omega, by omega⟩]) hd (kk H locs ls hP hS hll)
theorem gq_ldcS {idx i : Nat} {tx : String} (hc : g_OK w x cc nL rt own d) (hq : (own, idx, tx, i) ∈ g_str) (hd : decode cc pc = .ok (.ldc idx, 2)) (kk : GQ w x P u v n I J R (pc + 2) L (.ref (w.2.2.2.2 (100 + i)) :: st)) : GQ w x P u v n I J R pc L st := by
  obtain ⟨p, e, Rm, s, m, args, below, meth, c, mc, ms⟩ := x
  obtain ⟨hx, hb, hml, hr, hown, hts, hK, hsta, hlk, hsz, hRm⟩ := hc
  exact fun H locs ls hP hS hll => va_ldcS hx hb hown (hsta.2.2.1 _ hq) hd (kk H locs ls hP hS hll)
theorem gq_run {p : Program} {e : Env} {Rm : Room} {s : State} {m : MethodId} {args : Array Value} {below : List Frame} {meth : Method} {c : Code} {mc ms mc' ms' : Nat} {P' : g_P} {aa : Array Value} {H : Heap} {locs : List Loc} {ls : Array Slot} {st0 : List Value}
    (hsz : w.2.2.2.1 ≤ s.heap.size) (run : va_Run p w.1 e Rm s m args below meth c H locs u v mc' ms' (F0 m pc ls st0) st (g_Q w P' aa) (g_A w)) (hS : va_S (g_A w) s.heap H locs) (hl : g_lh ls L)
    (kk : ∀ (r : Option Value) (n' : Nat) (I' : g_I) (J' : g_J) (R' : g_R), P' r n' I' J' R' → GQ w (p, e, Rm, s, m, args, below, meth, c, mc, ms) P (u + mc') (v + ms') n' I' J' R' (pc + 3) L (r.toList ++ st)) :
    W p w.1 e Rm s m args below meth c H locs u v P (F0 m pc ls st0) := by
  intro T hT X
  obtain ⟨r, s0, t, T', Ls, h0, X', hL, e1, e2, ⟨⟨r', n', I', J', R', hv, hp, hb⟩, hz, hk⟩, stp⟩ := run T hT X
  cases hv
  rw [h0] at hz hk
  obtain ⟨t2, a1, b1⟩ := kk r n' I' J' R' hp T'.heap (locs ++ Ls) ls (by rw [e1]; exact hb) ⟨Nat.le_trans hS.1 (by rw [e1]; exact hz), fun q h1 h2 => by rw [e1, hk q (Nat.lt_of_lt_of_le h1 hS.1) h2]; exact hS.2.1 q h1 h2, fun q hq => by
      rcases List.mem_append.mp hq with h | h
      · exact hS.2.2 q h
      · exact hL q h⟩ hl T' rfl X'
  exact ⟨t2, stp t2 a1, b1⟩
theorem gq_callV {y : MethodName} {b : ByteArray} {mx np idx d' mc' ms' k ci : Nat} {ret : Option FieldType} {as : List Value} {P' : g_P} (hc : g_OK w x cc nL rt own d) (hM : g_Met w n I J R y b mx ret d' mc' ms' (gvr w k :: as) P') (hy : g_my y b mx ret np) (hv : g_mv y) (hs : g_at n k (.inl ci)) {q : vw_C} (hq : g_cls[ci]? = some q) (hcl : y.cls = q.1) (hlk : Cond.methodLink own idx y ∈ g_tb) (hn : as.length = np) (hLn : L.length = nL) (hdd : d' + 1 ≤ d) (hlo : 19 + mx + 40 * d' ≤ 40 * d) (hroom : (st.map fun z => z.category).sum ≤ 8) (hmc : u + mc' ≤ x.2.2.2.2.2.2.2.2.2.1 ∧ v + ms' ≤ x.2.2.2.2.2.2.2.2.2.2) (hd : decode cc pc = .ok (.invokevirtual idx, 3))
    (kk : ∀ (r : Option Value) (n' : Nat) (I' : g_I) (J' : g_J) (R' : g_R), P' r n' I' J' R' → GQ w x P (u + mc') (v + ms') n' I' J' R' (pc + 3) L (r.toList ++ st)) : GQ w x P u v n I J R pc L (as.reverse ++ gvr w k :: st) := by
  obtain ⟨p, e, Rm, s, m, args, below, meth, c, mc, ms⟩ := x
  obtain ⟨hx, hb, hml, hr, hown, hts, hK, hsta, hlk2, hsz, hRm⟩ := hc
  intro H locs ls hP hS hl
  refine gq_run (aa := (gvr w k :: as).toArray) hsz ?_ hS hl kk
  have hT : GoodIn g_tb (wsV own idx y.cls y (.code y b mx ret :: g_tb)) := by
    intro z hz
    rcases List.mem_append.mp hz with h | h
    · simp only [List.mem_cons, List.not_mem_nil, or_false] at h
      rcases h with rfl | rfl | rfl | rfl
      · exact ⟨hlk, g_tb_ok hlk⟩
      · exact ⟨hv.1, g_tb_ok hv.1⟩
      · exact ⟨hv.2, g_tb_ok hv.2⟩
      · exact ⟨hy.2.1, g_tb_ok hy.2.1⟩
    · exact g_good hy z h
  subst hRm
  exact va_runV (C := y.cls) (As := as) (rest := st) ⟨hx, hb, hml, hown, hts⟩ hM (cwV np hts hT rfl rfl rfl ⟨rfl, hy.2.2.1, hy.2.2.2.1, hy.2.2.2.2⟩ ⟨hdd, by show 8 + (mx + 11) + 40 * d' ≤ 40 * d; omega⟩)
    ⟨g_blind, by rw [hcl]; exact va_recv hK hP hq (g_at_o hs), g_pre hK hsta hP hS⟩ rfl hn (hl.1.trans hLn) rfl (lv_room hroom) hd hmc
theorem gq_callS {y : MethodName} {b : ByteArray} {mx np idx d' mc' ms' : Nat} {ret : Option FieldType} {as : List Value} {P' : g_P} (hc : g_OK w x cc nL rt own d) (hM : g_Met w n I J R y b mx ret d' mc' ms' as P') (hy : g_my y b mx ret np) (hv : Cond.static y ∈ g_tb) (hlk : Cond.methodLink own idx y ∈ g_tb) (hn : as.length = np) (hLn : L.length = nL) (hdd : d' + 1 ≤ d) (hlo : 19 + mx + 40 * d' ≤ 40 * d) (hroom : (st.map fun z => z.category).sum ≤ 8) (hmc : u + mc' ≤ x.2.2.2.2.2.2.2.2.2.1 ∧ v + ms' ≤ x.2.2.2.2.2.2.2.2.2.2) (hd : decode cc pc = .ok (.invokestatic idx, 3))
    (kk : ∀ (r : Option Value) (n' : Nat) (I' : g_I) (J' : g_J) (R' : g_R), P' r n' I' J' R' → GQ w x P (u + mc') (v + ms') n' I' J' R' (pc + 3) L (r.toList ++ st)) : GQ w x P u v n I J R pc L (as.reverse ++ st) := by
  obtain ⟨p, e, Rm, s, m, args, below, meth, c, mc, ms⟩ := x
  obtain ⟨hx, hb, hml, hr, hown, hts, hK, hsta, hlk2, hsz, hRm⟩ := hc
  intro H locs ls hP hS hl
  refine gq_run (aa := as.toArray) hsz ?_ hS hl kk
  have hT : GoodIn g_tb (va_wsS own idx y (.code y b mx ret :: g_tb)) := by
    intro z hz
    rcases List.mem_append.mp hz with h | h
    · simp only [List.mem_cons, List.not_mem_nil, or_false] at h
      rcases h with rfl | rfl | rfl
      · exact ⟨hlk, g_tb_ok hlk⟩
      · exact ⟨hv, g_tb_ok hv⟩
      · exact ⟨hy.2.1, g_tb_ok hy.2.1⟩
    · exact g_good hy z h
  subst hRm
  exact va_runS (As := as) (rest := st) ⟨hx, hb, hml, hown, hts⟩ hM (va_cwS np hts hT rfl rfl rfl ⟨hy.2.2.1, hy.2.2.2.1, hy.2.2.2.2⟩ ⟨hdd, by show 8 + (mx + 11) + 40 * d' ≤ 40 * d; omega⟩)
    ⟨g_blind, g_pre hK hsta hP hS⟩ rfl hn (hl.1.trans hLn) rfl (lv_room hroom) hd hmc
theorem gq_V0 {y : MethodName} {b : ByteArray} {mx idx d' k ci : Nat} {ret : Option FieldType} {P' : g_P} (hc : g_OK w x cc nL rt own d) (hM : g_Met w n I J R y b mx ret d' 0 0 (gvr w k :: []) P') (hy : g_my y b mx ret 0) (hv : g_mv y) (hs : g_at n k (.inl ci)) {q : vw_C} (hq : g_cls[ci]? = some q) (hcl : y.cls = q.1) (hlk : Cond.methodLink own idx y ∈ g_tb) (hLn : L.length = nL) (hdd : 19 + mx + 40 * d' ≤ 40 * d) (hroom : (st.map fun z => z.category).sum ≤ 8) (hmc : x.2.2.2.2.2.2.2.2.2.1 = u ∧ x.2.2.2.2.2.2.2.2.2.2 = v) (hd : decode cc pc = .ok (.invokevirtual idx, 3))
    (kk : ∀ (r : Option Value) (n' : Nat) (I' : g_I) (J' : g_J) (R' : g_R), P' r n' I' J' R' → GQ w x P u v n' I' J' R' (pc + 3) L (r.toList ++ st)) : GQ w x P u v n I J R pc L (gvr w k :: st) := gq_callV (as := []) hc hM hy hv hs hq hcl hlk rfl hLn (by omega) hdd hroom ⟨Nat.le_of_eq hmc.1.symm, Nat.le_of_eq hmc.2.symm⟩ hd kk
theorem gq_V0r {y : MethodName} {b : ByteArray} {mx idx d' k ci : Nat} {ret : Option FieldType} {z : Value} {n' : Nat} {I' : g_I} {J' : g_J} {R' : g_R} (hc : g_OK w x cc nL rt own d) (hM : g_Met w n I J R y b mx ret d' 0 0 (gvr w k :: []) (g_post (some z) n' I' J' R')) (hy : g_my y b mx ret 0) (hv : g_mv y) (hs : g_at n k (.inl ci)) {q : vw_C} (hq : g_cls[ci]? = some q) (hcl : y.cls = q.1) (hlk : Cond.methodLink own idx y ∈ g_tb) (hLn : L.length = nL) (hdd : 19 + mx + 40 * d' ≤ 40 * d) (hroom : (st.map fun z => z.category).sum ≤ 8) (hmc : x.2.2.2.2.2.2.2.2.2.1 = u ∧ x.2.2.2.2.2.2.2.2.2.2 = v) (hd : decode cc pc = .ok (.invokevirtual idx, 3))
    (kk : GQ w x P u v n' I' J' R' (pc + 3) L (z :: st)) : GQ w x P u v n I J R pc L (gvr w k :: st) := gq_V0 hc hM hy hv hs hq hcl hlk hLn hdd hroom hmc hd (fun r n2 I2 J2 R2 h => by obtain ⟨rfl, rfl, rfl, rfl, rfl⟩ := h; exact kk)
theorem gq_V0v {y : MethodName} {b : ByteArray} {mx idx d' k ci : Nat} {ret : Option FieldType} {n' : Nat} {I' : g_I} {J' : g_J} {R' : g_R} (hc : g_OK w x cc nL rt own d) (hM : g_Met w n I J R y b mx ret d' 0 0 (gvr w k :: []) (g_post none n' I' J' R')) (hy : g_my y b mx ret 0) (hv : g_mv y) (hs : g_at n k (.inl ci)) {q : vw_C} (hq : g_cls[ci]? = some q) (hcl : y.cls = q.1) (hlk : Cond.methodLink own idx y ∈ g_tb) (hLn : L.length = nL) (hdd : 19 + mx + 40 * d' ≤ 40 * d) (hroom : (st.map fun z => z.category).sum ≤ 8) (hmc : x.2.2.2.2.2.2.2.2.2.1 = u ∧ x.2.2.2.2.2.2.2.2.2.2 = v) (hd : decode cc pc = .ok (.invokevirtual idx, 3))
    (kk : GQ w x P u v n' I' J' R' (pc + 3) L st) : GQ w x P u v n I J R pc L (gvr w k :: st) := gq_V0 hc hM hy hv hs hq hcl hlk hLn hdd hroom hmc hd (fun r n2 I2 J2 R2 h => by obtain ⟨rfl, rfl, rfl, rfl, rfl⟩ := h; exact kk)
theorem gq_V1 {y : MethodName} {b : ByteArray} {mx idx d' k ci : Nat} {ret : Option FieldType} {a0 : Value} {P' : g_P} (hc : g_OK w x cc nL rt own d) (hM : g_Met w n I J R y b mx ret d' 0 0 (gvr w k :: [a0]) P') (hy : g_my y b mx ret 1) (hv : g_mv y) (hs : g_at n k (.inl ci)) {q : vw_C} (hq : g_cls[ci]? = some q) (hcl : y.cls = q.1) (hlk : Cond.methodLink own idx y ∈ g_tb) (hLn : L.length = nL) (hdd : 19 + mx + 40 * d' ≤ 40 * d) (hroom : (st.map fun z => z.category).sum ≤ 8) (hmc : x.2.2.2.2.2.2.2.2.2.1 = u ∧ x.2.2.2.2.2.2.2.2.2.2 = v) (hd : decode cc pc = .ok (.invokevirtual idx, 3))
    (kk : ∀ (r : Option Value) (n' : Nat) (I' : g_I) (J' : g_J) (R' : g_R), P' r n' I' J' R' → GQ w x P u v n' I' J' R' (pc + 3) L (r.toList ++ st)) : GQ w x P u v n I J R pc L (a0 :: gvr w k :: st) := gq_callV (as := [a0]) hc hM hy hv hs hq hcl hlk rfl hLn (by omega) hdd hroom ⟨Nat.le_of_eq hmc.1.symm, Nat.le_of_eq hmc.2.symm⟩ hd kk
theorem gq_V1r {y : MethodName} {b : ByteArray} {mx idx d' k ci : Nat} {ret : Option FieldType} {a0 : Value} {z : Value} {n' : Nat} {I' : g_I} {J' : g_J} {R' : g_R} (hc : g_OK w x cc nL rt own d) (hM : g_Met w n I J R y b mx ret d' 0 0 (gvr w k :: [a0]) (g_post (some z) n' I' J' R')) (hy : g_my y b mx ret 1) (hv : g_mv y) (hs : g_at n k (.inl ci)) {q : vw_C} (hq : g_cls[ci]? = some q) (hcl : y.cls = q.1) (hlk : Cond.methodLink own idx y ∈ g_tb) (hLn : L.length = nL) (hdd : 19 + mx + 40 * d' ≤ 40 * d) (hroom : (st.map fun z => z.category).sum ≤ 8) (hmc : x.2.2.2.2.2.2.2.2.2.1 = u ∧ x.2.2.2.2.2.2.2.2.2.2 = v) (hd : decode cc pc = .ok (.invokevirtual idx, 3))
    (kk : GQ w x P u v n' I' J' R' (pc + 3) L (z :: st)) : GQ w x P u v n I J R pc L (a0 :: gvr w k :: st) := gq_V1 hc hM hy hv hs hq hcl hlk hLn hdd hroom hmc hd (fun r n2 I2 J2 R2 h => by obtain ⟨rfl, rfl, rfl, rfl, rfl⟩ := h; exact kk)
theorem gq_V1v {y : MethodName} {b : ByteArray} {mx idx d' k ci : Nat} {ret : Option FieldType} {a0 : Value} {n' : Nat} {I' : g_I} {J' : g_J} {R' : g_R} (hc : g_OK w x cc nL rt own d) (hM : g_Met w n I J R y b mx ret d' 0 0 (gvr w k :: [a0]) (g_post none n' I' J' R')) (hy : g_my y b mx ret 1) (hv : g_mv y) (hs : g_at n k (.inl ci)) {q : vw_C} (hq : g_cls[ci]? = some q) (hcl : y.cls = q.1) (hlk : Cond.methodLink own idx y ∈ g_tb) (hLn : L.length = nL) (hdd : 19 + mx + 40 * d' ≤ 40 * d) (hroom : (st.map fun z => z.category).sum ≤ 8) (hmc : x.2.2.2.2.2.2.2.2.2.1 = u ∧ x.2.2.2.2.2.2.2.2.2.2 = v) (hd : decode cc pc = .ok (.invokevirtual idx, 3))
    (kk : GQ w x P u v n' I' J' R' (pc + 3) L st) : GQ w x P u v n I J R pc L (a0 :: gvr w k :: st) := gq_V1 hc hM hy hv hs hq hcl hlk hLn hdd hroom hmc hd (fun r n2 I2 J2 R2 h => by obtain ⟨rfl, rfl, rfl, rfl, rfl⟩ := h; exact kk)
theorem gq_V2 {y : MethodName} {b : ByteArray} {mx idx d' k ci : Nat} {ret : Option FieldType} {a0 a1 : Value} {P' : g_P} (hc : g_OK w x cc nL rt own d) (hM : g_Met w n I J R y b mx ret d' 0 0 (gvr w k :: [a0, a1]) P') (hy : g_my y b mx ret 2) (hv : g_mv y) (hs : g_at n k (.inl ci)) {q : vw_C} (hq : g_cls[ci]? = some q) (hcl : y.cls = q.1) (hlk : Cond.methodLink own idx y ∈ g_tb) (hLn : L.length = nL) (hdd : 19 + mx + 40 * d' ≤ 40 * d) (hroom : (st.map fun z => z.category).sum ≤ 8) (hmc : x.2.2.2.2.2.2.2.2.2.1 = u ∧ x.2.2.2.2.2.2.2.2.2.2 = v) (hd : decode cc pc = .ok (.invokevirtual idx, 3))
    (kk : ∀ (r : Option Value) (n' : Nat) (I' : g_I) (J' : g_J) (R' : g_R), P' r n' I' J' R' → GQ w x P u v n' I' J' R' (pc + 3) L (r.toList ++ st)) : GQ w x P u v n I J R pc L (a1 :: a0 :: gvr w k :: st) := gq_callV (as := [a0, a1]) hc hM hy hv hs hq hcl hlk rfl hLn (by omega) hdd hroom ⟨Nat.le_of_eq hmc.1.symm, Nat.le_of_eq hmc.2.symm⟩ hd kk
theorem gq_V2r {y : MethodName} {b : ByteArray} {mx idx d' k ci : Nat} {ret : Option FieldType} {a0 a1 : Value} {z : Value} {n' : Nat} {I' : g_I} {J' : g_J} {R' : g_R} (hc : g_OK w x cc nL rt own d) (hM : g_Met w n I J R y b mx ret d' 0 0 (gvr w k :: [a0, a1]) (g_post (some z) n' I' J' R')) (hy : g_my y b mx ret 2) (hv : g_mv y) (hs : g_at n k (.inl ci)) {q : vw_C} (hq : g_cls[ci]? = some q) (hcl : y.cls = q.1) (hlk : Cond.methodLink own idx y ∈ g_tb) (hLn : L.length = nL) (hdd : 19 + mx + 40 * d' ≤ 40 * d) (hroom : (st.map fun z => z.category).sum ≤ 8) (hmc : x.2.2.2.2.2.2.2.2.2.1 = u ∧ x.2.2.2.2.2.2.2.2.2.2 = v) (hd : decode cc pc = .ok (.invokevirtual idx, 3))
    (kk : GQ w x P u v n' I' J' R' (pc + 3) L (z :: st)) : GQ w x P u v n I J R pc L (a1 :: a0 :: gvr w k :: st) := gq_V2 hc hM hy hv hs hq hcl hlk hLn hdd hroom hmc hd (fun r n2 I2 J2 R2 h => by obtain ⟨rfl, rfl, rfl, rfl, rfl⟩ := h; exact kk)
theorem gq_V2v {y : MethodName} {b : ByteArray} {mx idx d' k ci : Nat} {ret : Option FieldType} {a0 a1 : Value} {n' : Nat} {I' : g_I} {J' : g_J} {R' : g_R} (hc : g_OK w x cc nL rt own d) (hM : g_Met w n I J R y b mx ret d' 0 0 (gvr w k :: [a0, a1]) (g_post none n' I' J' R')) (hy : g_my y b mx ret 2) (hv : g_mv y) (hs : g_at n k (.inl ci)) {q : vw_C} (hq : g_cls[ci]? = some q) (hcl : y.cls = q.1) (hlk : Cond.methodLink own idx y ∈ g_tb) (hLn : L.length = nL) (hdd : 19 + mx + 40 * d' ≤ 40 * d) (hroom : (st.map fun z => z.category).sum ≤ 8) (hmc : x.2.2.2.2.2.2.2.2.2.1 = u ∧ x.2.2.2.2.2.2.2.2.2.2 = v) (hd : decode cc pc = .ok (.invokevirtual idx, 3))
    (kk : GQ w x P u v n' I' J' R' (pc + 3) L st) : GQ w x P u v n I J R pc L (a1 :: a0 :: gvr w k :: st) := gq_V2 hc hM hy hv hs hq hcl hlk hLn hdd hroom hmc hd (fun r n2 I2 J2 R2 h => by obtain ⟨rfl, rfl, rfl, rfl, rfl⟩ := h; exact kk)
theorem gq_V3 {y : MethodName} {b : ByteArray} {mx idx d' k ci : Nat} {ret : Option FieldType} {a0 a1 a2 : Value} {P' : g_P} (hc : g_OK w x cc nL rt own d) (hM : g_Met w n I J R y b mx ret d' 0 0 (gvr w k :: [a0, a1, a2]) P') (hy : g_my y b mx ret 3) (hv : g_mv y) (hs : g_at n k (.inl ci)) {q : vw_C} (hq : g_cls[ci]? = some q) (hcl : y.cls = q.1) (hlk : Cond.methodLink own idx y ∈ g_tb) (hLn : L.length = nL) (hdd : 19 + mx + 40 * d' ≤ 40 * d) (hroom : (st.map fun z => z.category).sum ≤ 8) (hmc : x.2.2.2.2.2.2.2.2.2.1 = u ∧ x.2.2.2.2.2.2.2.2.2.2 = v) (hd : decode cc pc = .ok (.invokevirtual idx, 3))
    (kk : ∀ (r : Option Value) (n' : Nat) (I' : g_I) (J' : g_J) (R' : g_R), P' r n' I' J' R' → GQ w x P u v n' I' J' R' (pc + 3) L (r.toList ++ st)) : GQ w x P u v n I J R pc L (a2 :: a1 :: a0 :: gvr w k :: st) := gq_callV (as := [a0, a1, a2]) hc hM hy hv hs hq hcl hlk rfl hLn (by omega) hdd hroom ⟨Nat.le_of_eq hmc.1.symm, Nat.le_of_eq hmc.2.symm⟩ hd kk
theorem gq_V3r {y : MethodName} {b : ByteArray} {mx idx d' k ci : Nat} {ret : Option FieldType} {a0 a1 a2 : Value} {z : Value} {n' : Nat} {I' : g_I} {J' : g_J} {R' : g_R} (hc : g_OK w x cc nL rt own d) (hM : g_Met w n I J R y b mx ret d' 0 0 (gvr w k :: [a0, a1, a2]) (g_post (some z) n' I' J' R')) (hy : g_my y b mx ret 3) (hv : g_mv y) (hs : g_at n k (.inl ci)) {q : vw_C} (hq : g_cls[ci]? = some q) (hcl : y.cls = q.1) (hlk : Cond.methodLink own idx y ∈ g_tb) (hLn : L.length = nL) (hdd : 19 + mx + 40 * d' ≤ 40 * d) (hroom : (st.map fun z => z.category).sum ≤ 8) (hmc : x.2.2.2.2.2.2.2.2.2.1 = u ∧ x.2.2.2.2.2.2.2.2.2.2 = v) (hd : decode cc pc = .ok (.invokevirtual idx, 3))
    (kk : GQ w x P u v n' I' J' R' (pc + 3) L (z :: st)) : GQ w x P u v n I J R pc L (a2 :: a1 :: a0 :: gvr w k :: st) := gq_V3 hc hM hy hv hs hq hcl hlk hLn hdd hroom hmc hd (fun r n2 I2 J2 R2 h => by obtain ⟨rfl, rfl, rfl, rfl, rfl⟩ := h; exact kk)
theorem gq_V3v {y : MethodName} {b : ByteArray} {mx idx d' k ci : Nat} {ret : Option FieldType} {a0 a1 a2 : Value} {n' : Nat} {I' : g_I} {J' : g_J} {R' : g_R} (hc : g_OK w x cc nL rt own d) (hM : g_Met w n I J R y b mx ret d' 0 0 (gvr w k :: [a0, a1, a2]) (g_post none n' I' J' R')) (hy : g_my y b mx ret 3) (hv : g_mv y) (hs : g_at n k (.inl ci)) {q : vw_C} (hq : g_cls[ci]? = some q) (hcl : y.cls = q.1) (hlk : Cond.methodLink own idx y ∈ g_tb) (hLn : L.length = nL) (hdd : 19 + mx + 40 * d' ≤ 40 * d) (hroom : (st.map fun z => z.category).sum ≤ 8) (hmc : x.2.2.2.2.2.2.2.2.2.1 = u ∧ x.2.2.2.2.2.2.2.2.2.2 = v) (hd : decode cc pc = .ok (.invokevirtual idx, 3))
    (kk : GQ w x P u v n' I' J' R' (pc + 3) L st) : GQ w x P u v n I J R pc L (a2 :: a1 :: a0 :: gvr w k :: st) := gq_V3 hc hM hy hv hs hq hcl hlk hLn hdd hroom hmc hd (fun r n2 I2 J2 R2 h => by obtain ⟨rfl, rfl, rfl, rfl, rfl⟩ := h; exact kk)
theorem gq_V4 {y : MethodName} {b : ByteArray} {mx idx d' k ci : Nat} {ret : Option FieldType} {a0 a1 a2 a3 : Value} {P' : g_P} (hc : g_OK w x cc nL rt own d) (hM : g_Met w n I J R y b mx ret d' 0 0 (gvr w k :: [a0, a1, a2, a3]) P') (hy : g_my y b mx ret 4) (hv : g_mv y) (hs : g_at n k (.inl ci)) {q : vw_C} (hq : g_cls[ci]? = some q) (hcl : y.cls = q.1) (hlk : Cond.methodLink own idx y ∈ g_tb) (hLn : L.length = nL) (hdd : 19 + mx + 40 * d' ≤ 40 * d) (hroom : (st.map fun z => z.category).sum ≤ 8) (hmc : x.2.2.2.2.2.2.2.2.2.1 = u ∧ x.2.2.2.2.2.2.2.2.2.2 = v) (hd : decode cc pc = .ok (.invokevirtual idx, 3))
    (kk : ∀ (r : Option Value) (n' : Nat) (I' : g_I) (J' : g_J) (R' : g_R), P' r n' I' J' R' → GQ w x P u v n' I' J' R' (pc + 3) L (r.toList ++ st)) : GQ w x P u v n I J R pc L (a3 :: a2 :: a1 :: a0 :: gvr w k :: st) := gq_callV (as := [a0, a1, a2, a3]) hc hM hy hv hs hq hcl hlk rfl hLn (by omega) hdd hroom ⟨Nat.le_of_eq hmc.1.symm, Nat.le_of_eq hmc.2.symm⟩ hd kk
theorem gq_V4r {y : MethodName} {b : ByteArray} {mx idx d' k ci : Nat} {ret : Option FieldType} {a0 a1 a2 a3 : Value} {z : Value} {n' : Nat} {I' : g_I} {J' : g_J} {R' : g_R} (hc : g_OK w x cc nL rt own d) (hM : g_Met w n I J R y b mx ret d' 0 0 (gvr w k :: [a0, a1, a2, a3]) (g_post (some z) n' I' J' R')) (hy : g_my y b mx ret 4) (hv : g_mv y) (hs : g_at n k (.inl ci)) {q : vw_C} (hq : g_cls[ci]? = some q) (hcl : y.cls = q.1) (hlk : Cond.methodLink own idx y ∈ g_tb) (hLn : L.length = nL) (hdd : 19 + mx + 40 * d' ≤ 40 * d) (hroom : (st.map fun z => z.category).sum ≤ 8) (hmc : x.2.2.2.2.2.2.2.2.2.1 = u ∧ x.2.2.2.2.2.2.2.2.2.2 = v) (hd : decode cc pc = .ok (.invokevirtual idx, 3))
    (kk : GQ w x P u v n' I' J' R' (pc + 3) L (z :: st)) : GQ w x P u v n I J R pc L (a3 :: a2 :: a1 :: a0 :: gvr w k :: st) := gq_V4 hc hM hy hv hs hq hcl hlk hLn hdd hroom hmc hd (fun r n2 I2 J2 R2 h => by obtain ⟨rfl, rfl, rfl, rfl, rfl⟩ := h; exact kk)
theorem gq_V4v {y : MethodName} {b : ByteArray} {mx idx d' k ci : Nat} {ret : Option FieldType} {a0 a1 a2 a3 : Value} {n' : Nat} {I' : g_I} {J' : g_J} {R' : g_R} (hc : g_OK w x cc nL rt own d) (hM : g_Met w n I J R y b mx ret d' 0 0 (gvr w k :: [a0, a1, a2, a3]) (g_post none n' I' J' R')) (hy : g_my y b mx ret 4) (hv : g_mv y) (hs : g_at n k (.inl ci)) {q : vw_C} (hq : g_cls[ci]? = some q) (hcl : y.cls = q.1) (hlk : Cond.methodLink own idx y ∈ g_tb) (hLn : L.length = nL) (hdd : 19 + mx + 40 * d' ≤ 40 * d) (hroom : (st.map fun z => z.category).sum ≤ 8) (hmc : x.2.2.2.2.2.2.2.2.2.1 = u ∧ x.2.2.2.2.2.2.2.2.2.2 = v) (hd : decode cc pc = .ok (.invokevirtual idx, 3))
    (kk : GQ w x P u v n' I' J' R' (pc + 3) L st) : GQ w x P u v n I J R pc L (a3 :: a2 :: a1 :: a0 :: gvr w k :: st) := gq_V4 hc hM hy hv hs hq hcl hlk hLn hdd hroom hmc hd (fun r n2 I2 J2 R2 h => by obtain ⟨rfl, rfl, rfl, rfl, rfl⟩ := h; exact kk)
theorem gq_V5 {y : MethodName} {b : ByteArray} {mx idx d' k ci : Nat} {ret : Option FieldType} {a0 a1 a2 a3 a4 : Value} {P' : g_P} (hc : g_OK w x cc nL rt own d) (hM : g_Met w n I J R y b mx ret d' 0 0 (gvr w k :: [a0, a1, a2, a3, a4]) P') (hy : g_my y b mx ret 5) (hv : g_mv y) (hs : g_at n k (.inl ci)) {q : vw_C} (hq : g_cls[ci]? = some q) (hcl : y.cls = q.1) (hlk : Cond.methodLink own idx y ∈ g_tb) (hLn : L.length = nL) (hdd : 19 + mx + 40 * d' ≤ 40 * d) (hroom : (st.map fun z => z.category).sum ≤ 8) (hmc : x.2.2.2.2.2.2.2.2.2.1 = u ∧ x.2.2.2.2.2.2.2.2.2.2 = v) (hd : decode cc pc = .ok (.invokevirtual idx, 3))
    (kk : ∀ (r : Option Value) (n' : Nat) (I' : g_I) (J' : g_J) (R' : g_R), P' r n' I' J' R' → GQ w x P u v n' I' J' R' (pc + 3) L (r.toList ++ st)) : GQ w x P u v n I J R pc L (a4 :: a3 :: a2 :: a1 :: a0 :: gvr w k :: st) := gq_callV (as := [a0, a1, a2, a3, a4]) hc hM hy hv hs hq hcl hlk rfl hLn (by omega) hdd hroom ⟨Nat.le_of_eq hmc.1.symm, Nat.le_of_eq hmc.2.symm⟩ hd kk
theorem gq_V5r {y : MethodName} {b : ByteArray} {mx idx d' k ci : Nat} {ret : Option FieldType} {a0 a1 a2 a3 a4 : Value} {z : Value} {n' : Nat} {I' : g_I} {J' : g_J} {R' : g_R} (hc : g_OK w x cc nL rt own d) (hM : g_Met w n I J R y b mx ret d' 0 0 (gvr w k :: [a0, a1, a2, a3, a4]) (g_post (some z) n' I' J' R')) (hy : g_my y b mx ret 5) (hv : g_mv y) (hs : g_at n k (.inl ci)) {q : vw_C} (hq : g_cls[ci]? = some q) (hcl : y.cls = q.1) (hlk : Cond.methodLink own idx y ∈ g_tb) (hLn : L.length = nL) (hdd : 19 + mx + 40 * d' ≤ 40 * d) (hroom : (st.map fun z => z.category).sum ≤ 8) (hmc : x.2.2.2.2.2.2.2.2.2.1 = u ∧ x.2.2.2.2.2.2.2.2.2.2 = v) (hd : decode cc pc = .ok (.invokevirtual idx, 3))
    (kk : GQ w x P u v n' I' J' R' (pc + 3) L (z :: st)) : GQ w x P u v n I J R pc L (a4 :: a3 :: a2 :: a1 :: a0 :: gvr w k :: st) := gq_V5 hc hM hy hv hs hq hcl hlk hLn hdd hroom hmc hd (fun r n2 I2 J2 R2 h => by obtain ⟨rfl, rfl, rfl, rfl, rfl⟩ := h; exact kk)
theorem gq_V5v {y : MethodName} {b : ByteArray} {mx idx d' k ci : Nat} {ret : Option FieldType} {a0 a1 a2 a3 a4 : Value} {n' : Nat} {I' : g_I} {J' : g_J} {R' : g_R} (hc : g_OK w x cc nL rt own d) (hM : g_Met w n I J R y b mx ret d' 0 0 (gvr w k :: [a0, a1, a2, a3, a4]) (g_post none n' I' J' R')) (hy : g_my y b mx ret 5) (hv : g_mv y) (hs : g_at n k (.inl ci)) {q : vw_C} (hq : g_cls[ci]? = some q) (hcl : y.cls = q.1) (hlk : Cond.methodLink own idx y ∈ g_tb) (hLn : L.length = nL) (hdd : 19 + mx + 40 * d' ≤ 40 * d) (hroom : (st.map fun z => z.category).sum ≤ 8) (hmc : x.2.2.2.2.2.2.2.2.2.1 = u ∧ x.2.2.2.2.2.2.2.2.2.2 = v) (hd : decode cc pc = .ok (.invokevirtual idx, 3))
    (kk : GQ w x P u v n' I' J' R' (pc + 3) L st) : GQ w x P u v n I J R pc L (a4 :: a3 :: a2 :: a1 :: a0 :: gvr w k :: st) := gq_V5 hc hM hy hv hs hq hcl hlk hLn hdd hroom hmc hd (fun r n2 I2 J2 R2 h => by obtain ⟨rfl, rfl, rfl, rfl, rfl⟩ := h; exact kk)
theorem gq_S0 {y : MethodName} {b : ByteArray} {mx idx d' : Nat} {ret : Option FieldType} {P' : g_P} (hc : g_OK w x cc nL rt own d) (hM : g_Met w n I J R y b mx ret d' 0 0 [] P') (hy : g_my y b mx ret 0) (hv : Cond.static y ∈ g_tb) (hlk : Cond.methodLink own idx y ∈ g_tb) (hLn : L.length = nL) (hdd : 19 + mx + 40 * d' ≤ 40 * d) (hroom : (st.map fun z => z.category).sum ≤ 8) (hmc : x.2.2.2.2.2.2.2.2.2.1 = u ∧ x.2.2.2.2.2.2.2.2.2.2 = v) (hd : decode cc pc = .ok (.invokestatic idx, 3))
    (kk : ∀ (r : Option Value) (n' : Nat) (I' : g_I) (J' : g_J) (R' : g_R), P' r n' I' J' R' → GQ w x P u v n' I' J' R' (pc + 3) L (r.toList ++ st)) : GQ w x P u v n I J R pc L (st) := gq_callS (as := []) hc hM hy hv hlk rfl hLn (by omega) hdd hroom ⟨Nat.le_of_eq hmc.1.symm, Nat.le_of_eq hmc.2.symm⟩ hd kk
theorem gq_S0r {y : MethodName} {b : ByteArray} {mx idx d' : Nat} {ret : Option FieldType} {z : Value} {n' : Nat} {I' : g_I} {J' : g_J} {R' : g_R} (hc : g_OK w x cc nL rt own d) (hM : g_Met w n I J R y b mx ret d' 0 0 [] (g_post (some z) n' I' J' R')) (hy : g_my y b mx ret 0) (hv : Cond.static y ∈ g_tb) (hlk : Cond.methodLink own idx y ∈ g_tb) (hLn : L.length = nL) (hdd : 19 + mx + 40 * d' ≤ 40 * d) (hroom : (st.map fun z => z.category).sum ≤ 8) (hmc : x.2.2.2.2.2.2.2.2.2.1 = u ∧ x.2.2.2.2.2.2.2.2.2.2 = v) (hd : decode cc pc = .ok (.invokestatic idx, 3))
    (kk : GQ w x P u v n' I' J' R' (pc + 3) L (z :: st)) : GQ w x P u v n I J R pc L (st) := gq_S0 hc hM hy hv hlk hLn hdd hroom hmc hd (fun r n2 I2 J2 R2 h => by obtain ⟨rfl, rfl, rfl, rfl, rfl⟩ := h; exact kk)
theorem gq_S1 {y : MethodName} {b : ByteArray} {mx idx d' : Nat} {ret : Option FieldType} {a0 : Value} {P' : g_P} (hc : g_OK w x cc nL rt own d) (hM : g_Met w n I J R y b mx ret d' 0 0 [a0] P') (hy : g_my y b mx ret 1) (hv : Cond.static y ∈ g_tb) (hlk : Cond.methodLink own idx y ∈ g_tb) (hLn : L.length = nL) (hdd : 19 + mx + 40 * d' ≤ 40 * d) (hroom : (st.map fun z => z.category).sum ≤ 8) (hmc : x.2.2.2.2.2.2.2.2.2.1 = u ∧ x.2.2.2.2.2.2.2.2.2.2 = v) (hd : decode cc pc = .ok (.invokestatic idx, 3))
    (kk : ∀ (r : Option Value) (n' : Nat) (I' : g_I) (J' : g_J) (R' : g_R), P' r n' I' J' R' → GQ w x P u v n' I' J' R' (pc + 3) L (r.toList ++ st)) : GQ w x P u v n I J R pc L (a0 :: st) := gq_callS (as := [a0]) hc hM hy hv hlk rfl hLn (by omega) hdd hroom ⟨Nat.le_of_eq hmc.1.symm, Nat.le_of_eq hmc.2.symm⟩ hd kk
theorem gq_S1r {y : MethodName} {b : ByteArray} {mx idx d' : Nat} {ret : Option FieldType} {a0 : Value} {z : Value} {n' : Nat} {I' : g_I} {J' : g_J} {R' : g_R} (hc : g_OK w x cc nL rt own d) (hM : g_Met w n I J R y b mx ret d' 0 0 [a0] (g_post (some z) n' I' J' R')) (hy : g_my y b mx ret 1) (hv : Cond.static y ∈ g_tb) (hlk : Cond.methodLink own idx y ∈ g_tb) (hLn : L.length = nL) (hdd : 19 + mx + 40 * d' ≤ 40 * d) (hroom : (st.map fun z => z.category).sum ≤ 8) (hmc : x.2.2.2.2.2.2.2.2.2.1 = u ∧ x.2.2.2.2.2.2.2.2.2.2 = v) (hd : decode cc pc = .ok (.invokestatic idx, 3))
    (kk : GQ w x P u v n' I' J' R' (pc + 3) L (z :: st)) : GQ w x P u v n I J R pc L (a0 :: st) := gq_S1 hc hM hy hv hlk hLn hdd hroom hmc hd (fun r n2 I2 J2 R2 h => by obtain ⟨rfl, rfl, rfl, rfl, rfl⟩ := h; exact kk)
theorem gq_S2 {y : MethodName} {b : ByteArray} {mx idx d' : Nat} {ret : Option FieldType} {a0 a1 : Value} {P' : g_P} (hc : g_OK w x cc nL rt own d) (hM : g_Met w n I J R y b mx ret d' 0 0 [a0, a1] P') (hy : g_my y b mx ret 2) (hv : Cond.static y ∈ g_tb) (hlk : Cond.methodLink own idx y ∈ g_tb) (hLn : L.length = nL) (hdd : 19 + mx + 40 * d' ≤ 40 * d) (hroom : (st.map fun z => z.category).sum ≤ 8) (hmc : x.2.2.2.2.2.2.2.2.2.1 = u ∧ x.2.2.2.2.2.2.2.2.2.2 = v) (hd : decode cc pc = .ok (.invokestatic idx, 3))
    (kk : ∀ (r : Option Value) (n' : Nat) (I' : g_I) (J' : g_J) (R' : g_R), P' r n' I' J' R' → GQ w x P u v n' I' J' R' (pc + 3) L (r.toList ++ st)) : GQ w x P u v n I J R pc L (a1 :: a0 :: st) := gq_callS (as := [a0, a1]) hc hM hy hv hlk rfl hLn (by omega) hdd hroom ⟨Nat.le_of_eq hmc.1.symm, Nat.le_of_eq hmc.2.symm⟩ hd kk
theorem gq_S2r {y : MethodName} {b : ByteArray} {mx idx d' : Nat} {ret : Option FieldType} {a0 a1 : Value} {z : Value} {n' : Nat} {I' : g_I} {J' : g_J} {R' : g_R} (hc : g_OK w x cc nL rt own d) (hM : g_Met w n I J R y b mx ret d' 0 0 [a0, a1] (g_post (some z) n' I' J' R')) (hy : g_my y b mx ret 2) (hv : Cond.static y ∈ g_tb) (hlk : Cond.methodLink own idx y ∈ g_tb) (hLn : L.length = nL) (hdd : 19 + mx + 40 * d' ≤ 40 * d) (hroom : (st.map fun z => z.category).sum ≤ 8) (hmc : x.2.2.2.2.2.2.2.2.2.1 = u ∧ x.2.2.2.2.2.2.2.2.2.2 = v) (hd : decode cc pc = .ok (.invokestatic idx, 3))
    (kk : GQ w x P u v n' I' J' R' (pc + 3) L (z :: st)) : GQ w x P u v n I J R pc L (a1 :: a0 :: st) := gq_S2 hc hM hy hv hlk hLn hdd hroom hmc hd (fun r n2 I2 J2 R2 h => by obtain ⟨rfl, rfl, rfl, rfl, rfl⟩ := h; exact kk)
theorem gq_S3 {y : MethodName} {b : ByteArray} {mx idx d' : Nat} {ret : Option FieldType} {a0 a1 a2 : Value} {P' : g_P} (hc : g_OK w x cc nL rt own d) (hM : g_Met w n I J R y b mx ret d' 0 0 [a0, a1, a2] P') (hy : g_my y b mx ret 3) (hv : Cond.static y ∈ g_tb) (hlk : Cond.methodLink own idx y ∈ g_tb) (hLn : L.length = nL) (hdd : 19 + mx + 40 * d' ≤ 40 * d) (hroom : (st.map fun z => z.category).sum ≤ 8) (hmc : x.2.2.2.2.2.2.2.2.2.1 = u ∧ x.2.2.2.2.2.2.2.2.2.2 = v) (hd : decode cc pc = .ok (.invokestatic idx, 3))
    (kk : ∀ (r : Option Value) (n' : Nat) (I' : g_I) (J' : g_J) (R' : g_R), P' r n' I' J' R' → GQ w x P u v n' I' J' R' (pc + 3) L (r.toList ++ st)) : GQ w x P u v n I J R pc L (a2 :: a1 :: a0 :: st) := gq_callS (as := [a0, a1, a2]) hc hM hy hv hlk rfl hLn (by omega) hdd hroom ⟨Nat.le_of_eq hmc.1.symm, Nat.le_of_eq hmc.2.symm⟩ hd kk
theorem gq_S3r {y : MethodName} {b : ByteArray} {mx idx d' : Nat} {ret : Option FieldType} {a0 a1 a2 : Value} {z : Value} {n' : Nat} {I' : g_I} {J' : g_J} {R' : g_R} (hc : g_OK w x cc nL rt own d) (hM : g_Met w n I J R y b mx ret d' 0 0 [a0, a1, a2] (g_post (some z) n' I' J' R')) (hy : g_my y b mx ret 3) (hv : Cond.static y ∈ g_tb) (hlk : Cond.methodLink own idx y ∈ g_tb) (hLn : L.length = nL) (hdd : 19 + mx + 40 * d' ≤ 40 * d) (hroom : (st.map fun z => z.category).sum ≤ 8) (hmc : x.2.2.2.2.2.2.2.2.2.1 = u ∧ x.2.2.2.2.2.2.2.2.2.2 = v) (hd : decode cc pc = .ok (.invokestatic idx, 3))
    (kk : GQ w x P u v n' I' J' R' (pc + 3) L (z :: st)) : GQ w x P u v n I J R pc L (a2 :: a1 :: a0 :: st) := gq_S3 hc hM hy hv hlk hLn hdd hroom hmc hd (fun r n2 I2 J2 R2 h => by obtain ⟨rfl, rfl, rfl, rfl, rfl⟩ := h; exact kk)
theorem gq_S4 {y : MethodName} {b : ByteArray} {mx idx d' : Nat} {ret : Option FieldType} {a0 a1 a2 a3 : Value} {P' : g_P} (hc : g_OK w x cc nL rt own d) (hM : g_Met w n I J R y b mx ret d' 0 0 [a0, a1, a2, a3] P') (hy : g_my y b mx ret 4) (hv : Cond.static y ∈ g_tb) (hlk : Cond.methodLink own idx y ∈ g_tb) (hLn : L.length = nL) (hdd : 19 + mx + 40 * d' ≤ 40 * d) (hroom : (st.map fun z => z.category).sum ≤ 8) (hmc : x.2.2.2.2.2.2.2.2.2.1 = u ∧ x.2.2.2.2.2.2.2.2.2.2 = v) (hd : decode cc pc = .ok (.invokestatic idx, 3))
    (kk : ∀ (r : Option Value) (n' : Nat) (I' : g_I) (J' : g_J) (R' : g_R), P' r n' I' J' R' → GQ w x P u v n' I' J' R' (pc + 3) L (r.toList ++ st)) : GQ w x P u v n I J R pc L (a3 :: a2 :: a1 :: a0 :: st) := gq_callS (as := [a0, a1, a2, a3]) hc hM hy hv hlk rfl hLn (by omega) hdd hroom ⟨Nat.le_of_eq hmc.1.symm, Nat.le_of_eq hmc.2.symm⟩ hd kk
theorem gq_S4r {y : MethodName} {b : ByteArray} {mx idx d' : Nat} {ret : Option FieldType} {a0 a1 a2 a3 : Value} {z : Value} {n' : Nat} {I' : g_I} {J' : g_J} {R' : g_R} (hc : g_OK w x cc nL rt own d) (hM : g_Met w n I J R y b mx ret d' 0 0 [a0, a1, a2, a3] (g_post (some z) n' I' J' R')) (hy : g_my y b mx ret 4) (hv : Cond.static y ∈ g_tb) (hlk : Cond.methodLink own idx y ∈ g_tb) (hLn : L.length = nL) (hdd : 19 + mx + 40 * d' ≤ 40 * d) (hroom : (st.map fun z => z.category).sum ≤ 8) (hmc : x.2.2.2.2.2.2.2.2.2.1 = u ∧ x.2.2.2.2.2.2.2.2.2.2 = v) (hd : decode cc pc = .ok (.invokestatic idx, 3))
    (kk : GQ w x P u v n' I' J' R' (pc + 3) L (z :: st)) : GQ w x P u v n I J R pc L (a3 :: a2 :: a1 :: a0 :: st) := gq_S4 hc hM hy hv hlk hLn hdd hroom hmc hd (fun r n2 I2 J2 R2 h => by obtain ⟨rfl, rfl, rfl, rfl, rfl⟩ := h; exact kk)
theorem gq_S5 {y : MethodName} {b : ByteArray} {mx idx d' : Nat} {ret : Option FieldType} {a0 a1 a2 a3 a4 : Value} {P' : g_P} (hc : g_OK w x cc nL rt own d) (hM : g_Met w n I J R y b mx ret d' 0 0 [a0, a1, a2, a3, a4] P') (hy : g_my y b mx ret 5) (hv : Cond.static y ∈ g_tb) (hlk : Cond.methodLink own idx y ∈ g_tb) (hLn : L.length = nL) (hdd : 19 + mx + 40 * d' ≤ 40 * d) (hroom : (st.map fun z => z.category).sum ≤ 8) (hmc : x.2.2.2.2.2.2.2.2.2.1 = u ∧ x.2.2.2.2.2.2.2.2.2.2 = v) (hd : decode cc pc = .ok (.invokestatic idx, 3))
    (kk : ∀ (r : Option Value) (n' : Nat) (I' : g_I) (J' : g_J) (R' : g_R), P' r n' I' J' R' → GQ w x P u v n' I' J' R' (pc + 3) L (r.toList ++ st)) : GQ w x P u v n I J R pc L (a4 :: a3 :: a2 :: a1 :: a0 :: st) := gq_callS (as := [a0, a1, a2, a3, a4]) hc hM hy hv hlk rfl hLn (by omega) hdd hroom ⟨Nat.le_of_eq hmc.1.symm, Nat.le_of_eq hmc.2.symm⟩ hd kk
theorem gq_S5r {y : MethodName} {b : ByteArray} {mx idx d' : Nat} {ret : Option FieldType} {a0 a1 a2 a3 a4 : Value} {z : Value} {n' : Nat} {I' : g_I} {J' : g_J} {R' : g_R} (hc : g_OK w x cc nL rt own d) (hM : g_Met w n I J R y b mx ret d' 0 0 [a0, a1, a2, a3, a4] (g_post (some z) n' I' J' R')) (hy : g_my y b mx ret 5) (hv : Cond.static y ∈ g_tb) (hlk : Cond.methodLink own idx y ∈ g_tb) (hLn : L.length = nL) (hdd : 19 + mx + 40 * d' ≤ 40 * d) (hroom : (st.map fun z => z.category).sum ≤ 8) (hmc : x.2.2.2.2.2.2.2.2.2.1 = u ∧ x.2.2.2.2.2.2.2.2.2.2 = v) (hd : decode cc pc = .ok (.invokestatic idx, 3))
    (kk : GQ w x P u v n' I' J' R' (pc + 3) L (z :: st)) : GQ w x P u v n I J R pc L (a4 :: a3 :: a2 :: a1 :: a0 :: st) := gq_S5 hc hM hy hv hlk hLn hdd hroom hmc hd (fun r n2 I2 J2 R2 h => by obtain ⟨rfl, rfl, rfl, rfl, rfl⟩ := h; exact kk)
theorem gq_ifb_eq {c : Prop} [Decidable c] {off : Int} {tgt : Nat} (hc : g_OK w x cc nL rt own d) (hd : decode cc pc = .ok (.ifCond .eq off, 3)) (ht : (pc : Int) + off = (tgt : Int)) (kt : ¬ c → GQ w x P u v n I J R tgt L st) (kf : c → GQ w x P u v n I J R (pc + 3) L st) : GQ w x P u v n I J R pc L (gvI (g_b c) :: st) :=
  gq_if_eq hc hd ht g_b32 (fun h => kt (fun q => by rw [g_b1 q] at h; exact absurd h (by decide))) (fun h => kf (by by_cases q : c; exact q; exact absurd (g_b0 q) h))
theorem gq_ifb_ne {c : Prop} [Decidable c] {off : Int} {tgt : Nat} (hc : g_OK w x cc nL rt own d) (hd : decode cc pc = .ok (.ifCond .ne off, 3)) (ht : (pc : Int) + off = (tgt : Int)) (kt : c → GQ w x P u v n I J R tgt L st) (kf : ¬ c → GQ w x P u v n I J R (pc + 3) L st) : GQ w x P u v n I J R pc L (gvI (g_b c) :: st) :=
  gq_if_ne hc hd ht g_b32 (fun h => kt (by by_cases q : c; exact q; exact absurd (g_b0 q) h)) (fun h => kf (fun q => by rw [g_b1 q] at h; exact absurd h (by decide)))
theorem gq_aldn {k : Fin 4} {z : Nat} (hc : g_OK w x cc nL rt own d) (hd : decode cc pc = .ok (.aload_n k, 1)) (hL : L[(k : Nat)]? = some (some (gvr w z))) (kk : GQ w x P u v n I J R (pc + 1) L (gvr w z :: st)) : GQ w x P u v n I J R pc L st := gq_aload_n hc hd hL kk
theorem gq_ald {i : Nat} {z : Nat} (hc : g_OK w x cc nL rt own d) (hd : decode cc pc = .ok (.aload i, 2)) (hL : L[i]? = some (some (gvr w z))) (kk : GQ w x P u v n I J R (pc + 2) L (gvr w z :: st)) : GQ w x P u v n I J R pc L st := gq_aload hc hd hL kk
theorem gq_getRk {k ci j idx a : Nat} {ds : String} (hc : g_OK w x cc nL rt own d) (h : g_lkF own idx ci j 2 ds) (hs : g_at n k (.inl ci)) (hR : R k (j : Int) = some (w.2.2.2.1 + a)) (hd : decode cc pc = .ok (.getfield idx, 3)) (kk : GQ w x P u v n I J R (pc + 3) L (gvr w a :: st)) : GQ w x P u v n I J R pc L (gvr w k :: st) := gq_getR hc h hs hR hd kk
theorem gq_getRvk {k ci j idx a : Nat} {ds : String} (hc : g_OK w x cc nL rt own d) (h : g_lk own idx ci j 2 ds) (hs : g_at n k (.inl ci)) (hR : R k (j : Int) = some (w.2.2.2.1 + a)) (hd : decode cc pc = .ok (.getfield idx, 3)) (kk : GQ w x P u v n I J R (pc + 3) L (gvr w a :: st)) : GQ w x P u v n I J R pc L (gvr w k :: st) := gq_getRv hc h hs hR hd kk
theorem gq_aaldk {k t len a : Nat} {ty : FieldType} {i : Int} (hc : g_OK w x cc nL rt own d) (hs : g_at n k (.inr (t, len))) (ht : ¬ t < 3) (hty : (g_ty w.2.2.1)[t]? = some (w.2.2.1 t, ty)) (hrf : ty.isReference = true) (hn : len < 2 ^ 31) (h0 : 0 ≤ i) (h1 : i < (len : Int)) (hR : R k i = some (w.2.2.2.1 + a)) (hd : decode cc pc = .ok (.aaload, 1)) (kk : GQ w x P u v n I J R (pc + 1) L (gvr w a :: st)) : GQ w x P u v n I J R pc L (gvI i :: gvr w k :: st) := gq_aald hc hs ht hty hrf hn h0 h1 hR hd kk
theorem gq_getI' {k ci j idx : Nat} {ds : String} (hc : g_OK w x cc nL rt own d) (h : g_lk own idx ci j 0 ds) (hs : g_at n k (.inl ci)) (ji : Int) (hji : (j : Int) = ji) (hd : decode cc pc = .ok (.getfield idx, 3)) (kk : GQ w x P u v n I J R (pc + 3) L (gvI (I k ji) :: st)) : GQ w x P u v n I J R pc L (gvr w k :: st) := by
  subst hji
  exact gq_getI hc h hs hd kk
theorem gq_putI' {k ci j idx : Nat} {z : Int} (hc : g_OK w x cc nL rt own d) (h : g_lk own idx ci j 0 "I") (hs : g_at n k (.inl ci)) (ji : Int) (hji : (j : Int) = ji) (hd : decode cc pc = .ok (.putfield idx, 3)) (kk : ∀ I' : g_I, I' = g_up I k ji z → GQ w x P u v n I' J R (pc + 3) L st) : GQ w x P u v n I J R pc L (gvI z :: gvr w k :: st) := by
  subst hji
  exact gq_putI hc h hs hd (kk _ rfl)
theorem gq_putZ' {k ci j idx : Nat} {z : Int} (hc : g_OK w x cc nL rt own d) (h : g_lk own idx ci j 0 "Z") (hs : g_at n k (.inl ci)) (hz : z = 0 ∨ z = 1) (ji : Int) (hji : (j : Int) = ji) (hd : decode cc pc = .ok (.putfield idx, 3)) (kk : ∀ I' : g_I, I' = g_up I k ji z → GQ w x P u v n I' J R (pc + 3) L st) : GQ w x P u v n I J R pc L (gvI z :: gvr w k :: st) := by
  subst hji
  exact gq_putZ hc h hs hz hd (kk _ rfl)
theorem gq_iast' {k len : Nat} {i z : Int} (hc : g_OK w x cc nL rt own d) (hs : g_at n k (.inr (0, len))) (hn : len < 2 ^ 31) (h0 : 0 ≤ i) (h1 : i < (len : Int)) (hd : decode cc pc = .ok (.iastore, 1)) (kk : ∀ I' : g_I, I' = g_up I k i z → GQ w x P u v n I' J R (pc + 1) L st) : GQ w x P u v n I J R pc L (gvI z :: gvI i :: gvr w k :: st) := gq_iast hc hs hn h0 h1 hd (kk _ rfl)
theorem gq_bast' {k len : Nat} {i z : Int} (hc : g_OK w x cc nL rt own d) (hs : g_at n k (.inr (1, len))) (hn : len < 2 ^ 31) (h0 : 0 ≤ i) (h1 : i < (len : Int)) (hz : vp_nar .byte (Int32.ofInt z) = Int32.ofInt z) (hd : decode cc pc = .ok (.bastore, 1)) (kk : ∀ I' : g_I, I' = g_up I k i z → GQ w x P u v n I' J R (pc + 1) L st) : GQ w x P u v n I J R pc L (gvI z :: gvI i :: gvr w k :: st) := gq_bast hc hs hn h0 h1 hz hd (kk _ rfl)
theorem gq_zast' {k len : Nat} {i z : Int} (hc : g_OK w x cc nL rt own d) (hs : g_at n k (.inr (2, len))) (hn : len < 2 ^ 31) (h0 : 0 ≤ i) (h1 : i < (len : Int)) (hz : z = 0 ∨ z = 1) (hd : decode cc pc = .ok (.bastore, 1)) (kk : ∀ I' : g_I, I' = g_up I k i z → GQ w x P u v n I' J R (pc + 1) L st) : GQ w x P u v n I J R pc L (gvI z :: gvI i :: gvr w k :: st) := gq_zast hc hs hn h0 h1 hz hd (kk _ rfl)
theorem gq_copy {k0 k1 n0 n1 idx : Nat} {sp dp m : Int} (hc : g_OK w x cc nL rt own d) (hs0 : g_at n k0 (.inr (0, n0))) (hs1 : g_at n k1 (.inr (0, n1))) (hb0 : n0 < 2 ^ 31) (hb1 : n1 < 2 ^ 31) (hLn : L.length = nL)
    (hlk : Cond.methodLink own idx arraycopyName ∈ g_tb) (hnat : Cond.native arraycopyName ∈ g_tb) (hstat : Cond.static arraycopyName ∈ g_tb) (hini : Cond.initialized "java/lang/System" ∈ g_tb)
    (h1 : 0 ≤ sp) (h2 : 0 ≤ dp) (h3 : 0 ≤ m) (h4 : sp + m ≤ (n0 : Int)) (h5 : dp + m ≤ (n1 : Int)) (hd1 : 1 ≤ d) (hroom : (st.map fun z => z.category).sum ≤ 4) (hd : decode cc pc = .ok (.invokestatic idx, 3))
    (kk : ∀ I' : g_I, I' = g_cpy I k0 sp k1 dp m → GQ w x P u v n I' J R (pc + 3) L st) : GQ w x P u v n I J R pc L (gvI m :: gvI dp :: gvr w k1 :: gvI sp :: gvr w k0 :: st) := by
  obtain ⟨p, e, Rm, s, mm, args, below, meth, c, mc, ms⟩ := x
  obtain ⟨hx, hb, hml, hr, hown, hts, hK, hsta, hlk2, hsz, hRm⟩ := hc
  intro H locs ls hP hS hl
  have e1 : (Int32.ofInt sp).toNatClampNeg = sp.toNat := g_nt h1 (by omega)
  have e2 : (Int32.ofInt dp).toNatClampNeg = dp.toNat := g_nt h2 (by omega)
  have e3 : (Int32.ofInt m).toNatClampNeg = m.toNat := g_nt h3 (by omega)
  have hfr : 1 ≤ Rm.frames := by rw [hRm]; exact hd1
  have hlo : (st.map fun z => z.category).sum + (nativeFrameWords "java/lang/System" "arraycopy" 5 + 11) ≤ Rm.locals := by
    have h24 : nativeFrameWords "java/lang/System" "arraycopy" 5 ≤ 24 := by decide +kernel
    have h40 : Rm.locals = 40 * d := by rw [hRm]
    omega
  refine va_copyi (R := Rm) (rest := st) (ty := .int) hx hb (by rw [hml, hl.1, hLn]) hown (hts _ hlk) (hts _ hnat) (hts _ hstat) (hts _ hini) hK hP g_D hS k0 k1 0 0 (g_at_i hs0 (by decide)) (g_at_i hs1 (by decide)) rfl rfl rfl (g_nneg h1 (by omega)) (g_nneg h2 (by omega)) (g_nneg h3 (by omega)) (by rw [e1, e3]; omega) (by rw [e2, e3]; omega) (fun i hi => rfl) hfr hlo hd (fun H1 locs1 hP1 hD1 hS1 => ?_)
  rw [g_ws_set (I' := g_cpy I k0 sp k1 dp m) (J' := J) (R' := R) hs1.1 ?_ (fun a ha => g_E_same (funext fun j => g_cpy_k ha) rfl rfl)] at hP1
  · exact kk _ rfl H1 locs1 ls hP1 hS1 hl
  · simp only [g_E, hs1.2]
    rw [if_pos (by decide)]
    congr 4
    funext j
    simp only [va_cpy, e1, e2, e3, g_cpy]
    by_cases hj : dp ≤ (j : Int) ∧ (j : Int) < dp + m
    · have hj2 : dp.toNat ≤ j ∧ j < dp.toNat + m.toNat := by omega
      rw [if_pos hj2]
      simp only [true_and, hj, if_true]
      congr 2
      omega
    · have hj2 : ¬ (dp.toNat ≤ j ∧ j < dp.toNat + m.toNat) := by omega
      rw [if_neg hj2]
      simp only [true_and, hj, if_false]
theorem gq_ldcw {idx : Nat} {k : Int} (hc : g_OK w x cc nL rt own d) (hd : decode cc pc = .ok (.ldc_w idx, 3)) (z : Int32) (hw : Cond.constant own idx z ∈ g_tb) (hz : z = Int32.ofInt k) (kk : GQ w x P u v n I J R (pc + 3) L (gvI k :: st)) : GQ w x P u v n I J R pc L st := by
  obtain ⟨p, e, Rm, s, m, args, below, meth, c, mc, ms⟩ := x
  obtain ⟨hx, hb, hml, hr, hown, hts, hK, hsta, hlk, hsz, hRm⟩ := hc
  subst hz
  exact fun H locs ls hP hS hl => lv_ldcw hx hb hown (hts _ hw) hd (kk H locs ls hP hS hl)
theorem gq_mmaxI {idx : Nat} {a b : Int} (hc : g_OK w x cc nL rt own d) (ha : g32 a) (hb2 : g32 b) (hLn : L.length = nL) (hlk : Cond.methodLink own idx Lib.Math.max.name ∈ g_tb) (hstat : Cond.static Lib.Math.max.name ∈ g_tb) (hini : Cond.initialized "java/lang/Math" ∈ g_tb) (hcode : Cond.code Lib.Math.max.name Lib.Math.max.code 2 (some .int) ∈ g_tb) (hd1 : 1 ≤ d) (hroom : (st.map fun z => z.category).sum ≤ 8) (hm : x.2.2.2.2.2.2.2.2.2.1 = u ∧ x.2.2.2.2.2.2.2.2.2.2 = v) (hd : decode cc pc = .ok (.invokestatic idx, 3)) (kk : GQ w x P u v n I J R (pc + 3) L (gvI (max a b) :: st)) : GQ w x P u v n I J R pc L (gvI b :: gvI a :: st) := by
  obtain ⟨p, e, Rm, s, m, args, below, meth, c, mc, ms⟩ := x
  obtain ⟨hx, hb, hml, hr, hown, hts, hK, hsta, hlk2, hsz, hRm⟩ := hc
  intro H locs ls hP hS hl
  have h2 := kk H locs ls hP hS hl
  have hfr : 1 ≤ Rm.frames := by rw [hRm]; exact hd1
  have hlo : (st.map fun z => z.category).sum + 13 ≤ Rm.locals := by
    have h40 : Rm.locals = 40 * d := by rw [hRm]
    omega
  have hcl : u ≤ Rm.cells := by rw [hRm]; exact Nat.le_of_eq hm.1.symm
  have hsl : v ≤ Rm.slots := by rw [hRm]; exact Nat.le_of_eq hm.2.symm
  refine va_mmax (R := Rm) hx hb (by rw [hml, hl.1, hLn]) hown (hts _ hlk) (hts _ hstat) (hts _ hini) (hts _ hcode) hfr hlo hcl hsl hd ?_
  rw [gvI] at h2
  have e : (Int32.ofInt (max a b)) = (if Int32.ofInt a < Int32.ofInt b then Int32.ofInt b else Int32.ofInt a) := by
    split
    · rename_i q; rw [g_ltI ha hb2] at q; congr 1; omega
    · rename_i q; rw [g_ltI ha hb2] at q; congr 1; omega
  rw [e] at h2
  exact h2
theorem gq_mmaxL {idx : Nat} {a b : Int} (hc : g_OK w x cc nL rt own d) (ha : g64 a) (hb2 : g64 b) (hLn : L.length = nL) (hlk : Cond.methodLink own idx Lib.MathLoose.max_long.x ∈ g_tb) (hstat : Cond.static Lib.MathLoose.max_long.x ∈ g_tb) (hini : Cond.initialized "java/lang/Math" ∈ g_tb) (hcode : Cond.code Lib.MathLoose.max_long.x Lib.MathLoose.max_long.code 4 (some .long) ∈ g_tb) (hd1 : 1 ≤ d) (hroom : (st.map fun z => z.category).sum ≤ 8) (hm : x.2.2.2.2.2.2.2.2.2.1 = u ∧ x.2.2.2.2.2.2.2.2.2.2 = v) (hd : decode cc pc = .ok (.invokestatic idx, 3)) (kk : GQ w x P u v n I J R (pc + 3) L (gvL (max a b) :: st)) : GQ w x P u v n I J R pc L (gvL b :: gvL a :: st) := by
  obtain ⟨p, e, Rm, s, m, args, below, meth, c, mc, ms⟩ := x
  obtain ⟨hx, hb, hml, hr, hown, hts, hK, hsta, hlk2, hsz, hRm⟩ := hc
  intro H locs ls hP hS hl
  have h2 := kk H locs ls hP hS hl
  have hfr : 1 ≤ Rm.frames := by rw [hRm]; exact hd1
  have hlo : (st.map fun z => z.category).sum + 15 ≤ Rm.locals := by
    have h40 : Rm.locals = 40 * d := by rw [hRm]
    omega
  have hcl : u ≤ Rm.cells := by rw [hRm]; exact Nat.le_of_eq hm.1.symm
  have hsl : v ≤ Rm.slots := by rw [hRm]; exact Nat.le_of_eq hm.2.symm
  refine va_mmax_long (R := Rm) hx hb (by rw [hml, hl.1, hLn]) hown (hts _ hlk) (hts _ hstat) (hts _ hini) (hts _ hcode) hfr hlo hcl hsl hd ?_
  rw [gvL] at h2
  have e : (Int64.ofInt (max a b)) = (if Int64.ofInt b < Int64.ofInt a then Int64.ofInt a else Int64.ofInt b) := by
    split
    · rename_i q; rw [g_ltL hb2 ha] at q; congr 1; omega
    · rename_i q; rw [g_ltL hb2 ha] at q; congr 1; omega
  rw [e] at h2
  exact h2
theorem gq_mminL {idx : Nat} {a b : Int} (hc : g_OK w x cc nL rt own d) (ha : g64 a) (hb2 : g64 b) (hLn : L.length = nL) (hlk : Cond.methodLink own idx Lib.MathLoose.min_long.x ∈ g_tb) (hstat : Cond.static Lib.MathLoose.min_long.x ∈ g_tb) (hini : Cond.initialized "java/lang/Math" ∈ g_tb) (hcode : Cond.code Lib.MathLoose.min_long.x Lib.MathLoose.min_long.code 4 (some .long) ∈ g_tb) (hd1 : 1 ≤ d) (hroom : (st.map fun z => z.category).sum ≤ 8) (hm : x.2.2.2.2.2.2.2.2.2.1 = u ∧ x.2.2.2.2.2.2.2.2.2.2 = v) (hd : decode cc pc = .ok (.invokestatic idx, 3)) (kk : GQ w x P u v n I J R (pc + 3) L (gvL (min a b) :: st)) : GQ w x P u v n I J R pc L (gvL b :: gvL a :: st) := by
  obtain ⟨p, e, Rm, s, m, args, below, meth, c, mc, ms⟩ := x
  obtain ⟨hx, hb, hml, hr, hown, hts, hK, hsta, hlk2, hsz, hRm⟩ := hc
  intro H locs ls hP hS hl
  have h2 := kk H locs ls hP hS hl
  have hfr : 1 ≤ Rm.frames := by rw [hRm]; exact hd1
  have hlo : (st.map fun z => z.category).sum + 15 ≤ Rm.locals := by
    have h40 : Rm.locals = 40 * d := by rw [hRm]
    omega
  have hcl : u ≤ Rm.cells := by rw [hRm]; exact Nat.le_of_eq hm.1.symm
  have hsl : v ≤ Rm.slots := by rw [hRm]; exact Nat.le_of_eq hm.2.symm
  refine va_mmin_long (R := Rm) hx hb (by rw [hml, hl.1, hLn]) hown (hts _ hlk) (hts _ hstat) (hts _ hini) (hts _ hcode) hfr hlo hcl hsl hd ?_
  rw [gvL] at h2
  have e : (Int64.ofInt (min a b)) = (if Int64.ofInt b < Int64.ofInt a then Int64.ofInt b else Int64.ofInt a) := by
    split
    · rename_i q; rw [g_ltL hb2 ha] at q; congr 1; omega
    · rename_i q; rw [g_ltL hb2 ha] at q; congr 1; omega
  rw [e] at h2
  exact h2
theorem gq_ldcT {idx i : Nat} {tx : String} (hc : g_OK w x cc nL rt own d) (hq : (own, idx, tx, i) ∈ g_str) (hd : decode cc pc = .ok (.ldc_w idx, 3)) (kk : GQ w x P u v n I J R (pc + 3) L (.ref (w.2.2.2.2 (100 + i)) :: st)) : GQ w x P u v n I J R pc L st := by
  obtain ⟨p, e, Rm, s, m, args, below, meth, c, mc, ms⟩ := x
  obtain ⟨hx, hb, hml, hr, hown, hts, hK, hsta, hlk, hsz, hRm⟩ := hc
  intro H locs ls hP hS hll
  have k := kk H locs ls hP hS hll
  intro T hT X
  obtain ⟨t, a1, b1⟩ := k T hT X
  have hz := hsta.2.2.1 _ hq
  exact ⟨t, y_ldcW X hx hown hz ⟨hz.1, hz.2⟩ (by rw [hb]; exact hd) t a1, b1⟩
end GQR
