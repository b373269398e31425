section GROWS
variable {w : g_W} {x : g_C} {P : g_P} {u v n : Nat} {I : g_I} {J : g_J} {R : g_R} {pc : Nat} {L : List (Option Value)} {st : List Value} {cc : ByteArray} {nL : Nat} {rt : Option FieldType} {own : String} {d : Nat}

theorem gvI_add {a b : Int} : gvI (a + b) = .int (Int32.ofInt a + Int32.ofInt b) := by rw [gvI, Int32.ofInt_add]
theorem gvI_sub {a b : Int} : gvI (a - b) = .int (Int32.ofInt a - Int32.ofInt b) := by rw [gvI, Int32.ofInt_sub]
theorem gvI_mul {a b : Int} : gvI (a * b) = .int (Int32.ofInt a * Int32.ofInt b) := by rw [gvI, Int32.ofInt_mul]
theorem gvI_neg {a : Int} : gvI (-a) = .int (-Int32.ofInt a) := by rw [gvI, Int32.ofInt_neg]
theorem gvL_add {a b : Int} : gvL (a + b) = .long (Int64.ofInt a + Int64.ofInt b) := by rw [gvL, Int64.ofInt_add]
theorem gvL_sub {a b : Int} : gvL (a - b) = .long (Int64.ofInt a - Int64.ofInt b) := by rw [gvL, Int64.ofInt_sub]
theorem gvL_mul {a b : Int} : gvL (a * b) = .long (Int64.ofInt a * Int64.ofInt b) := by rw [gvL, Int64.ofInt_mul]
def g_and (a b : Int) : Int := (Int32.ofInt a &&& Int32.ofInt b).toInt
def g_or (a b : Int) : Int := (Int32.ofInt a ||| Int32.ofInt b).toInt
def g_xor (a b : Int) : Int := (Int32.ofInt a ^^^ Int32.ofInt b).toInt
def g_shl (a b : Int) : Int := (Int32.ofInt a <<< (Int32.ofInt b &&& 31)).toInt
def g_shr (a b : Int) : Int := (Int32.ofInt a >>> (Int32.ofInt b &&& 31)).toInt
def g_ushr (a b : Int) : Int := ((Int32.ofInt a).toUInt32 >>> ((Int32.ofInt b).toUInt32 &&& Int32.toUInt32 31)).toInt32.toInt
def g_lushr (a b : Int) : Int := ((Int64.ofInt a).toUInt64 >>> ((Int32.ofInt b).toInt64.toUInt64 &&& Int64.toUInt64 63)).toInt64.toInt
def g_lshl (a b : Int) : Int := (Int64.ofInt a <<< ((Int32.ofInt b).toInt64 &&& 63)).toInt
def g_land (a b : Int) : Int := (Int64.ofInt a &&& Int64.ofInt b).toInt
def g_lor (a b : Int) : Int := (Int64.ofInt a ||| Int64.ofInt b).toInt
theorem gvI_of (z : Int32) : gvI z.toInt = .int z := by rw [gvI, Int32.ofInt_toInt]
theorem gvL_of (z : Int64) : gvL z.toInt = .long z := by rw [gvL, Int64.ofInt_toInt]
theorem g32_of (z : Int32) : g32 z.toInt := ⟨Int32.le_toInt z, Int32.toInt_lt z⟩
theorem g64_of (z : Int64) : g64 z.toInt := ⟨Int64.le_toInt z, Int64.toInt_lt z⟩

theorem g_iadd {a b : Int} (hc : g_OK w x cc nL rt own d) (hd : decode cc pc = .ok (.iadd, 1)) (kk : G w x P u v n I J R (pc + 1) L (gvI (a + b) :: st)) : G w x P u v n I J R pc L (gvI b :: gvI a :: st) := by
  obtain ⟨p, e, Rm, s, m, args, below, meth, c, mc, ms⟩ := x
  obtain ⟨hx, hb, hml, hr, hown, hts, hK, hsta, hlk, hsz, hRm⟩ := hc
  rw [gvI_add] at kk
  exact fun H locs ls hP hS hl => lv_iadd hx hb hd (kk H locs ls hP hS hl)

theorem g_ladd {a b : Int} (hc : g_OK w x cc nL rt own d) (hd : decode cc pc = .ok (.ladd, 1)) (kk : G w x P u v n I J R (pc + 1) L (gvL (a + b) :: st)) : G w x P u v n I J R pc L (gvL b :: gvL a :: st) := by
  obtain ⟨p, e, Rm, s, m, args, below, meth, c, mc, ms⟩ := x
  obtain ⟨hx, hb, hml, hr, hown, hts, hK, hsta, hlk, hsz, hRm⟩ := hc
  rw [gvL_add] at kk
  exact fun H locs ls hP hS hl => lv_ladd hx hb hd (kk H locs ls hP hS hl)

theorem g_isub {a b : Int} (hc : g_OK w x cc nL rt own d) (hd : decode cc pc = .ok (.isub, 1)) (kk : G w x P u v n I J R (pc + 1) L (gvI (a - b) :: st)) : G w x P u v n I J R pc L (gvI b :: gvI a :: st) := by
  obtain ⟨p, e, Rm, s, m, args, below, meth, c, mc, ms⟩ := x
  obtain ⟨hx, hb, hml, hr, hown, hts, hK, hsta, hlk, hsz, hRm⟩ := hc
  rw [gvI_sub] at kk
  exact fun H locs ls hP hS hl => lv_isub hx hb hd (kk H locs ls hP hS hl)

theorem g_lsub {a b : Int} (hc : g_OK w x cc nL rt own d) (hd : decode cc pc = .ok (.lsub, 1)) (kk : G w x P u v n I J R (pc + 1) L (gvL (a - b) :: st)) : G w x P u v n I J R pc L (gvL b :: gvL a :: st) := by
  obtain ⟨p, e, Rm, s, m, args, below, meth, c, mc, ms⟩ := x
  obtain ⟨hx, hb, hml, hr, hown, hts, hK, hsta, hlk, hsz, hRm⟩ := hc
  rw [gvL_sub] at kk
  exact fun H locs ls hP hS hl => lv_lsub hx hb hd (kk H locs ls hP hS hl)

theorem g_imul {a b : Int} (hc : g_OK w x cc nL rt own d) (hd : decode cc pc = .ok (.imul, 1)) (kk : G w x P u v n I J R (pc + 1) L (gvI (a * b) :: st)) : G w x P u v n I J R pc L (gvI b :: gvI a :: st) := by
  obtain ⟨p, e, Rm, s, m, args, below, meth, c, mc, ms⟩ := x
  obtain ⟨hx, hb, hml, hr, hown, hts, hK, hsta, hlk, hsz, hRm⟩ := hc
  rw [gvI_mul] at kk
  exact fun H locs ls hP hS hl => lv_imul hx hb hd (kk H locs ls hP hS hl)

theorem g_lmul {a b : Int} (hc : g_OK w x cc nL rt own d) (hd : decode cc pc = .ok (.lmul, 1)) (kk : G w x P u v n I J R (pc + 1) L (gvL (a * b) :: st)) : G w x P u v n I J R pc L (gvL b :: gvL a :: st) := by
  obtain ⟨p, e, Rm, s, m, args, below, meth, c, mc, ms⟩ := x
  obtain ⟨hx, hb, hml, hr, hown, hts, hK, hsta, hlk, hsz, hRm⟩ := hc
  rw [gvL_mul] at kk
  exact fun H locs ls hP hS hl => lv_lmul hx hb hd (kk H locs ls hP hS hl)

theorem g_ineg {a : Int} (hc : g_OK w x cc nL rt own d) (hd : decode cc pc = .ok (.ineg, 1)) (kk : G w x P u v n I J R (pc + 1) L (gvI (-a) :: st)) : G w x P u v n I J R pc L (gvI a :: st) := by
  obtain ⟨p, e, Rm, s, m, args, below, meth, c, mc, ms⟩ := x
  obtain ⟨hx, hb, hml, hr, hown, hts, hK, hsta, hlk, hsz, hRm⟩ := hc
  rw [gvI_neg] at kk
  exact fun H locs ls hP hS hl => lv_ineg hx hb hd (kk H locs ls hP hS hl)

theorem g_iand {a b : Int} (hc : g_OK w x cc nL rt own d) (hd : decode cc pc = .ok (.iand, 1)) (kk : G w x P u v n I J R (pc + 1) L (gvI (g_and a b) :: st)) : G w x P u v n I J R pc L (gvI b :: gvI a :: st) := by
  obtain ⟨p, e, Rm, s, m, args, below, meth, c, mc, ms⟩ := x
  obtain ⟨hx, hb, hml, hr, hown, hts, hK, hsta, hlk, hsz, hRm⟩ := hc
  rw [g_and, gvI_of] at kk
  exact fun H locs ls hP hS hl => lv_iand hx hb hd (kk H locs ls hP hS hl)

theorem g_ior {a b : Int} (hc : g_OK w x cc nL rt own d) (hd : decode cc pc = .ok (.ior, 1)) (kk : G w x P u v n I J R (pc + 1) L (gvI (g_or a b) :: st)) : G w x P u v n I J R pc L (gvI b :: gvI a :: st) := by
  obtain ⟨p, e, Rm, s, m, args, below, meth, c, mc, ms⟩ := x
  obtain ⟨hx, hb, hml, hr, hown, hts, hK, hsta, hlk, hsz, hRm⟩ := hc
  rw [g_or, gvI_of] at kk
  exact fun H locs ls hP hS hl => lv_ior hx hb hd (kk H locs ls hP hS hl)

theorem g_ixor {a b : Int} (hc : g_OK w x cc nL rt own d) (hd : decode cc pc = .ok (.ixor, 1)) (kk : G w x P u v n I J R (pc + 1) L (gvI (g_xor a b) :: st)) : G w x P u v n I J R pc L (gvI b :: gvI a :: st) := by
  obtain ⟨p, e, Rm, s, m, args, below, meth, c, mc, ms⟩ := x
  obtain ⟨hx, hb, hml, hr, hown, hts, hK, hsta, hlk, hsz, hRm⟩ := hc
  rw [g_xor, gvI_of] at kk
  exact fun H locs ls hP hS hl => lv_ixor hx hb hd (kk H locs ls hP hS hl)

theorem g_ishl {a b : Int} (hc : g_OK w x cc nL rt own d) (hd : decode cc pc = .ok (.ishl, 1)) (kk : G w x P u v n I J R (pc + 1) L (gvI (g_shl a b) :: st)) : G w x P u v n I J R pc L (gvI b :: gvI a :: st) := by
  obtain ⟨p, e, Rm, s, m, args, below, meth, c, mc, ms⟩ := x
  obtain ⟨hx, hb, hml, hr, hown, hts, hK, hsta, hlk, hsz, hRm⟩ := hc
  rw [g_shl, gvI_of] at kk
  exact fun H locs ls hP hS hl => lv_ishl hx hb hd (kk H locs ls hP hS hl)

theorem g_ishr {a b : Int} (hc : g_OK w x cc nL rt own d) (hd : decode cc pc = .ok (.ishr, 1)) (kk : G w x P u v n I J R (pc + 1) L (gvI (g_shr a b) :: st)) : G w x P u v n I J R pc L (gvI b :: gvI a :: st) := by
  obtain ⟨p, e, Rm, s, m, args, below, meth, c, mc, ms⟩ := x
  obtain ⟨hx, hb, hml, hr, hown, hts, hK, hsta, hlk, hsz, hRm⟩ := hc
  rw [g_shr, gvI_of] at kk
  exact fun H locs ls hP hS hl => lv_ishr hx hb hd (kk H locs ls hP hS hl)

theorem g_iushr {a b : Int} (hc : g_OK w x cc nL rt own d) (hd : decode cc pc = .ok (.iushr, 1)) (kk : G w x P u v n I J R (pc + 1) L (gvI (g_ushr a b) :: st)) : G w x P u v n I J R pc L (gvI b :: gvI a :: st) := by
  obtain ⟨p, e, Rm, s, m, args, below, meth, c, mc, ms⟩ := x
  obtain ⟨hx, hb, hml, hr, hown, hts, hK, hsta, hlk, hsz, hRm⟩ := hc
  rw [g_ushr, gvI_of] at kk
  exact fun H locs ls hP hS hl => lv_iushr hx hb hd rfl (kk H locs ls hP hS hl)
theorem g_lushr' {a b : Int} (hc : g_OK w x cc nL rt own d) (hd : decode cc pc = .ok (.lushr, 1)) (kk : G w x P u v n I J R (pc + 1) L (gvL (g_lushr a b) :: st)) : G w x P u v n I J R pc L (gvI b :: gvL a :: st) := by
  obtain ⟨p, e, Rm, s, m, args, below, meth, c, mc, ms⟩ := x
  obtain ⟨hx, hb, hml, hr, hown, hts, hK, hsta, hlk, hsz, hRm⟩ := hc
  rw [g_lushr, gvL_of] at kk
  exact fun H locs ls hP hS hl => lv_lushr hx hb hd rfl (kk H locs ls hP hS hl)
theorem g_lshl' {a b : Int} (hc : g_OK w x cc nL rt own d) (hd : decode cc pc = .ok (.lshl, 1)) (kk : G w x P u v n I J R (pc + 1) L (gvL (g_lshl a b) :: st)) : G w x P u v n I J R pc L (gvI b :: gvL a :: st) := by
  obtain ⟨p, e, Rm, s, m, args, below, meth, c, mc, ms⟩ := x
  obtain ⟨hx, hb, hml, hr, hown, hts, hK, hsta, hlk, hsz, hRm⟩ := hc
  rw [g_lshl, gvL_of] at kk
  exact fun H locs ls hP hS hl => lv_lshl hx hb hd rfl (kk H locs ls hP hS hl)
theorem g_land' {a b : Int} (hc : g_OK w x cc nL rt own d) (hd : decode cc pc = .ok (.land, 1)) (kk : G w x P u v n I J R (pc + 1) L (gvL (g_land a b) :: st)) : G w x P u v n I J R pc L (gvL b :: gvL a :: st) := by
  obtain ⟨p, e, Rm, s, m, args, below, meth, c, mc, ms⟩ := x
  obtain ⟨hx, hb, hml, hr, hown, hts, hK, hsta, hlk, hsz, hRm⟩ := hc
  rw [g_land, gvL_of] at kk
  exact fun H locs ls hP hS hl => lv_land hx hb hd (kk H locs ls hP hS hl)
theorem g_lor' {a b : Int} (hc : g_OK w x cc nL rt own d) (hd : decode cc pc = .ok (.lor, 1)) (kk : G w x P u v n I J R (pc + 1) L (gvL (g_lor a b) :: st)) : G w x P u v n I J R pc L (gvL b :: gvL a :: st) := by
  obtain ⟨p, e, Rm, s, m, args, below, meth, c, mc, ms⟩ := x
  obtain ⟨hx, hb, hml, hr, hown, hts, hK, hsta, hlk, hsz, hRm⟩ := hc
  rw [g_lor, gvL_of] at kk
  exact fun H locs ls hP hS hl => lv_lor hx hb hd (kk H locs ls hP hS hl)
theorem g_mx32 : Int32.maxValue.toInt = 2147483647 := by decide +kernel
theorem g_mn32 : Int32.minValue.toInt = -2147483648 := by decide +kernel
theorem g_mx64 : Int64.maxValue.toInt = 9223372036854775807 := by decide +kernel
theorem g_mn64 : Int64.minValue.toInt = -9223372036854775808 := by decide +kernel
theorem g_divI {a b : Int} (ha : g32 a) (hb : g32 b) (hne : ¬ b = 0) : Int32.ofInt a / Int32.ofInt b = Int32.ofInt (a.tdiv b) := by
  rw [Int32.ofInt_tdiv (by rw [g_mn32]; exact ha.1) (by have := ha.2; rw [g_mx32]; omega) (by rw [g_mn32]; exact hb.1) (by have := hb.2; rw [g_mx32]; omega)]
theorem g_remI {a b : Int} (ha : g32 a) (hb : g32 b) (hne : ¬ b = 0) : Int32.ofInt a - Int32.ofInt a / Int32.ofInt b * Int32.ofInt b = Int32.ofInt (a.tmod b) := by
  rw [g_divI ha hb hne, ← Int32.ofInt_mul, ← Int32.ofInt_sub, Int.tmod_def, Int.mul_comm]
theorem g_divL {a b : Int} (ha : g64 a) (hb : g64 b) (hne : ¬ b = 0) : Int64.ofInt a / Int64.ofInt b = Int64.ofInt (a.tdiv b) := by
  rw [Int64.ofInt_tdiv (by rw [g_mn64]; exact ha.1) (by have := ha.2; rw [g_mx64]; omega) (by rw [g_mn64]; exact hb.1) (by have := hb.2; rw [g_mx64]; omega)]
theorem g_remL {a b : Int} (ha : g64 a) (hb : g64 b) (hne : ¬ b = 0) : Int64.ofInt a - Int64.ofInt a / Int64.ofInt b * Int64.ofInt b = Int64.ofInt (a.tmod b) := by
  rw [g_divL ha hb hne, ← Int64.ofInt_mul, ← Int64.ofInt_sub, Int.tmod_def, Int.mul_comm]
theorem g_ne0I {b : Int} (hb : g32 b) (hne : ¬ b = 0) : ¬ Int32.ofInt b = 0 := fun h => hne ((g_eqI hb ⟨by decide, by decide⟩).mp (by rw [h]; rfl))
theorem g_ne0L {b : Int} (hb : g64 b) (hne : ¬ b = 0) : ¬ Int64.ofInt b = 0 := fun h => by
  have h2 := congrArg Int64.toInt h
  rw [g64_to hb] at h2
  exact hne h2
theorem g_idiv {a b : Int} (hc : g_OK w x cc nL rt own d) (hd : decode cc pc = .ok (.idiv, 1)) (ha : g32 a) (hb2 : g32 b) (hne : ¬ b = 0) (kk : G w x P u v n I J R (pc + 1) L (gvI (a.tdiv b) :: st)) : G w x P u v n I J R pc L (gvI b :: gvI a :: st) := by
  obtain ⟨p, e, Rm, s, m, args, below, meth, c, mc, ms⟩ := x
  obtain ⟨hx, hb, hml, hr, hown, hts, hK, hsta, hlk, hsz, hRm⟩ := hc
  rw [gvI, ← g_divI ha hb2 hne] at kk
  exact fun H locs ls hP hS hl => lv_idiv hx hb hd (g_ne0I hb2 hne) (kk H locs ls hP hS hl)
theorem g_irem {a b : Int} (hc : g_OK w x cc nL rt own d) (hd : decode cc pc = .ok (.irem, 1)) (ha : g32 a) (hb2 : g32 b) (hne : ¬ b = 0) (kk : G w x P u v n I J R (pc + 1) L (gvI (a.tmod b) :: st)) : G w x P u v n I J R pc L (gvI b :: gvI a :: st) := by
  obtain ⟨p, e, Rm, s, m, args, below, meth, c, mc, ms⟩ := x
  obtain ⟨hx, hb, hml, hr, hown, hts, hK, hsta, hlk, hsz, hRm⟩ := hc
  rw [gvI, ← g_remI ha hb2 hne] at kk
  exact fun H locs ls hP hS hl => lv_irem hx hb hd (g_ne0I hb2 hne) (kk H locs ls hP hS hl)
theorem g_ldiv {a b : Int} (hc : g_OK w x cc nL rt own d) (hd : decode cc pc = .ok (.ldiv, 1)) (ha : g64 a) (hb2 : g64 b) (hne : ¬ b = 0) (kk : G w x P u v n I J R (pc + 1) L (gvL (a.tdiv b) :: st)) : G w x P u v n I J R pc L (gvL b :: gvL a :: st) := by
  obtain ⟨p, e, Rm, s, m, args, below, meth, c, mc, ms⟩ := x
  obtain ⟨hx, hb, hml, hr, hown, hts, hK, hsta, hlk, hsz, hRm⟩ := hc
  rw [gvL, ← g_divL ha hb2 hne] at kk
  exact fun H locs ls hP hS hl => lv_ldiv hx hb hd (g_ne0L hb2 hne) (kk H locs ls hP hS hl)
theorem g_lrem {a b : Int} (hc : g_OK w x cc nL rt own d) (hd : decode cc pc = .ok (.lrem, 1)) (ha : g64 a) (hb2 : g64 b) (hne : ¬ b = 0) (kk : G w x P u v n I J R (pc + 1) L (gvL (a.tmod b) :: st)) : G w x P u v n I J R pc L (gvL b :: gvL a :: st) := by
  obtain ⟨p, e, Rm, s, m, args, below, meth, c, mc, ms⟩ := x
  obtain ⟨hx, hb, hml, hr, hown, hts, hK, hsta, hlk, hsz, hRm⟩ := hc
  rw [gvL, ← g_remL ha hb2 hne] at kk
  exact fun H locs ls hP hS hl => lv_lrem hx hb hd (g_ne0L hb2 hne) (kk H locs ls hP hS hl)
theorem g_i2l {a : Int} (hc : g_OK w x cc nL rt own d) (hd : decode cc pc = .ok (.i2l, 1)) (ha : g32 a) (kk : G w x P u v n I J R (pc + 1) L (gvL a :: st)) : G w x P u v n I J R pc L (gvI a :: st) := by
  obtain ⟨p, e, Rm, s, m, args, below, meth, c, mc, ms⟩ := x
  obtain ⟨hx, hb, hml, hr, hown, hts, hK, hsta, hlk, hsz, hRm⟩ := hc
  exact fun H locs ls hP hS hl => lv_i2l hx hb hd (Int32.toInt64_ofInt (by rw [g_mn32]; exact ha.1) (by have := ha.2; rw [g_mx32]; omega)) (kk H locs ls hP hS hl)
theorem g_l2i {a : Int} (hc : g_OK w x cc nL rt own d) (hd : decode cc pc = .ok (.l2i, 1)) (kk : G w x P u v n I J R (pc + 1) L (gvI a :: st)) : G w x P u v n I J R pc L (gvL a :: st) := by
  obtain ⟨p, e, Rm, s, m, args, below, meth, c, mc, ms⟩ := x
  obtain ⟨hx, hb, hml, hr, hown, hts, hK, hsta, hlk, hsz, hRm⟩ := hc
  exact fun H locs ls hP hS hl => lv_l2i hx hb hd Int64.toInt32_ofInt (kk H locs ls hP hS hl)
def g_i2b' (a : Int) : Int := (Int32.ofInt a).toInt8.toInt32.toInt
def g_i2c' (a : Int) : Int := ((Int32.ofInt a).toUInt32 % 65536).toInt32.toInt
theorem g_i2b {a : Int} (hc : g_OK w x cc nL rt own d) (hd : decode cc pc = .ok (.i2b, 1)) (kk : G w x P u v n I J R (pc + 1) L (gvI (g_i2b' a) :: st)) : G w x P u v n I J R pc L (gvI a :: st) := by
  obtain ⟨p, e, Rm, s, m, args, below, meth, c, mc, ms⟩ := x
  obtain ⟨hx, hb, hml, hr, hown, hts, hK, hsta, hlk, hsz, hRm⟩ := hc
  rw [g_i2b', gvI_of] at kk
  exact fun H locs ls hP hS hl => lv_i2b hx hb hd rfl (kk H locs ls hP hS hl)
theorem g_i2c {a : Int} (hc : g_OK w x cc nL rt own d) (hd : decode cc pc = .ok (.i2c, 1)) (kk : G w x P u v n I J R (pc + 1) L (gvI (g_i2c' a) :: st)) : G w x P u v n I J R pc L (gvI a :: st) := by
  obtain ⟨p, e, Rm, s, m, args, below, meth, c, mc, ms⟩ := x
  obtain ⟨hx, hb, hml, hr, hown, hts, hK, hsta, hlk, hsz, hRm⟩ := hc
  rw [g_i2c', gvI_of] at kk
  exact fun H locs ls hP hS hl => lv_i2c hx hb hd rfl (kk H locs ls hP hS hl)
theorem g_cmpL {a b : Int} (ha : g64 a) (hb : g64 b) : lg_cmp (Int64.ofInt a) (Int64.ofInt b) = Int32.ofInt (if b < a then 1 else if a = b then 0 else -1) := by
  have e1 : Int64.ofInt b < Int64.ofInt a ↔ b < a := by rw [Int64.lt_iff_toInt_lt, g64_to ha, g64_to hb]
  have e2 : Int64.ofInt a = Int64.ofInt b ↔ a = b := by rw [← Int64.toInt_inj, g64_to ha, g64_to hb]
  unfold lg_cmp
  by_cases h1 : b < a
  · rw [if_pos h1, if_pos (e1.mpr h1)]; rfl
  · rw [if_neg h1, if_neg (fun q => h1 (e1.mp q))]
    by_cases h2 : a = b
    · rw [if_pos h2, if_pos (e2.mpr h2)]; rfl
    · rw [if_neg h2, if_neg (fun q => h2 (e2.mp q))]; rfl
theorem g_lcmp {a b : Int} (hc : g_OK w x cc nL rt own d) (hd : decode cc pc = .ok (.lcmp, 1)) (ha : g64 a) (hb2 : g64 b) (kk : G w x P u v n I J R (pc + 1) L (gvI (if b < a then 1 else if a = b then 0 else -1) :: st)) : G w x P u v n I J R pc L (gvL b :: gvL a :: st) := by
  obtain ⟨p, e, Rm, s, m, args, below, meth, c, mc, ms⟩ := x
  obtain ⟨hx, hb, hml, hr, hown, hts, hK, hsta, hlk, hsz, hRm⟩ := hc
  rw [gvI, ← g_cmpL ha hb2] at kk
  exact fun H locs ls hP hS hl => W.lcmp hx hb hd (kk H locs ls hP hS hl)
theorem g_iconst {k : Int} (hc : g_OK w x cc nL rt own d) (hd : decode cc pc = .ok (.iconst k, 1)) (kk : G w x P u v n I J R (pc + 1) L (gvI k :: st)) : G w x P u v n I J R pc L st := by
  obtain ⟨p, e, Rm, s, m, args, below, meth, c, mc, ms⟩ := x
  obtain ⟨hx, hb, hml, hr, hown, hts, hK, hsta, hlk, hsz, hRm⟩ := hc
  exact fun H locs ls hP hS hl => lv_iconst hx hb hd rfl (kk H locs ls hP hS hl)
theorem g_bipush {k : Int} (hc : g_OK w x cc nL rt own d) (hd : decode cc pc = .ok (.bipush k, 2)) (hk : (Int8.ofInt k).toInt32 = Int32.ofInt k) (kk : G w x P u v n I J R (pc + 2) L (gvI k :: st)) : G w x P u v n I J R pc L st := by
  obtain ⟨p, e, Rm, s, m, args, below, meth, c, mc, ms⟩ := x
  obtain ⟨hx, hb, hml, hr, hown, hts, hK, hsta, hlk, hsz, hRm⟩ := hc
  exact fun H locs ls hP hS hl => lv_bipush hx hb hd hk (kk H locs ls hP hS hl)
theorem g_sipush {k : Int} (hc : g_OK w x cc nL rt own d) (hd : decode cc pc = .ok (.sipush k, 3)) (hk : (Int16.ofInt k).toInt32 = Int32.ofInt k) (kk : G w x P u v n I J R (pc + 3) L (gvI k :: st)) : G w x P u v n I J R pc L st := by
  obtain ⟨p, e, Rm, s, m, args, below, meth, c, mc, ms⟩ := x
  obtain ⟨hx, hb, hml, hr, hown, hts, hK, hsta, hlk, hsz, hRm⟩ := hc
  exact fun H locs ls hP hS hl => lv_sipush hx hb hd hk (kk H locs ls hP hS hl)
theorem g_ldc {idx : Nat} {k : Int} (hc : g_OK w x cc nL rt own d) (hd : decode cc pc = .ok (.ldc idx, 2)) (z : Int32) (hw : Cond.constant own idx z ∈ g_tb) (hz : z = Int32.ofInt k) (kk : G w x P u v n I J R (pc + 2) L (gvI k :: st)) : G w x P u v n I J R pc L st := by
  obtain ⟨p, e, Rm, s, m, args, below, meth, c, mc, ms⟩ := x
  obtain ⟨hx, hb, hml, hr, hown, hts, hK, hsta, hlk, hsz, hRm⟩ := hc
  subst hz
  exact fun H locs ls hP hS hl => lv_ldc hx hb hown (hts _ hw) hd (kk H locs ls hP hS hl)
theorem g_ldc2 {idx : Nat} {k : Int} (hc : g_OK w x cc nL rt own d) (hd : decode cc pc = .ok (.ldc2_w idx, 3)) (z : Int64) (hw : Cond.constantLong own idx z ∈ g_tb) (hz : z = Int64.ofInt k) (kk : G w x P u v n I J R (pc + 3) L (gvL k :: st)) : G w x P u v n I J R pc L st := by
  obtain ⟨p, e, Rm, s, m, args, below, meth, c, mc, ms⟩ := x
  obtain ⟨hx, hb, hml, hr, hown, hts, hK, hsta, hlk, hsz, hRm⟩ := hc
  subst hz
  exact fun H locs ls hP hS hl => lv_ldc2 hx hb hown (hts _ hw) hd (kk H locs ls hP hS hl)
theorem g_lconst {k : Fin 2} (hc : g_OK w x cc nL rt own d) (hd : decode cc pc = .ok (.lconst k, 1)) (z : Int) (hk : Int64.ofNat (k : Nat) = Int64.ofInt z) (kk : G w x P u v n I J R (pc + 1) L (gvL z :: st)) : G w x P u v n I J R pc L st := by
  obtain ⟨p, e, Rm, s, m, args, below, meth, c, mc, ms⟩ := x
  obtain ⟨hx, hb, hml, hr, hown, hts, hK, hsta, hlk, hsz, hRm⟩ := hc
  exact fun H locs ls hP hS hl => lv_lconst hx hb hd hk (kk H locs ls hP hS hl)

theorem g_iload_n {k : Fin 4} {z : Int} (hc : g_OK w x cc nL rt own d) (hd : decode cc pc = .ok (.iload_n k, 1)) (hL : L[(k : Nat)]? = some (some (gvI z))) (kk : G w x P u v n I J R (pc + 1) L (gvI z :: st)) : G w x P u v n I J R pc L st := by
  obtain ⟨p, e, Rm, s, m, args, below, meth, c, mc, ms⟩ := x
  obtain ⟨hx, hb, hml, hr, hown, hts, hK, hsta, hlk, hsz, hRm⟩ := hc
  exact fun H locs ls hP hS hl => lv_iload_n hx hb hd rfl (hl.2.2 _ _ hL) (kk H locs ls hP hS hl)
theorem g_iload {i : Nat} {z : Int} (hc : g_OK w x cc nL rt own d) (hd : decode cc pc = .ok (.iload i, 2)) (hL : L[i]? = some (some (gvI z))) (kk : G w x P u v n I J R (pc + 2) L (gvI z :: st)) : G w x P u v n I J R pc L st := by
  obtain ⟨p, e, Rm, s, m, args, below, meth, c, mc, ms⟩ := x
  obtain ⟨hx, hb, hml, hr, hown, hts, hK, hsta, hlk, hsz, hRm⟩ := hc
  exact fun H locs ls hP hS hl => lv_iload hx hb hd (hl.2.2 _ _ hL) (kk H locs ls hP hS hl)

theorem g_lload_n {k : Fin 4} {z : Int} (hc : g_OK w x cc nL rt own d) (hd : decode cc pc = .ok (.lload_n k, 1)) (hL : L[(k : Nat)]? = some (some (gvL z))) (kk : G w x P u v n I J R (pc + 1) L (gvL z :: st)) : G w x P u v n I J R pc L st := by
  obtain ⟨p, e, Rm, s, m, args, below, meth, c, mc, ms⟩ := x
  obtain ⟨hx, hb, hml, hr, hown, hts, hK, hsta, hlk, hsz, hRm⟩ := hc
  exact fun H locs ls hP hS hl => lv_lload_n hx hb hd rfl (hl.2.2 _ _ hL) (kk H locs ls hP hS hl)
theorem g_lload {i : Nat} {z : Int} (hc : g_OK w x cc nL rt own d) (hd : decode cc pc = .ok (.lload i, 2)) (hL : L[i]? = some (some (gvL z))) (kk : G w x P u v n I J R (pc + 2) L (gvL z :: st)) : G w x P u v n I J R pc L st := by
  obtain ⟨p, e, Rm, s, m, args, below, meth, c, mc, ms⟩ := x
  obtain ⟨hx, hb, hml, hr, hown, hts, hK, hsta, hlk, hsz, hRm⟩ := hc
  exact fun H locs ls hP hS hl => lv_lload hx hb hd (hl.2.2 _ _ hL) (kk H locs ls hP hS hl)

theorem g_aload_n {k : Fin 4} {z : Nat} (hc : g_OK w x cc nL rt own d) (hd : decode cc pc = .ok (.aload_n k, 1)) (hL : L[(k : Nat)]? = some (some (.ref z))) (kk : G w x P u v n I J R (pc + 1) L (.ref z :: st)) : G w x P u v n I J R pc L st := by
  obtain ⟨p, e, Rm, s, m, args, below, meth, c, mc, ms⟩ := x
  obtain ⟨hx, hb, hml, hr, hown, hts, hK, hsta, hlk, hsz, hRm⟩ := hc
  exact fun H locs ls hP hS hl => lv_aload_n hx hb hd rfl (hl.2.2 _ _ hL) (kk H locs ls hP hS hl)
theorem g_aload {i : Nat} {z : Nat} (hc : g_OK w x cc nL rt own d) (hd : decode cc pc = .ok (.aload i, 2)) (hL : L[i]? = some (some (.ref z))) (kk : G w x P u v n I J R (pc + 2) L (.ref z :: st)) : G w x P u v n I J R pc L st := by
  obtain ⟨p, e, Rm, s, m, args, below, meth, c, mc, ms⟩ := x
  obtain ⟨hx, hb, hml, hr, hown, hts, hK, hsta, hlk, hsz, hRm⟩ := hc
  exact fun H locs ls hP hS hl => lv_aload hx hb hd (hl.2.2 _ _ hL) (kk H locs ls hP hS hl)

/-- no long ends ahead of place i -/
def g_c1 (L : List (Option Value)) (i : Nat) : Bool := match i with
  | 0 => true
  | i + 1 => match L[i]? with
    | some (some q) => q.category == 1
    | _ => true
theorem g_lh_set1 {ls' : Array Slot} {L : List (Option Value)} {i : Nat} {q : Value} (hp : g_c1 L i = true) (h : lv_has ls' L.length ((i, q) :: (g_ll L).filter (fun z => !(z.1 == i) && !(z.1 + 1 == i && z.2.category == 2)))) : g_lh ls' (L.set i (some q)) := by
  refine ⟨by rw [List.length_set]; exact h.1, h.2.1, fun j z hz => ?_⟩
  by_cases hj : j = i
  · subst hj
    have hl : j < L.length := by
      have := (List.getElem?_eq_some_iff.mp hz).1
      simpa using this
    rw [List.getElem?_set_self hl] at hz
    cases hz
    exact h.2.2 (j, _) List.mem_cons_self
  · rw [List.getElem?_set_ne (Ne.symm hj)] at hz
    refine h.2.2 (j, z) (List.mem_cons_of_mem _ (List.mem_filter.mpr ⟨g_ll_in.mpr hz, ?_⟩))
    have h1 : (j == i) = false := by simpa using hj
    have h2 : (j + 1 == i && z.category == 2) = false := by
      by_cases e : j + 1 = i
      · subst e
        have hp2 : (match L[j]? with | some (some q) => q.category == 1 | _ => true) = true := hp
        rw [hz] at hp2
        have : z.category = 1 := by simpa using hp2
        rw [this]; simp
      · have : (j + 1 == i) = false := by simpa using e
        rw [this]; rfl
    rw [h1, h2]; rfl
theorem g_lh_set2 {ls' : Array Slot} {L : List (Option Value)} {i : Nat} {q : Value} (hp : g_c1 L i = true) (h : lv_has ls' L.length ((i, q) :: (g_ll L).filter (fun z => !(z.1 == i) && (!(z.1 == i + 1) && !(z.1 + 1 == i && z.2.category == 2))))) : g_lh ls' ((L.set i (some q)).set (i + 1) none) := by
  refine ⟨by rw [List.length_set, List.length_set]; exact h.1, h.2.1, fun j z hz => ?_⟩
  have hj1 : j ≠ i + 1 := by
    intro e
    subst e
    have hl := (List.getElem?_eq_some_iff.mp hz).1
    rw [List.getElem?_set_self (by simpa using hl)] at hz
    cases hz
  rw [List.getElem?_set_ne (Ne.symm hj1)] at hz
  by_cases hj : j = i
  · subst hj
    have hl : j < L.length := by
      have := (List.getElem?_eq_some_iff.mp hz).1
      simpa using this
    rw [List.getElem?_set_self hl] at hz
    cases hz
    exact h.2.2 (j, _) List.mem_cons_self
  · rw [List.getElem?_set_ne (Ne.symm hj)] at hz
    refine h.2.2 (j, z) (List.mem_cons_of_mem _ (List.mem_filter.mpr ⟨g_ll_in.mpr hz, ?_⟩))
    have h1 : (j == i) = false := by simpa using hj
    have h3 : (j == i + 1) = false := by simpa using hj1
    have h2 : (j + 1 == i && z.category == 2) = false := by
      by_cases e : j + 1 = i
      · subst e
        have hp2 : (match L[j]? with | some (some q) => q.category == 1 | _ => true) = true := hp
        rw [hz] at hp2
        have : z.category = 1 := by simpa using hp2
        rw [this]; simp
      · have : (j + 1 == i) = false := by simpa using e
        rw [this]; rfl
    rw [h1, h2, h3]; rfl

theorem g_istore_n' {k : Fin 4} {z : Int} {L' : List (Option Value)} (hc : g_OK w x cc nL rt own d) (hd : decode cc pc = .ok (.istore_n k, 1)) (hp : g_c1 L k = true) (hk : (k : Nat) < L.length) (hL : L.set k (some (gvI z)) = L') (kk : G w x P u v n I J R (pc + 1) L' st) : G w x P u v n I J R pc L (gvI z :: st) := by
  obtain ⟨p, e, Rm, s, m, args, below, meth, c, mc, ms⟩ := x
  obtain ⟨hx, hb, hml, hr, hown, hts, hK, hsta, hlk, hsz, hRm⟩ := hc
  subst hL
  exact fun H locs ls hP hS hl => lv_istore_n hx hb hd rfl (g_lh_has.mp hl) hk rfl (fun ls' h' => kk H locs ls' hP hS (g_lh_set1 hp h'))
theorem g_istore' {i : Nat} {z : Int} {L' : List (Option Value)} (hc : g_OK w x cc nL rt own d) (hd : decode cc pc = .ok (.istore i, 2)) (hp : g_c1 L i = true) (hk : i < L.length) (hL : L.set i (some (gvI z)) = L') (kk : G w x P u v n I J R (pc + 2) L' st) : G w x P u v n I J R pc L (gvI z :: st) := by
  obtain ⟨p, e, Rm, s, m, args, below, meth, c, mc, ms⟩ := x
  obtain ⟨hx, hb, hml, hr, hown, hts, hK, hsta, hlk, hsz, hRm⟩ := hc
  subst hL
  exact fun H locs ls hP hS hl => lv_istore hx hb hd (g_lh_has.mp hl) hk rfl (fun ls' h' => kk H locs ls' hP hS (g_lh_set1 hp h'))

theorem g_astore_n' {k : Fin 4} {z : Nat} {L' : List (Option Value)} (hc : g_OK w x cc nL rt own d) (hd : decode cc pc = .ok (.astore_n k, 1)) (hp : g_c1 L k = true) (hk : (k : Nat) < L.length) (hL : L.set k (some (.ref z)) = L') (kk : G w x P u v n I J R (pc + 1) L' st) : G w x P u v n I J R pc L (.ref z :: st) := by
  obtain ⟨p, e, Rm, s, m, args, below, meth, c, mc, ms⟩ := x
  obtain ⟨hx, hb, hml, hr, hown, hts, hK, hsta, hlk, hsz, hRm⟩ := hc
  subst hL
  exact fun H locs ls hP hS hl => lv_astore_n hx hb hd rfl (g_lh_has.mp hl) hk rfl (fun ls' h' => kk H locs ls' hP hS (g_lh_set1 hp h'))
theorem g_astore' {i : Nat} {z : Nat} {L' : List (Option Value)} (hc : g_OK w x cc nL rt own d) (hd : decode cc pc = .ok (.astore i, 2)) (hp : g_c1 L i = true) (hk : i < L.length) (hL : L.set i (some (.ref z)) = L') (kk : G w x P u v n I J R (pc + 2) L' st) : G w x P u v n I J R pc L (.ref z :: st) := by
  obtain ⟨p, e, Rm, s, m, args, below, meth, c, mc, ms⟩ := x
  obtain ⟨hx, hb, hml, hr, hown, hts, hK, hsta, hlk, hsz, hRm⟩ := hc
  subst hL
  exact fun H locs ls hP hS hl => lv_astore hx hb hd (g_lh_has.mp hl) hk rfl (fun ls' h' => kk H locs ls' hP hS (g_lh_set1 hp h'))

theorem g_lstore_n' {k : Fin 4} {z : Int} {L' : List (Option Value)} (hc : g_OK w x cc nL rt own d) (hd : decode cc pc = .ok (.lstore_n k, 1)) (hp : g_c1 L k = true) (hk : (k : Nat) + 1 < L.length) (hL : (L.set k (some (gvL z))).set ((k : Nat) + 1) none = L') (kk : G w x P u v n I J R (pc + 1) L' st) : G w x P u v n I J R pc L (gvL z :: st) := by
  obtain ⟨p, e, Rm, s, m, args, below, meth, c, mc, ms⟩ := x
  obtain ⟨hx, hb, hml, hr, hown, hts, hK, hsta, hlk, hsz, hRm⟩ := hc
  subst hL
  exact fun H locs ls hP hS hl => lv_lstore_n hx hb hd rfl (g_lh_has.mp hl) hk rfl (fun ls' h' => kk H locs ls' hP hS (g_lh_set2 hp h'))
theorem g_lstore' {i : Nat} {z : Int} {L' : List (Option Value)} (hc : g_OK w x cc nL rt own d) (hd : decode cc pc = .ok (.lstore i, 2)) (hp : g_c1 L i = true) (hk : i + 1 < L.length) (hL : (L.set i (some (gvL z))).set (i + 1) none = L') (kk : G w x P u v n I J R (pc + 2) L' st) : G w x P u v n I J R pc L (gvL z :: st) := by
  obtain ⟨p, e, Rm, s, m, args, below, meth, c, mc, ms⟩ := x
  obtain ⟨hx, hb, hml, hr, hown, hts, hK, hsta, hlk, hsz, hRm⟩ := hc
  subst hL
  exact fun H locs ls hP hS hl => lv_lstore hx hb hd (g_lh_has.mp hl) hk rfl (fun ls' h' => kk H locs ls' hP hS (g_lh_set2 hp h'))
theorem g_iinc' {i : Nat} {k z : Int} {L' : List (Option Value)} (hc : g_OK w x cc nL rt own d) (hd : decode cc pc = .ok (.iinc i k, 3)) (hp : g_c1 L i = true) (hz : L[i]? = some (some (gvI z))) (hL : L.set i (some (gvI (z + k))) = L') (kk : G w x P u v n I J R (pc + 3) L' st) : G w x P u v n I J R pc L st := by
  obtain ⟨p, e, Rm, s, m, args, below, meth, c, mc, ms⟩ := x
  obtain ⟨hx, hb, hml, hr, hown, hts, hK, hsta, hlk, hsz, hRm⟩ := hc
  subst hL
  intro H locs ls hP hS hl
  have hq : ((i, gvI z) : Nat × Value) ∈ g_ll L := g_ll_in.mpr hz
  obtain ⟨k0, hk0⟩ := List.getElem?_of_mem hq
  refine lv_iinc (v := Int32.ofInt (z + k)) hx hb hd (g_lh_has.mp hl) hk0 (by rw [Int32.ofInt_add]) (List.getElem?_eq_some_iff.mp hz).1 rfl (fun ls' h' => kk H locs ls' hP hS (g_lh_set1 hp h'))

theorem g_istore_0 {c0 : Option Value} {t : List (Option Value)} {z : Int} (hc : g_OK w x cc nL rt own d) (hd : decode cc pc = .ok (.istore_n 0, 1)) (kk : G w x P u v n I J R (pc + 1) (some (gvI z) :: t) st) : G w x P u v n I J R pc (c0 :: t) (gvI z :: st) := g_istore_n' hc hd rfl (show 0 < _ by simp only [List.length_cons]; omega) rfl kk

theorem g_astore_0 {c0 : Option Value} {t : List (Option Value)} {z : Nat} (hc : g_OK w x cc nL rt own d) (hd : decode cc pc = .ok (.astore_n 0, 1)) (kk : G w x P u v n I J R (pc + 1) (some (.ref z) :: t) st) : G w x P u v n I J R pc (c0 :: t) (.ref z :: st) := g_astore_n' hc hd rfl (show 0 < _ by simp only [List.length_cons]; omega) rfl kk

theorem g_lstore_0 {c0 c1 : Option Value} {t : List (Option Value)} {z : Int} (hc : g_OK w x cc nL rt own d) (hd : decode cc pc = .ok (.lstore_n 0, 1)) (kk : G w x P u v n I J R (pc + 1) (some (gvL z) :: none :: t) st) : G w x P u v n I J R pc (c0 :: c1 :: t) (gvL z :: st) := g_lstore_n' hc hd rfl (show 0 + 1 < _ by simp only [List.length_cons]; omega) rfl kk

theorem g_iinc_0 {t : List (Option Value)} {z k : Int} (hc : g_OK w x cc nL rt own d) (hd : decode cc pc = .ok (.iinc 0 k, 3)) (kk : G w x P u v n I J R (pc + 3) (some (gvI (z + k)) :: t) st) : G w x P u v n I J R pc (some (gvI z) :: t) st := g_iinc' hc hd rfl rfl rfl kk

theorem g_istore_1 {a0 : Option Value} {c0 : Option Value} {t : List (Option Value)} {z : Int} (hc : g_OK w x cc nL rt own d) (hd : decode cc pc = .ok (.istore_n 1, 1)) (hp : g_c1 [a0] 1 = true) (kk : G w x P u v n I J R (pc + 1) (a0 :: some (gvI z) :: t) st) : G w x P u v n I J R pc (a0 :: c0 :: t) (gvI z :: st) := g_istore_n' hc hd (by exact hp) (show 1 < _ by simp only [List.length_cons]; omega) rfl kk

theorem g_astore_1 {a0 : Option Value} {c0 : Option Value} {t : List (Option Value)} {z : Nat} (hc : g_OK w x cc nL rt own d) (hd : decode cc pc = .ok (.astore_n 1, 1)) (hp : g_c1 [a0] 1 = true) (kk : G w x P u v n I J R (pc + 1) (a0 :: some (.ref z) :: t) st) : G w x P u v n I J R pc (a0 :: c0 :: t) (.ref z :: st) := g_astore_n' hc hd (by exact hp) (show 1 < _ by simp only [List.length_cons]; omega) rfl kk

theorem g_lstore_1 {a0 : Option Value} {c0 c1 : Option Value} {t : List (Option Value)} {z : Int} (hc : g_OK w x cc nL rt own d) (hd : decode cc pc = .ok (.lstore_n 1, 1)) (hp : g_c1 [a0] 1 = true) (kk : G w x P u v n I J R (pc + 1) (a0 :: some (gvL z) :: none :: t) st) : G w x P u v n I J R pc (a0 :: c0 :: c1 :: t) (gvL z :: st) := g_lstore_n' hc hd (by exact hp) (show 1 + 1 < _ by simp only [List.length_cons]; omega) rfl kk

theorem g_iinc_1 {a0 : Option Value} {t : List (Option Value)} {z k : Int} (hc : g_OK w x cc nL rt own d) (hd : decode cc pc = .ok (.iinc 1 k, 3)) (hp : g_c1 [a0] 1 = true) (kk : G w x P u v n I J R (pc + 3) (a0 :: some (gvI (z + k)) :: t) st) : G w x P u v n I J R pc (a0 :: some (gvI z) :: t) st := g_iinc' hc hd (by exact hp) rfl rfl kk

theorem g_istore_2 {a0 a1 : Option Value} {c0 : Option Value} {t : List (Option Value)} {z : Int} (hc : g_OK w x cc nL rt own d) (hd : decode cc pc = .ok (.istore_n 2, 1)) (hp : g_c1 [a0, a1] 2 = true) (kk : G w x P u v n I J R (pc + 1) (a0 :: a1 :: some (gvI z) :: t) st) : G w x P u v n I J R pc (a0 :: a1 :: c0 :: t) (gvI z :: st) := g_istore_n' hc hd (by exact hp) (show 2 < _ by simp only [List.length_cons]; omega) rfl kk

theorem g_astore_2 {a0 a1 : Option Value} {c0 : Option Value} {t : List (Option Value)} {z : Nat} (hc : g_OK w x cc nL rt own d) (hd : decode cc pc = .ok (.astore_n 2, 1)) (hp : g_c1 [a0, a1] 2 = true) (kk : G w x P u v n I J R (pc + 1) (a0 :: a1 :: some (.ref z) :: t) st) : G w x P u v n I J R pc (a0 :: a1 :: c0 :: t) (.ref z :: st) := g_astore_n' hc hd (by exact hp) (show 2 < _ by simp only [List.length_cons]; omega) rfl kk

theorem g_lstore_2 {a0 a1 : Option Value} {c0 c1 : Option Value} {t : List (Option Value)} {z : Int} (hc : g_OK w x cc nL rt own d) (hd : decode cc pc = .ok (.lstore_n 2, 1)) (hp : g_c1 [a0, a1] 2 = true) (kk : G w x P u v n I J R (pc + 1) (a0 :: a1 :: some (gvL z) :: none :: t) st) : G w x P u v n I J R pc (a0 :: a1 :: c0 :: c1 :: t) (gvL z :: st) := g_lstore_n' hc hd (by exact hp) (show 2 + 1 < _ by simp only [List.length_cons]; omega) rfl kk

theorem g_iinc_2 {a0 a1 : Option Value} {t : List (Option Value)} {z k : Int} (hc : g_OK w x cc nL rt own d) (hd : decode cc pc = .ok (.iinc 2 k, 3)) (hp : g_c1 [a0, a1] 2 = true) (kk : G w x P u v n I J R (pc + 3) (a0 :: a1 :: some (gvI (z + k)) :: t) st) : G w x P u v n I J R pc (a0 :: a1 :: some (gvI z) :: t) st := g_iinc' hc hd (by exact hp) rfl rfl kk

theorem g_istore_3 {a0 a1 a2 : Option Value} {c0 : Option Value} {t : List (Option Value)} {z : Int} (hc : g_OK w x cc nL rt own d) (hd : decode cc pc = .ok (.istore_n 3, 1)) (hp : g_c1 [a0, a1, a2] 3 = true) (kk : G w x P u v n I J R (pc + 1) (a0 :: a1 :: a2 :: some (gvI z) :: t) st) : G w x P u v n I J R pc (a0 :: a1 :: a2 :: c0 :: t) (gvI z :: st) := g_istore_n' hc hd (by exact hp) (show 3 < _ by simp only [List.length_cons]; omega) rfl kk

theorem g_astore_3 {a0 a1 a2 : Option Value} {c0 : Option Value} {t : List (Option Value)} {z : Nat} (hc : g_OK w x cc nL rt own d) (hd : decode cc pc = .ok (.astore_n 3, 1)) (hp : g_c1 [a0, a1, a2] 3 = true) (kk : G w x P u v n I J R (pc + 1) (a0 :: a1 :: a2 :: some (.ref z) :: t) st) : G w x P u v n I J R pc (a0 :: a1 :: a2 :: c0 :: t) (.ref z :: st) := g_astore_n' hc hd (by exact hp) (show 3 < _ by simp only [List.length_cons]; omega) rfl kk

theorem g_lstore_3 {a0 a1 a2 : Option Value} {c0 c1 : Option Value} {t : List (Option Value)} {z : Int} (hc : g_OK w x cc nL rt own d) (hd : decode cc pc = .ok (.lstore_n 3, 1)) (hp : g_c1 [a0, a1, a2] 3 = true) (kk : G w x P u v n I J R (pc + 1) (a0 :: a1 :: a2 :: some (gvL z) :: none :: t) st) : G w x P u v n I J R pc (a0 :: a1 :: a2 :: c0 :: c1 :: t) (gvL z :: st) := g_lstore_n' hc hd (by exact hp) (show 3 + 1 < _ by simp only [List.length_cons]; omega) rfl kk

theorem g_iinc_3 {a0 a1 a2 : Option Value} {t : List (Option Value)} {z k : Int} (hc : g_OK w x cc nL rt own d) (hd : decode cc pc = .ok (.iinc 3 k, 3)) (hp : g_c1 [a0, a1, a2] 3 = true) (kk : G w x P u v n I J R (pc + 3) (a0 :: a1 :: a2 :: some (gvI (z + k)) :: t) st) : G w x P u v n I J R pc (a0 :: a1 :: a2 :: some (gvI z) :: t) st := g_iinc' hc hd (by exact hp) rfl rfl kk

theorem g_istore_4 {a0 a1 a2 a3 : Option Value} {c0 : Option Value} {t : List (Option Value)} {z : Int} (hc : g_OK w x cc nL rt own d) (hd : decode cc pc = .ok (.istore 4, 2)) (hp : g_c1 [a0, a1, a2, a3] 4 = true) (kk : G w x P u v n I J R (pc + 2) (a0 :: a1 :: a2 :: a3 :: some (gvI z) :: t) st) : G w x P u v n I J R pc (a0 :: a1 :: a2 :: a3 :: c0 :: t) (gvI z :: st) := g_istore' hc hd (by exact hp) (show 4 < _ by simp only [List.length_cons]; omega) rfl kk

theorem g_astore_4 {a0 a1 a2 a3 : Option Value} {c0 : Option Value} {t : List (Option Value)} {z : Nat} (hc : g_OK w x cc nL rt own d) (hd : decode cc pc = .ok (.astore 4, 2)) (hp : g_c1 [a0, a1, a2, a3] 4 = true) (kk : G w x P u v n I J R (pc + 2) (a0 :: a1 :: a2 :: a3 :: some (.ref z) :: t) st) : G w x P u v n I J R pc (a0 :: a1 :: a2 :: a3 :: c0 :: t) (.ref z :: st) := g_astore' hc hd (by exact hp) (show 4 < _ by simp only [List.length_cons]; omega) rfl kk

theorem g_lstore_4 {a0 a1 a2 a3 : Option Value} {c0 c1 : Option Value} {t : List (Option Value)} {z : Int} (hc : g_OK w x cc nL rt own d) (hd : decode cc pc = .ok (.lstore 4, 2)) (hp : g_c1 [a0, a1, a2, a3] 4 = true) (kk : G w x P u v n I J R (pc + 2) (a0 :: a1 :: a2 :: a3 :: some (gvL z) :: none :: t) st) : G w x P u v n I J R pc (a0 :: a1 :: a2 :: a3 :: c0 :: c1 :: t) (gvL z :: st) := g_lstore' hc hd (by exact hp) (show 4 + 1 < _ by simp only [List.length_cons]; omega) rfl kk

theorem g_iinc_4 {a0 a1 a2 a3 : Option Value} {t : List (Option Value)} {z k : Int} (hc : g_OK w x cc nL rt own d) (hd : decode cc pc = .ok (.iinc 4 k, 3)) (hp : g_c1 [a0, a1, a2, a3] 4 = true) (kk : G w x P u v n I J R (pc + 3) (a0 :: a1 :: a2 :: a3 :: some (gvI (z + k)) :: t) st) : G w x P u v n I J R pc (a0 :: a1 :: a2 :: a3 :: some (gvI z) :: t) st := g_iinc' hc hd (by exact hp) rfl rfl kk

theorem g_istore_5 {a0 a1 a2 a3 a4 : Option Value} {c0 : Option Value} {t : List (Option Value)} {z : Int} (hc : g_OK w x cc nL rt own d) (hd : decode cc pc = .ok (.istore 5, 2)) (hp : g_c1 [a0, a1, a2, a3, a4] 5 = true) (kk : G w x P u v n I J R (pc + 2) (a0 :: a1 :: a2 :: a3 :: a4 :: some (gvI z) :: t) st) : G w x P u v n I J R pc (a0 :: a1 :: a2 :: a3 :: a4 :: c0 :: t) (gvI z :: st) := g_istore' hc hd (by exact hp) (show 5 < _ by simp only [List.length_cons]; omega) rfl kk

theorem g_astore_5 {a0 a1 a2 a3 a4 : Option Value} {c0 : Option Value} {t : List (Option Value)} {z : Nat} (hc : g_OK w x cc nL rt own d) (hd : decode cc pc = .ok (.astore 5, 2)) (hp : g_c1 [a0, a1, a2, a3, a4] 5 = true) (kk : G w x P u v n I J R (pc + 2) (a0 :: a1 :: a2 :: a3 :: a4 :: some (.ref z) :: t) st) : G w x P u v n I J R pc (a0 :: a1 :: a2 :: a3 :: a4 :: c0 :: t) (.ref z :: st) := g_astore' hc hd (by exact hp) (show 5 < _ by simp only [List.length_cons]; omega) rfl kk

theorem g_lstore_5 {a0 a1 a2 a3 a4 : Option Value} {c0 c1 : Option Value} {t : List (Option Value)} {z : Int} (hc : g_OK w x cc nL rt own d) (hd : decode cc pc = .ok (.lstore 5, 2)) (hp : g_c1 [a0, a1, a2, a3, a4] 5 = true) (kk : G w x P u v n I J R (pc + 2) (a0 :: a1 :: a2 :: a3 :: a4 :: some (gvL z) :: none :: t) st) : G w x P u v n I J R pc (a0 :: a1 :: a2 :: a3 :: a4 :: c0 :: c1 :: t) (gvL z :: st) := g_lstore' hc hd (by exact hp) (show 5 + 1 < _ by simp only [List.length_cons]; omega) rfl kk

theorem g_iinc_5 {a0 a1 a2 a3 a4 : Option Value} {t : List (Option Value)} {z k : Int} (hc : g_OK w x cc nL rt own d) (hd : decode cc pc = .ok (.iinc 5 k, 3)) (hp : g_c1 [a0, a1, a2, a3, a4] 5 = true) (kk : G w x P u v n I J R (pc + 3) (a0 :: a1 :: a2 :: a3 :: a4 :: some (gvI (z + k)) :: t) st) : G w x P u v n I J R pc (a0 :: a1 :: a2 :: a3 :: a4 :: some (gvI z) :: t) st := g_iinc' hc hd (by exact hp) rfl rfl kk

theorem g_istore_6 {a0 a1 a2 a3 a4 a5 : Option Value} {c0 : Option Value} {t : List (Option Value)} {z : Int} (hc : g_OK w x cc nL rt own d) (hd : decode cc pc = .ok (.istore 6, 2)) (hp : g_c1 [a0, a1, a2, a3, a4, a5] 6 = true) (kk : G w x P u v n I J R (pc + 2) (a0 :: a1 :: a2 :: a3 :: a4 :: a5 :: some (gvI z) :: t) st) : G w x P u v n I J R pc (a0 :: a1 :: a2 :: a3 :: a4 :: a5 :: c0 :: t) (gvI z :: st) := g_istore' hc hd (by exact hp) (show 6 < _ by simp only [List.length_cons]; omega) rfl kk

theorem g_astore_6 {a0 a1 a2 a3 a4 a5 : Option Value} {c0 : Option Value} {t : List (Option Value)} {z : Nat} (hc : g_OK w x cc nL rt own d) (hd : decode cc pc = .ok (.astore 6, 2)) (hp : g_c1 [a0, a1, a2, a3, a4, a5] 6 = true) (kk : G w x P u v n I J R (pc + 2) (a0 :: a1 :: a2 :: a3 :: a4 :: a5 :: some (.ref z) :: t) st) : G w x P u v n I J R pc (a0 :: a1 :: a2 :: a3 :: a4 :: a5 :: c0 :: t) (.ref z :: st) := g_astore' hc hd (by exact hp) (show 6 < _ by simp only [List.length_cons]; omega) rfl kk

theorem g_lstore_6 {a0 a1 a2 a3 a4 a5 : Option Value} {c0 c1 : Option Value} {t : List (Option Value)} {z : Int} (hc : g_OK w x cc nL rt own d) (hd : decode cc pc = .ok (.lstore 6, 2)) (hp : g_c1 [a0, a1, a2, a3, a4, a5] 6 = true) (kk : G w x P u v n I J R (pc + 2) (a0 :: a1 :: a2 :: a3 :: a4 :: a5 :: some (gvL z) :: none :: t) st) : G w x P u v n I J R pc (a0 :: a1 :: a2 :: a3 :: a4 :: a5 :: c0 :: c1 :: t) (gvL z :: st) := g_lstore' hc hd (by exact hp) (show 6 + 1 < _ by simp only [List.length_cons]; omega) rfl kk

theorem g_iinc_6 {a0 a1 a2 a3 a4 a5 : Option Value} {t : List (Option Value)} {z k : Int} (hc : g_OK w x cc nL rt own d) (hd : decode cc pc = .ok (.iinc 6 k, 3)) (hp : g_c1 [a0, a1, a2, a3, a4, a5] 6 = true) (kk : G w x P u v n I J R (pc + 3) (a0 :: a1 :: a2 :: a3 :: a4 :: a5 :: some (gvI (z + k)) :: t) st) : G w x P u v n I J R pc (a0 :: a1 :: a2 :: a3 :: a4 :: a5 :: some (gvI z) :: t) st := g_iinc' hc hd (by exact hp) rfl rfl kk

theorem g_istore_7 {a0 a1 a2 a3 a4 a5 a6 : Option Value} {c0 : Option Value} {t : List (Option Value)} {z : Int} (hc : g_OK w x cc nL rt own d) (hd : decode cc pc = .ok (.istore 7, 2)) (hp : g_c1 [a0, a1, a2, a3, a4, a5, a6] 7 = true) (kk : G w x P u v n I J R (pc + 2) (a0 :: a1 :: a2 :: a3 :: a4 :: a5 :: a6 :: some (gvI z) :: t) st) : G w x P u v n I J R pc (a0 :: a1 :: a2 :: a3 :: a4 :: a5 :: a6 :: c0 :: t) (gvI z :: st) := g_istore' hc hd (by exact hp) (show 7 < _ by simp only [List.length_cons]; omega) rfl kk

theorem g_astore_7 {a0 a1 a2 a3 a4 a5 a6 : Option Value} {c0 : Option Value} {t : List (Option Value)} {z : Nat} (hc : g_OK w x cc nL rt own d) (hd : decode cc pc = .ok (.astore 7, 2)) (hp : g_c1 [a0, a1, a2, a3, a4, a5, a6] 7 = true) (kk : G w x P u v n I J R (pc + 2) (a0 :: a1 :: a2 :: a3 :: a4 :: a5 :: a6 :: some (.ref z) :: t) st) : G w x P u v n I J R pc (a0 :: a1 :: a2 :: a3 :: a4 :: a5 :: a6 :: c0 :: t) (.ref z :: st) := g_astore' hc hd (by exact hp) (show 7 < _ by simp only [List.length_cons]; omega) rfl kk

theorem g_lstore_7 {a0 a1 a2 a3 a4 a5 a6 : Option Value} {c0 c1 : Option Value} {t : List (Option Value)} {z : Int} (hc : g_OK w x cc nL rt own d) (hd : decode cc pc = .ok (.lstore 7, 2)) (hp : g_c1 [a0, a1, a2, a3, a4, a5, a6] 7 = true) (kk : G w x P u v n I J R (pc + 2) (a0 :: a1 :: a2 :: a3 :: a4 :: a5 :: a6 :: some (gvL z) :: none :: t) st) : G w x P u v n I J R pc (a0 :: a1 :: a2 :: a3 :: a4 :: a5 :: a6 :: c0 :: c1 :: t) (gvL z :: st) := g_lstore' hc hd (by exact hp) (show 7 + 1 < _ by simp only [List.length_cons]; omega) rfl kk

theorem g_iinc_7 {a0 a1 a2 a3 a4 a5 a6 : Option Value} {t : List (Option Value)} {z k : Int} (hc : g_OK w x cc nL rt own d) (hd : decode cc pc = .ok (.iinc 7 k, 3)) (hp : g_c1 [a0, a1, a2, a3, a4, a5, a6] 7 = true) (kk : G w x P u v n I J R (pc + 3) (a0 :: a1 :: a2 :: a3 :: a4 :: a5 :: a6 :: some (gvI (z + k)) :: t) st) : G w x P u v n I J R pc (a0 :: a1 :: a2 :: a3 :: a4 :: a5 :: a6 :: some (gvI z) :: t) st := g_iinc' hc hd (by exact hp) rfl rfl kk

theorem g_istore_8 {a0 a1 a2 a3 a4 a5 a6 a7 : Option Value} {c0 : Option Value} {t : List (Option Value)} {z : Int} (hc : g_OK w x cc nL rt own d) (hd : decode cc pc = .ok (.istore 8, 2)) (hp : g_c1 [a0, a1, a2, a3, a4, a5, a6, a7] 8 = true) (kk : G w x P u v n I J R (pc + 2) (a0 :: a1 :: a2 :: a3 :: a4 :: a5 :: a6 :: a7 :: some (gvI z) :: t) st) : G w x P u v n I J R pc (a0 :: a1 :: a2 :: a3 :: a4 :: a5 :: a6 :: a7 :: c0 :: t) (gvI z :: st) := g_istore' hc hd (by exact hp) (show 8 < _ by simp only [List.length_cons]; omega) rfl kk

theorem g_astore_8 {a0 a1 a2 a3 a4 a5 a6 a7 : Option Value} {c0 : Option Value} {t : List (Option Value)} {z : Nat} (hc : g_OK w x cc nL rt own d) (hd : decode cc pc = .ok (.astore 8, 2)) (hp : g_c1 [a0, a1, a2, a3, a4, a5, a6, a7] 8 = true) (kk : G w x P u v n I J R (pc + 2) (a0 :: a1 :: a2 :: a3 :: a4 :: a5 :: a6 :: a7 :: some (.ref z) :: t) st) : G w x P u v n I J R pc (a0 :: a1 :: a2 :: a3 :: a4 :: a5 :: a6 :: a7 :: c0 :: t) (.ref z :: st) := g_astore' hc hd (by exact hp) (show 8 < _ by simp only [List.length_cons]; omega) rfl kk

theorem g_lstore_8 {a0 a1 a2 a3 a4 a5 a6 a7 : Option Value} {c0 c1 : Option Value} {t : List (Option Value)} {z : Int} (hc : g_OK w x cc nL rt own d) (hd : decode cc pc = .ok (.lstore 8, 2)) (hp : g_c1 [a0, a1, a2, a3, a4, a5, a6, a7] 8 = true) (kk : G w x P u v n I J R (pc + 2) (a0 :: a1 :: a2 :: a3 :: a4 :: a5 :: a6 :: a7 :: some (gvL z) :: none :: t) st) : G w x P u v n I J R pc (a0 :: a1 :: a2 :: a3 :: a4 :: a5 :: a6 :: a7 :: c0 :: c1 :: t) (gvL z :: st) := g_lstore' hc hd (by exact hp) (show 8 + 1 < _ by simp only [List.length_cons]; omega) rfl kk

theorem g_iinc_8 {a0 a1 a2 a3 a4 a5 a6 a7 : Option Value} {t : List (Option Value)} {z k : Int} (hc : g_OK w x cc nL rt own d) (hd : decode cc pc = .ok (.iinc 8 k, 3)) (hp : g_c1 [a0, a1, a2, a3, a4, a5, a6, a7] 8 = true) (kk : G w x P u v n I J R (pc + 3) (a0 :: a1 :: a2 :: a3 :: a4 :: a5 :: a6 :: a7 :: some (gvI (z + k)) :: t) st) : G w x P u v n I J R pc (a0 :: a1 :: a2 :: a3 :: a4 :: a5 :: a6 :: a7 :: some (gvI z) :: t) st := g_iinc' hc hd (by exact hp) rfl rfl kk

theorem g_istore_9 {a0 a1 a2 a3 a4 a5 a6 a7 a8 : Option Value} {c0 : Option Value} {t : List (Option Value)} {z : Int} (hc : g_OK w x cc nL rt own d) (hd : decode cc pc = .ok (.istore 9, 2)) (hp : g_c1 [a0, a1, a2, a3, a4, a5, a6, a7, a8] 9 = true) (kk : G w x P u v n I J R (pc + 2) (a0 :: a1 :: a2 :: a3 :: a4 :: a5 :: a6 :: a7 :: a8 :: some (gvI z) :: t) st) : G w x P u v n I J R pc (a0 :: a1 :: a2 :: a3 :: a4 :: a5 :: a6 :: a7 :: a8 :: c0 :: t) (gvI z :: st) := g_istore' hc hd (by exact hp) (show 9 < _ by simp only [List.length_cons]; omega) rfl kk

theorem g_astore_9 {a0 a1 a2 a3 a4 a5 a6 a7 a8 : Option Value} {c0 : Option Value} {t : List (Option Value)} {z : Nat} (hc : g_OK w x cc nL rt own d) (hd : decode cc pc = .ok (.astore 9, 2)) (hp : g_c1 [a0, a1, a2, a3, a4, a5, a6, a7, a8] 9 = true) (kk : G w x P u v n I J R (pc + 2) (a0 :: a1 :: a2 :: a3 :: a4 :: a5 :: a6 :: a7 :: a8 :: some (.ref z) :: t) st) : G w x P u v n I J R pc (a0 :: a1 :: a2 :: a3 :: a4 :: a5 :: a6 :: a7 :: a8 :: c0 :: t) (.ref z :: st) := g_astore' hc hd (by exact hp) (show 9 < _ by simp only [List.length_cons]; omega) rfl kk

theorem g_lstore_9 {a0 a1 a2 a3 a4 a5 a6 a7 a8 : Option Value} {c0 c1 : Option Value} {t : List (Option Value)} {z : Int} (hc : g_OK w x cc nL rt own d) (hd : decode cc pc = .ok (.lstore 9, 2)) (hp : g_c1 [a0, a1, a2, a3, a4, a5, a6, a7, a8] 9 = true) (kk : G w x P u v n I J R (pc + 2) (a0 :: a1 :: a2 :: a3 :: a4 :: a5 :: a6 :: a7 :: a8 :: some (gvL z) :: none :: t) st) : G w x P u v n I J R pc (a0 :: a1 :: a2 :: a3 :: a4 :: a5 :: a6 :: a7 :: a8 :: c0 :: c1 :: t) (gvL z :: st) := g_lstore' hc hd (by exact hp) (show 9 + 1 < _ by simp only [List.length_cons]; omega) rfl kk

theorem g_iinc_9 {a0 a1 a2 a3 a4 a5 a6 a7 a8 : Option Value} {t : List (Option Value)} {z k : Int} (hc : g_OK w x cc nL rt own d) (hd : decode cc pc = .ok (.iinc 9 k, 3)) (hp : g_c1 [a0, a1, a2, a3, a4, a5, a6, a7, a8] 9 = true) (kk : G w x P u v n I J R (pc + 3) (a0 :: a1 :: a2 :: a3 :: a4 :: a5 :: a6 :: a7 :: a8 :: some (gvI (z + k)) :: t) st) : G w x P u v n I J R pc (a0 :: a1 :: a2 :: a3 :: a4 :: a5 :: a6 :: a7 :: a8 :: some (gvI z) :: t) st := g_iinc' hc hd (by exact hp) rfl rfl kk

theorem g_istore_10 {a0 a1 a2 a3 a4 a5 a6 a7 a8 a9 : Option Value} {c0 : Option Value} {t : List (Option Value)} {z : Int} (hc : g_OK w x cc nL rt own d) (hd : decode cc pc = .ok (.istore 10, 2)) (hp : g_c1 [a0, a1, a2, a3, a4, a5, a6, a7, a8, a9] 10 = true) (kk : G w x P u v n I J R (pc + 2) (a0 :: a1 :: a2 :: a3 :: a4 :: a5 :: a6 :: a7 :: a8 :: a9 :: some (gvI z) :: t) st) : G w x P u v n I J R pc (a0 :: a1 :: a2 :: a3 :: a4 :: a5 :: a6 :: a7 :: a8 :: a9 :: c0 :: t) (gvI z :: st) := g_istore' hc hd (by exact hp) (show 10 < _ by simp only [List.length_cons]; omega) rfl kk

theorem g_astore_10 {a0 a1 a2 a3 a4 a5 a6 a7 a8 a9 : Option Value} {c0 : Option Value} {t : List (Option Value)} {z : Nat} (hc : g_OK w x cc nL rt own d) (hd : decode cc pc = .ok (.astore 10, 2)) (hp : g_c1 [a0, a1, a2, a3, a4, a5, a6, a7, a8, a9] 10 = true) (kk : G w x P u v n I J R (pc + 2) (a0 :: a1 :: a2 :: a3 :: a4 :: a5 :: a6 :: a7 :: a8 :: a9 :: some (.ref z) :: t) st) : G w x P u v n I J R pc (a0 :: a1 :: a2 :: a3 :: a4 :: a5 :: a6 :: a7 :: a8 :: a9 :: c0 :: t) (.ref z :: st) := g_astore' hc hd (by exact hp) (show 10 < _ by simp only [List.length_cons]; omega) rfl kk

theorem g_lstore_10 {a0 a1 a2 a3 a4 a5 a6 a7 a8 a9 : Option Value} {c0 c1 : Option Value} {t : List (Option Value)} {z : Int} (hc : g_OK w x cc nL rt own d) (hd : decode cc pc = .ok (.lstore 10, 2)) (hp : g_c1 [a0, a1, a2, a3, a4, a5, a6, a7, a8, a9] 10 = true) (kk : G w x P u v n I J R (pc + 2) (a0 :: a1 :: a2 :: a3 :: a4 :: a5 :: a6 :: a7 :: a8 :: a9 :: some (gvL z) :: none :: t) st) : G w x P u v n I J R pc (a0 :: a1 :: a2 :: a3 :: a4 :: a5 :: a6 :: a7 :: a8 :: a9 :: c0 :: c1 :: t) (gvL z :: st) := g_lstore' hc hd (by exact hp) (show 10 + 1 < _ by simp only [List.length_cons]; omega) rfl kk

theorem g_iinc_10 {a0 a1 a2 a3 a4 a5 a6 a7 a8 a9 : Option Value} {t : List (Option Value)} {z k : Int} (hc : g_OK w x cc nL rt own d) (hd : decode cc pc = .ok (.iinc 10 k, 3)) (hp : g_c1 [a0, a1, a2, a3, a4, a5, a6, a7, a8, a9] 10 = true) (kk : G w x P u v n I J R (pc + 3) (a0 :: a1 :: a2 :: a3 :: a4 :: a5 :: a6 :: a7 :: a8 :: a9 :: some (gvI (z + k)) :: t) st) : G w x P u v n I J R pc (a0 :: a1 :: a2 :: a3 :: a4 :: a5 :: a6 :: a7 :: a8 :: a9 :: some (gvI z) :: t) st := g_iinc' hc hd (by exact hp) rfl rfl kk

theorem g_istore_11 {a0 a1 a2 a3 a4 a5 a6 a7 a8 a9 a10 : Option Value} {c0 : Option Value} {t : List (Option Value)} {z : Int} (hc : g_OK w x cc nL rt own d) (hd : decode cc pc = .ok (.istore 11, 2)) (hp : g_c1 [a0, a1, a2, a3, a4, a5, a6, a7, a8, a9, a10] 11 = true) (kk : G w x P u v n I J R (pc + 2) (a0 :: a1 :: a2 :: a3 :: a4 :: a5 :: a6 :: a7 :: a8 :: a9 :: a10 :: some (gvI z) :: t) st) : G w x P u v n I J R pc (a0 :: a1 :: a2 :: a3 :: a4 :: a5 :: a6 :: a7 :: a8 :: a9 :: a10 :: c0 :: t) (gvI z :: st) := g_istore' hc hd (by exact hp) (show 11 < _ by simp only [List.length_cons]; omega) rfl kk

theorem g_astore_11 {a0 a1 a2 a3 a4 a5 a6 a7 a8 a9 a10 : Option Value} {c0 : Option Value} {t : List (Option Value)} {z : Nat} (hc : g_OK w x cc nL rt own d) (hd : decode cc pc = .ok (.astore 11, 2)) (hp : g_c1 [a0, a1, a2, a3, a4, a5, a6, a7, a8, a9, a10] 11 = true) (kk : G w x P u v n I J R (pc + 2) (a0 :: a1 :: a2 :: a3 :: a4 :: a5 :: a6 :: a7 :: a8 :: a9 :: a10 :: some (.ref z) :: t) st) : G w x P u v n I J R pc (a0 :: a1 :: a2 :: a3 :: a4 :: a5 :: a6 :: a7 :: a8 :: a9 :: a10 :: c0 :: t) (.ref z :: st) := g_astore' hc hd (by exact hp) (show 11 < _ by simp only [List.length_cons]; omega) rfl kk

theorem g_lstore_11 {a0 a1 a2 a3 a4 a5 a6 a7 a8 a9 a10 : Option Value} {c0 c1 : Option Value} {t : List (Option Value)} {z : Int} (hc : g_OK w x cc nL rt own d) (hd : decode cc pc = .ok (.lstore 11, 2)) (hp : g_c1 [a0, a1, a2, a3, a4, a5, a6, a7, a8, a9, a10] 11 = true) (kk : G w x P u v n I J R (pc + 2) (a0 :: a1 :: a2 :: a3 :: a4 :: a5 :: a6 :: a7 :: a8 :: a9 :: a10 :: some (gvL z) :: none :: t) st) : G w x P u v n I J R pc (a0 :: a1 :: a2 :: a3 :: a4 :: a5 :: a6 :: a7 :: a8 :: a9 :: a10 :: c0 :: c1 :: t) (gvL z :: st) := g_lstore' hc hd (by exact hp) (show 11 + 1 < _ by simp only [List.length_cons]; omega) rfl kk

theorem g_iinc_11 {a0 a1 a2 a3 a4 a5 a6 a7 a8 a9 a10 : Option Value} {t : List (Option Value)} {z k : Int} (hc : g_OK w x cc nL rt own d) (hd : decode cc pc = .ok (.iinc 11 k, 3)) (hp : g_c1 [a0, a1, a2, a3, a4, a5, a6, a7, a8, a9, a10] 11 = true) (kk : G w x P u v n I J R (pc + 3) (a0 :: a1 :: a2 :: a3 :: a4 :: a5 :: a6 :: a7 :: a8 :: a9 :: a10 :: some (gvI (z + k)) :: t) st) : G w x P u v n I J R pc (a0 :: a1 :: a2 :: a3 :: a4 :: a5 :: a6 :: a7 :: a8 :: a9 :: a10 :: some (gvI z) :: t) st := g_iinc' hc hd (by exact hp) rfl rfl kk

theorem g_istore_12 {a0 a1 a2 a3 a4 a5 a6 a7 a8 a9 a10 a11 : Option Value} {c0 : Option Value} {t : List (Option Value)} {z : Int} (hc : g_OK w x cc nL rt own d) (hd : decode cc pc = .ok (.istore 12, 2)) (hp : g_c1 [a0, a1, a2, a3, a4, a5, a6, a7, a8, a9, a10, a11] 12 = true) (kk : G w x P u v n I J R (pc + 2) (a0 :: a1 :: a2 :: a3 :: a4 :: a5 :: a6 :: a7 :: a8 :: a9 :: a10 :: a11 :: some (gvI z) :: t) st) : G w x P u v n I J R pc (a0 :: a1 :: a2 :: a3 :: a4 :: a5 :: a6 :: a7 :: a8 :: a9 :: a10 :: a11 :: c0 :: t) (gvI z :: st) := g_istore' hc hd (by exact hp) (show 12 < _ by simp only [List.length_cons]; omega) rfl kk

theorem g_astore_12 {a0 a1 a2 a3 a4 a5 a6 a7 a8 a9 a10 a11 : Option Value} {c0 : Option Value} {t : List (Option Value)} {z : Nat} (hc : g_OK w x cc nL rt own d) (hd : decode cc pc = .ok (.astore 12, 2)) (hp : g_c1 [a0, a1, a2, a3, a4, a5, a6, a7, a8, a9, a10, a11] 12 = true) (kk : G w x P u v n I J R (pc + 2) (a0 :: a1 :: a2 :: a3 :: a4 :: a5 :: a6 :: a7 :: a8 :: a9 :: a10 :: a11 :: some (.ref z) :: t) st) : G w x P u v n I J R pc (a0 :: a1 :: a2 :: a3 :: a4 :: a5 :: a6 :: a7 :: a8 :: a9 :: a10 :: a11 :: c0 :: t) (.ref z :: st) := g_astore' hc hd (by exact hp) (show 12 < _ by simp only [List.length_cons]; omega) rfl kk

theorem g_lstore_12 {a0 a1 a2 a3 a4 a5 a6 a7 a8 a9 a10 a11 : Option Value} {c0 c1 : Option Value} {t : List (Option Value)} {z : Int} (hc : g_OK w x cc nL rt own d) (hd : decode cc pc = .ok (.lstore 12, 2)) (hp : g_c1 [a0, a1, a2, a3, a4, a5, a6, a7, a8, a9, a10, a11] 12 = true) (kk : G w x P u v n I J R (pc + 2) (a0 :: a1 :: a2 :: a3 :: a4 :: a5 :: a6 :: a7 :: a8 :: a9 :: a10 :: a11 :: some (gvL z) :: none :: t) st) : G w x P u v n I J R pc (a0 :: a1 :: a2 :: a3 :: a4 :: a5 :: a6 :: a7 :: a8 :: a9 :: a10 :: a11 :: c0 :: c1 :: t) (gvL z :: st) := g_lstore' hc hd (by exact hp) (show 12 + 1 < _ by simp only [List.length_cons]; omega) rfl kk

theorem g_iinc_12 {a0 a1 a2 a3 a4 a5 a6 a7 a8 a9 a10 a11 : Option Value} {t : List (Option Value)} {z k : Int} (hc : g_OK w x cc nL rt own d) (hd : decode cc pc = .ok (.iinc 12 k, 3)) (hp : g_c1 [a0, a1, a2, a3, a4, a5, a6, a7, a8, a9, a10, a11] 12 = true) (kk : G w x P u v n I J R (pc + 3) (a0 :: a1 :: a2 :: a3 :: a4 :: a5 :: a6 :: a7 :: a8 :: a9 :: a10 :: a11 :: some (gvI (z + k)) :: t) st) : G w x P u v n I J R pc (a0 :: a1 :: a2 :: a3 :: a4 :: a5 :: a6 :: a7 :: a8 :: a9 :: a10 :: a11 :: some (gvI z) :: t) st := g_iinc' hc hd (by exact hp) rfl rfl kk

theorem g_istore_13 {a0 a1 a2 a3 a4 a5 a6 a7 a8 a9 a10 a11 a12 : Option Value} {c0 : Option Value} {t : List (Option Value)} {z : Int} (hc : g_OK w x cc nL rt own d) (hd : decode cc pc = .ok (.istore 13, 2)) (hp : g_c1 [a0, a1, a2, a3, a4, a5, a6, a7, a8, a9, a10, a11, a12] 13 = true) (kk : G w x P u v n I J R (pc + 2) (a0 :: a1 :: a2 :: a3 :: a4 :: a5 :: a6 :: a7 :: a8 :: a9 :: a10 :: a11 :: a12 :: some (gvI z) :: t) st) : G w x P u v n I J R pc (a0 :: a1 :: a2 :: a3 :: a4 :: a5 :: a6 :: a7 :: a8 :: a9 :: a10 :: a11 :: a12 :: c0 :: t) (gvI z :: st) := g_istore' hc hd (by exact hp) (show 13 < _ by simp only [List.length_cons]; omega) rfl kk

theorem g_astore_13 {a0 a1 a2 a3 a4 a5 a6 a7 a8 a9 a10 a11 a12 : Option Value} {c0 : Option Value} {t : List (Option Value)} {z : Nat} (hc : g_OK w x cc nL rt own d) (hd : decode cc pc = .ok (.astore 13, 2)) (hp : g_c1 [a0, a1, a2, a3, a4, a5, a6, a7, a8, a9, a10, a11, a12] 13 = true) (kk : G w x P u v n I J R (pc + 2) (a0 :: a1 :: a2 :: a3 :: a4 :: a5 :: a6 :: a7 :: a8 :: a9 :: a10 :: a11 :: a12 :: some (.ref z) :: t) st) : G w x P u v n I J R pc (a0 :: a1 :: a2 :: a3 :: a4 :: a5 :: a6 :: a7 :: a8 :: a9 :: a10 :: a11 :: a12 :: c0 :: t) (.ref z :: st) := g_astore' hc hd (by exact hp) (show 13 < _ by simp only [List.length_cons]; omega) rfl kk

theorem g_lstore_13 {a0 a1 a2 a3 a4 a5 a6 a7 a8 a9 a10 a11 a12 : Option Value} {c0 c1 : Option Value} {t : List (Option Value)} {z : Int} (hc : g_OK w x cc nL rt own d) (hd : decode cc pc = .ok (.lstore 13, 2)) (hp : g_c1 [a0, a1, a2, a3, a4, a5, a6, a7, a8, a9, a10, a11, a12] 13 = true) (kk : G w x P u v n I J R (pc + 2) (a0 :: a1 :: a2 :: a3 :: a4 :: a5 :: a6 :: a7 :: a8 :: a9 :: a10 :: a11 :: a12 :: some (gvL z) :: none :: t) st) : G w x P u v n I J R pc (a0 :: a1 :: a2 :: a3 :: a4 :: a5 :: a6 :: a7 :: a8 :: a9 :: a10 :: a11 :: a12 :: c0 :: c1 :: t) (gvL z :: st) := g_lstore' hc hd (by exact hp) (show 13 + 1 < _ by simp only [List.length_cons]; omega) rfl kk

theorem g_iinc_13 {a0 a1 a2 a3 a4 a5 a6 a7 a8 a9 a10 a11 a12 : Option Value} {t : List (Option Value)} {z k : Int} (hc : g_OK w x cc nL rt own d) (hd : decode cc pc = .ok (.iinc 13 k, 3)) (hp : g_c1 [a0, a1, a2, a3, a4, a5, a6, a7, a8, a9, a10, a11, a12] 13 = true) (kk : G w x P u v n I J R (pc + 3) (a0 :: a1 :: a2 :: a3 :: a4 :: a5 :: a6 :: a7 :: a8 :: a9 :: a10 :: a11 :: a12 :: some (gvI (z + k)) :: t) st) : G w x P u v n I J R pc (a0 :: a1 :: a2 :: a3 :: a4 :: a5 :: a6 :: a7 :: a8 :: a9 :: a10 :: a11 :: a12 :: some (gvI z) :: t) st := g_iinc' hc hd (by exact hp) rfl rfl kk

theorem g_istore_14 {a0 a1 a2 a3 a4 a5 a6 a7 a8 a9 a10 a11 a12 a13 : Option Value} {c0 : Option Value} {t : List (Option Value)} {z : Int} (hc : g_OK w x cc nL rt own d) (hd : decode cc pc = .ok (.istore 14, 2)) (hp : g_c1 [a0, a1, a2, a3, a4, a5, a6, a7, a8, a9, a10, a11, a12, a13] 14 = true) (kk : G w x P u v n I J R (pc + 2) (a0 :: a1 :: a2 :: a3 :: a4 :: a5 :: a6 :: a7 :: a8 :: a9 :: a10 :: a11 :: a12 :: a13 :: some (gvI z) :: t) st) : G w x P u v n I J R pc (a0 :: a1 :: a2 :: a3 :: a4 :: a5 :: a6 :: a7 :: a8 :: a9 :: a10 :: a11 :: a12 :: a13 :: c0 :: t) (gvI z :: st) := g_istore' hc hd (by exact hp) (show 14 < _ by simp only [List.length_cons]; omega) rfl kk

theorem g_astore_14 {a0 a1 a2 a3 a4 a5 a6 a7 a8 a9 a10 a11 a12 a13 : Option Value} {c0 : Option Value} {t : List (Option Value)} {z : Nat} (hc : g_OK w x cc nL rt own d) (hd : decode cc pc = .ok (.astore 14, 2)) (hp : g_c1 [a0, a1, a2, a3, a4, a5, a6, a7, a8, a9, a10, a11, a12, a13] 14 = true) (kk : G w x P u v n I J R (pc + 2) (a0 :: a1 :: a2 :: a3 :: a4 :: a5 :: a6 :: a7 :: a8 :: a9 :: a10 :: a11 :: a12 :: a13 :: some (.ref z) :: t) st) : G w x P u v n I J R pc (a0 :: a1 :: a2 :: a3 :: a4 :: a5 :: a6 :: a7 :: a8 :: a9 :: a10 :: a11 :: a12 :: a13 :: c0 :: t) (.ref z :: st) := g_astore' hc hd (by exact hp) (show 14 < _ by simp only [List.length_cons]; omega) rfl kk

theorem g_lstore_14 {a0 a1 a2 a3 a4 a5 a6 a7 a8 a9 a10 a11 a12 a13 : Option Value} {c0 c1 : Option Value} {t : List (Option Value)} {z : Int} (hc : g_OK w x cc nL rt own d) (hd : decode cc pc = .ok (.lstore 14, 2)) (hp : g_c1 [a0, a1, a2, a3, a4, a5, a6, a7, a8, a9, a10, a11, a12, a13] 14 = true) (kk : G w x P u v n I J R (pc + 2) (a0 :: a1 :: a2 :: a3 :: a4 :: a5 :: a6 :: a7 :: a8 :: a9 :: a10 :: a11 :: a12 :: a13 :: some (gvL z) :: none :: t) st) : G w x P u v n I J R pc (a0 :: a1 :: a2 :: a3 :: a4 :: a5 :: a6 :: a7 :: a8 :: a9 :: a10 :: a11 :: a12 :: a13 :: c0 :: c1 :: t) (gvL z :: st) := g_lstore' hc hd (by exact hp) (show 14 + 1 < _ by simp only [List.length_cons]; omega) rfl kk

theorem g_iinc_14 {a0 a1 a2 a3 a4 a5 a6 a7 a8 a9 a10 a11 a12 a13 : Option Value} {t : List (Option Value)} {z k : Int} (hc : g_OK w x cc nL rt own d) (hd : decode cc pc = .ok (.iinc 14 k, 3)) (hp : g_c1 [a0, a1, a2, a3, a4, a5, a6, a7, a8, a9, a10, a11, a12, a13] 14 = true) (kk : G w x P u v n I J R (pc + 3) (a0 :: a1 :: a2 :: a3 :: a4 :: a5 :: a6 :: a7 :: a8 :: a9 :: a10 :: a11 :: a12 :: a13 :: some (gvI (z + k)) :: t) st) : G w x P u v n I J R pc (a0 :: a1 :: a2 :: a3 :: a4 :: a5 :: a6 :: a7 :: a8 :: a9 :: a10 :: a11 :: a12 :: a13 :: some (gvI z) :: t) st := g_iinc' hc hd (by exact hp) rfl rfl kk

theorem g_istore_15 {a0 a1 a2 a3 a4 a5 a6 a7 a8 a9 a10 a11 a12 a13 a14 : Option Value} {c0 : Option Value} {t : List (Option Value)} {z : Int} (hc : g_OK w x cc nL rt own d) (hd : decode cc pc = .ok (.istore 15, 2)) (hp : g_c1 [a0, a1, a2, a3, a4, a5, a6, a7, a8, a9, a10, a11, a12, a13, a14] 15 = true) (kk : G w x P u v n I J R (pc + 2) (a0 :: a1 :: a2 :: a3 :: a4 :: a5 :: a6 :: a7 :: a8 :: a9 :: a10 :: a11 :: a12 :: a13 :: a14 :: some (gvI z) :: t) st) : G w x P u v n I J R pc (a0 :: a1 :: a2 :: a3 :: a4 :: a5 :: a6 :: a7 :: a8 :: a9 :: a10 :: a11 :: a12 :: a13 :: a14 :: c0 :: t) (gvI z :: st) := g_istore' hc hd (by exact hp) (show 15 < _ by simp only [List.length_cons]; omega) rfl kk

theorem g_astore_15 {a0 a1 a2 a3 a4 a5 a6 a7 a8 a9 a10 a11 a12 a13 a14 : Option Value} {c0 : Option Value} {t : List (Option Value)} {z : Nat} (hc : g_OK w x cc nL rt own d) (hd : decode cc pc = .ok (.astore 15, 2)) (hp : g_c1 [a0, a1, a2, a3, a4, a5, a6, a7, a8, a9, a10, a11, a12, a13, a14] 15 = true) (kk : G w x P u v n I J R (pc + 2) (a0 :: a1 :: a2 :: a3 :: a4 :: a5 :: a6 :: a7 :: a8 :: a9 :: a10 :: a11 :: a12 :: a13 :: a14 :: some (.ref z) :: t) st) : G w x P u v n I J R pc (a0 :: a1 :: a2 :: a3 :: a4 :: a5 :: a6 :: a7 :: a8 :: a9 :: a10 :: a11 :: a12 :: a13 :: a14 :: c0 :: t) (.ref z :: st) := g_astore' hc hd (by exact hp) (show 15 < _ by simp only [List.length_cons]; omega) rfl kk

theorem g_lstore_15 {a0 a1 a2 a3 a4 a5 a6 a7 a8 a9 a10 a11 a12 a13 a14 : Option Value} {c0 c1 : Option Value} {t : List (Option Value)} {z : Int} (hc : g_OK w x cc nL rt own d) (hd : decode cc pc = .ok (.lstore 15, 2)) (hp : g_c1 [a0, a1, a2, a3, a4, a5, a6, a7, a8, a9, a10, a11, a12, a13, a14] 15 = true) (kk : G w x P u v n I J R (pc + 2) (a0 :: a1 :: a2 :: a3 :: a4 :: a5 :: a6 :: a7 :: a8 :: a9 :: a10 :: a11 :: a12 :: a13 :: a14 :: some (gvL z) :: none :: t) st) : G w x P u v n I J R pc (a0 :: a1 :: a2 :: a3 :: a4 :: a5 :: a6 :: a7 :: a8 :: a9 :: a10 :: a11 :: a12 :: a13 :: a14 :: c0 :: c1 :: t) (gvL z :: st) := g_lstore' hc hd (by exact hp) (show 15 + 1 < _ by simp only [List.length_cons]; omega) rfl kk

theorem g_iinc_15 {a0 a1 a2 a3 a4 a5 a6 a7 a8 a9 a10 a11 a12 a13 a14 : Option Value} {t : List (Option Value)} {z k : Int} (hc : g_OK w x cc nL rt own d) (hd : decode cc pc = .ok (.iinc 15 k, 3)) (hp : g_c1 [a0, a1, a2, a3, a4, a5, a6, a7, a8, a9, a10, a11, a12, a13, a14] 15 = true) (kk : G w x P u v n I J R (pc + 3) (a0 :: a1 :: a2 :: a3 :: a4 :: a5 :: a6 :: a7 :: a8 :: a9 :: a10 :: a11 :: a12 :: a13 :: a14 :: some (gvI (z + k)) :: t) st) : G w x P u v n I J R pc (a0 :: a1 :: a2 :: a3 :: a4 :: a5 :: a6 :: a7 :: a8 :: a9 :: a10 :: a11 :: a12 :: a13 :: a14 :: some (gvI z) :: t) st := g_iinc' hc hd (by exact hp) rfl rfl kk

theorem g_istore_16 {a0 a1 a2 a3 a4 a5 a6 a7 a8 a9 a10 a11 a12 a13 a14 a15 : Option Value} {c0 : Option Value} {t : List (Option Value)} {z : Int} (hc : g_OK w x cc nL rt own d) (hd : decode cc pc = .ok (.istore 16, 2)) (hp : g_c1 [a0, a1, a2, a3, a4, a5, a6, a7, a8, a9, a10, a11, a12, a13, a14, a15] 16 = true) (kk : G w x P u v n I J R (pc + 2) (a0 :: a1 :: a2 :: a3 :: a4 :: a5 :: a6 :: a7 :: a8 :: a9 :: a10 :: a11 :: a12 :: a13 :: a14 :: a15 :: some (gvI z) :: t) st) : G w x P u v n I J R pc (a0 :: a1 :: a2 :: a3 :: a4 :: a5 :: a6 :: a7 :: a8 :: a9 :: a10 :: a11 :: a12 :: a13 :: a14 :: a15 :: c0 :: t) (gvI z :: st) := g_istore' hc hd (by exact hp) (show 16 < _ by simp only [List.length_cons]; omega) rfl kk

theorem g_astore_16 {a0 a1 a2 a3 a4 a5 a6 a7 a8 a9 a10 a11 a12 a13 a14 a15 : Option Value} {c0 : Option Value} {t : List (Option Value)} {z : Nat} (hc : g_OK w x cc nL rt own d) (hd : decode cc pc = .ok (.astore 16, 2)) (hp : g_c1 [a0, a1, a2, a3, a4, a5, a6, a7, a8, a9, a10, a11, a12, a13, a14, a15] 16 = true) (kk : G w x P u v n I J R (pc + 2) (a0 :: a1 :: a2 :: a3 :: a4 :: a5 :: a6 :: a7 :: a8 :: a9 :: a10 :: a11 :: a12 :: a13 :: a14 :: a15 :: some (.ref z) :: t) st) : G w x P u v n I J R pc (a0 :: a1 :: a2 :: a3 :: a4 :: a5 :: a6 :: a7 :: a8 :: a9 :: a10 :: a11 :: a12 :: a13 :: a14 :: a15 :: c0 :: t) (.ref z :: st) := g_astore' hc hd (by exact hp) (show 16 < _ by simp only [List.length_cons]; omega) rfl kk

theorem g_lstore_16 {a0 a1 a2 a3 a4 a5 a6 a7 a8 a9 a10 a11 a12 a13 a14 a15 : Option Value} {c0 c1 : Option Value} {t : List (Option Value)} {z : Int} (hc : g_OK w x cc nL rt own d) (hd : decode cc pc = .ok (.lstore 16, 2)) (hp : g_c1 [a0, a1, a2, a3, a4, a5, a6, a7, a8, a9, a10, a11, a12, a13, a14, a15] 16 = true) (kk : G w x P u v n I J R (pc + 2) (a0 :: a1 :: a2 :: a3 :: a4 :: a5 :: a6 :: a7 :: a8 :: a9 :: a10 :: a11 :: a12 :: a13 :: a14 :: a15 :: some (gvL z) :: none :: t) st) : G w x P u v n I J R pc (a0 :: a1 :: a2 :: a3 :: a4 :: a5 :: a6 :: a7 :: a8 :: a9 :: a10 :: a11 :: a12 :: a13 :: a14 :: a15 :: c0 :: c1 :: t) (gvL z :: st) := g_lstore' hc hd (by exact hp) (show 16 + 1 < _ by simp only [List.length_cons]; omega) rfl kk

theorem g_iinc_16 {a0 a1 a2 a3 a4 a5 a6 a7 a8 a9 a10 a11 a12 a13 a14 a15 : Option Value} {t : List (Option Value)} {z k : Int} (hc : g_OK w x cc nL rt own d) (hd : decode cc pc = .ok (.iinc 16 k, 3)) (hp : g_c1 [a0, a1, a2, a3, a4, a5, a6, a7, a8, a9, a10, a11, a12, a13, a14, a15] 16 = true) (kk : G w x P u v n I J R (pc + 3) (a0 :: a1 :: a2 :: a3 :: a4 :: a5 :: a6 :: a7 :: a8 :: a9 :: a10 :: a11 :: a12 :: a13 :: a14 :: a15 :: some (gvI (z + k)) :: t) st) : G w x P u v n I J R pc (a0 :: a1 :: a2 :: a3 :: a4 :: a5 :: a6 :: a7 :: a8 :: a9 :: a10 :: a11 :: a12 :: a13 :: a14 :: a15 :: some (gvI z) :: t) st := g_iinc' hc hd (by exact hp) rfl rfl kk

theorem g_istore_17 {a0 a1 a2 a3 a4 a5 a6 a7 a8 a9 a10 a11 a12 a13 a14 a15 a16 : Option Value} {c0 : Option Value} {t : List (Option Value)} {z : Int} (hc : g_OK w x cc nL rt own d) (hd : decode cc pc = .ok (.istore 17, 2)) (hp : g_c1 [a0, a1, a2, a3, a4, a5, a6, a7, a8, a9, a10, a11, a12, a13, a14, a15, a16] 17 = true) (kk : G w x P u v n I J R (pc + 2) (a0 :: a1 :: a2 :: a3 :: a4 :: a5 :: a6 :: a7 :: a8 :: a9 :: a10 :: a11 :: a12 :: a13 :: a14 :: a15 :: a16 :: some (gvI z) :: t) st) : G w x P u v n I J R pc (a0 :: a1 :: a2 :: a3 :: a4 :: a5 :: a6 :: a7 :: a8 :: a9 :: a10 :: a11 :: a12 :: a13 :: a14 :: a15 :: a16 :: c0 :: t) (gvI z :: st) := g_istore' hc hd (by exact hp) (show 17 < _ by simp only [List.length_cons]; omega) rfl kk

theorem g_astore_17 {a0 a1 a2 a3 a4 a5 a6 a7 a8 a9 a10 a11 a12 a13 a14 a15 a16 : Option Value} {c0 : Option Value} {t : List (Option Value)} {z : Nat} (hc : g_OK w x cc nL rt own d) (hd : decode cc pc = .ok (.astore 17, 2)) (hp : g_c1 [a0, a1, a2, a3, a4, a5, a6, a7, a8, a9, a10, a11, a12, a13, a14, a15, a16] 17 = true) (kk : G w x P u v n I J R (pc + 2) (a0 :: a1 :: a2 :: a3 :: a4 :: a5 :: a6 :: a7 :: a8 :: a9 :: a10 :: a11 :: a12 :: a13 :: a14 :: a15 :: a16 :: some (.ref z) :: t) st) : G w x P u v n I J R pc (a0 :: a1 :: a2 :: a3 :: a4 :: a5 :: a6 :: a7 :: a8 :: a9 :: a10 :: a11 :: a12 :: a13 :: a14 :: a15 :: a16 :: c0 :: t) (.ref z :: st) := g_astore' hc hd (by exact hp) (show 17 < _ by simp only [List.length_cons]; omega) rfl kk

theorem g_lstore_17 {a0 a1 a2 a3 a4 a5 a6 a7 a8 a9 a10 a11 a12 a13 a14 a15 a16 : Option Value} {c0 c1 : Option Value} {t : List (Option Value)} {z : Int} (hc : g_OK w x cc nL rt own d) (hd : decode cc pc = .ok (.lstore 17, 2)) (hp : g_c1 [a0, a1, a2, a3, a4, a5, a6, a7, a8, a9, a10, a11, a12, a13, a14, a15, a16] 17 = true) (kk : G w x P u v n I J R (pc + 2) (a0 :: a1 :: a2 :: a3 :: a4 :: a5 :: a6 :: a7 :: a8 :: a9 :: a10 :: a11 :: a12 :: a13 :: a14 :: a15 :: a16 :: some (gvL z) :: none :: t) st) : G w x P u v n I J R pc (a0 :: a1 :: a2 :: a3 :: a4 :: a5 :: a6 :: a7 :: a8 :: a9 :: a10 :: a11 :: a12 :: a13 :: a14 :: a15 :: a16 :: c0 :: c1 :: t) (gvL z :: st) := g_lstore' hc hd (by exact hp) (show 17 + 1 < _ by simp only [List.length_cons]; omega) rfl kk

theorem g_iinc_17 {a0 a1 a2 a3 a4 a5 a6 a7 a8 a9 a10 a11 a12 a13 a14 a15 a16 : Option Value} {t : List (Option Value)} {z k : Int} (hc : g_OK w x cc nL rt own d) (hd : decode cc pc = .ok (.iinc 17 k, 3)) (hp : g_c1 [a0, a1, a2, a3, a4, a5, a6, a7, a8, a9, a10, a11, a12, a13, a14, a15, a16] 17 = true) (kk : G w x P u v n I J R (pc + 3) (a0 :: a1 :: a2 :: a3 :: a4 :: a5 :: a6 :: a7 :: a8 :: a9 :: a10 :: a11 :: a12 :: a13 :: a14 :: a15 :: a16 :: some (gvI (z + k)) :: t) st) : G w x P u v n I J R pc (a0 :: a1 :: a2 :: a3 :: a4 :: a5 :: a6 :: a7 :: a8 :: a9 :: a10 :: a11 :: a12 :: a13 :: a14 :: a15 :: a16 :: some (gvI z) :: t) st := g_iinc' hc hd (by exact hp) rfl rfl kk

theorem g_istore_18 {a0 a1 a2 a3 a4 a5 a6 a7 a8 a9 a10 a11 a12 a13 a14 a15 a16 a17 : Option Value} {c0 : Option Value} {t : List (Option Value)} {z : Int} (hc : g_OK w x cc nL rt own d) (hd : decode cc pc = .ok (.istore 18, 2)) (hp : g_c1 [a0, a1, a2, a3, a4, a5, a6, a7, a8, a9, a10, a11, a12, a13, a14, a15, a16, a17] 18 = true) (kk : G w x P u v n I J R (pc + 2) (a0 :: a1 :: a2 :: a3 :: a4 :: a5 :: a6 :: a7 :: a8 :: a9 :: a10 :: a11 :: a12 :: a13 :: a14 :: a15 :: a16 :: a17 :: some (gvI z) :: t) st) : G w x P u v n I J R pc (a0 :: a1 :: a2 :: a3 :: a4 :: a5 :: a6 :: a7 :: a8 :: a9 :: a10 :: a11 :: a12 :: a13 :: a14 :: a15 :: a16 :: a17 :: c0 :: t) (gvI z :: st) := g_istore' hc hd (by exact hp) (show 18 < _ by simp only [List.length_cons]; omega) rfl kk

theorem g_astore_18 {a0 a1 a2 a3 a4 a5 a6 a7 a8 a9 a10 a11 a12 a13 a14 a15 a16 a17 : Option Value} {c0 : Option Value} {t : List (Option Value)} {z : Nat} (hc : g_OK w x cc nL rt own d) (hd : decode cc pc = .ok (.astore 18, 2)) (hp : g_c1 [a0, a1, a2, a3, a4, a5, a6, a7, a8, a9, a10, a11, a12, a13, a14, a15, a16, a17] 18 = true) (kk : G w x P u v n I J R (pc + 2) (a0 :: a1 :: a2 :: a3 :: a4 :: a5 :: a6 :: a7 :: a8 :: a9 :: a10 :: a11 :: a12 :: a13 :: a14 :: a15 :: a16 :: a17 :: some (.ref z) :: t) st) : G w x P u v n I J R pc (a0 :: a1 :: a2 :: a3 :: a4 :: a5 :: a6 :: a7 :: a8 :: a9 :: a10 :: a11 :: a12 :: a13 :: a14 :: a15 :: a16 :: a17 :: c0 :: t) (.ref z :: st) := g_astore' hc hd (by exact hp) (show 18 < _ by simp only [List.length_cons]; omega) rfl kk

theorem g_lstore_18 {a0 a1 a2 a3 a4 a5 a6 a7 a8 a9 a10 a11 a12 a13 a14 a15 a16 a17 : Option Value} {c0 c1 : Option Value} {t : List (Option Value)} {z : Int} (hc : g_OK w x cc nL rt own d) (hd : decode cc pc = .ok (.lstore 18, 2)) (hp : g_c1 [a0, a1, a2, a3, a4, a5, a6, a7, a8, a9, a10, a11, a12, a13, a14, a15, a16, a17] 18 = true) (kk : G w x P u v n I J R (pc + 2) (a0 :: a1 :: a2 :: a3 :: a4 :: a5 :: a6 :: a7 :: a8 :: a9 :: a10 :: a11 :: a12 :: a13 :: a14 :: a15 :: a16 :: a17 :: some (gvL z) :: none :: t) st) : G w x P u v n I J R pc (a0 :: a1 :: a2 :: a3 :: a4 :: a5 :: a6 :: a7 :: a8 :: a9 :: a10 :: a11 :: a12 :: a13 :: a14 :: a15 :: a16 :: a17 :: c0 :: c1 :: t) (gvL z :: st) := g_lstore' hc hd (by exact hp) (show 18 + 1 < _ by simp only [List.length_cons]; omega) rfl kk

theorem g_iinc_18 {a0 a1 a2 a3 a4 a5 a6 a7 a8 a9 a10 a11 a12 a13 a14 a15 a16 a17 : Option Value} {t : List (Option Value)} {z k : Int} (hc : g_OK w x cc nL rt own d) (hd : decode cc pc = .ok (.iinc 18 k, 3)) (hp : g_c1 [a0, a1, a2, a3, a4, a5, a6, a7, a8, a9, a10, a11, a12, a13, a14, a15, a16, a17] 18 = true) (kk : G w x P u v n I J R (pc + 3) (a0 :: a1 :: a2 :: a3 :: a4 :: a5 :: a6 :: a7 :: a8 :: a9 :: a10 :: a11 :: a12 :: a13 :: a14 :: a15 :: a16 :: a17 :: some (gvI (z + k)) :: t) st) : G w x P u v n I J R pc (a0 :: a1 :: a2 :: a3 :: a4 :: a5 :: a6 :: a7 :: a8 :: a9 :: a10 :: a11 :: a12 :: a13 :: a14 :: a15 :: a16 :: a17 :: some (gvI z) :: t) st := g_iinc' hc hd (by exact hp) rfl rfl kk

theorem g_istore_19 {a0 a1 a2 a3 a4 a5 a6 a7 a8 a9 a10 a11 a12 a13 a14 a15 a16 a17 a18 : Option Value} {c0 : Option Value} {t : List (Option Value)} {z : Int} (hc : g_OK w x cc nL rt own d) (hd : decode cc pc = .ok (.istore 19, 2)) (hp : g_c1 [a0, a1, a2, a3, a4, a5, a6, a7, a8, a9, a10, a11, a12, a13, a14, a15, a16, a17, a18] 19 = true) (kk : G w x P u v n I J R (pc + 2) (a0 :: a1 :: a2 :: a3 :: a4 :: a5 :: a6 :: a7 :: a8 :: a9 :: a10 :: a11 :: a12 :: a13 :: a14 :: a15 :: a16 :: a17 :: a18 :: some (gvI z) :: t) st) : G w x P u v n I J R pc (a0 :: a1 :: a2 :: a3 :: a4 :: a5 :: a6 :: a7 :: a8 :: a9 :: a10 :: a11 :: a12 :: a13 :: a14 :: a15 :: a16 :: a17 :: a18 :: c0 :: t) (gvI z :: st) := g_istore' hc hd (by exact hp) (show 19 < _ by simp only [List.length_cons]; omega) rfl kk

theorem g_astore_19 {a0 a1 a2 a3 a4 a5 a6 a7 a8 a9 a10 a11 a12 a13 a14 a15 a16 a17 a18 : Option Value} {c0 : Option Value} {t : List (Option Value)} {z : Nat} (hc : g_OK w x cc nL rt own d) (hd : decode cc pc = .ok (.astore 19, 2)) (hp : g_c1 [a0, a1, a2, a3, a4, a5, a6, a7, a8, a9, a10, a11, a12, a13, a14, a15, a16, a17, a18] 19 = true) (kk : G w x P u v n I J R (pc + 2) (a0 :: a1 :: a2 :: a3 :: a4 :: a5 :: a6 :: a7 :: a8 :: a9 :: a10 :: a11 :: a12 :: a13 :: a14 :: a15 :: a16 :: a17 :: a18 :: some (.ref z) :: t) st) : G w x P u v n I J R pc (a0 :: a1 :: a2 :: a3 :: a4 :: a5 :: a6 :: a7 :: a8 :: a9 :: a10 :: a11 :: a12 :: a13 :: a14 :: a15 :: a16 :: a17 :: a18 :: c0 :: t) (.ref z :: st) := g_astore' hc hd (by exact hp) (show 19 < _ by simp only [List.length_cons]; omega) rfl kk

theorem g_lstore_19 {a0 a1 a2 a3 a4 a5 a6 a7 a8 a9 a10 a11 a12 a13 a14 a15 a16 a17 a18 : Option Value} {c0 c1 : Option Value} {t : List (Option Value)} {z : Int} (hc : g_OK w x cc nL rt own d) (hd : decode cc pc = .ok (.lstore 19, 2)) (hp : g_c1 [a0, a1, a2, a3, a4, a5, a6, a7, a8, a9, a10, a11, a12, a13, a14, a15, a16, a17, a18] 19 = true) (kk : G w x P u v n I J R (pc + 2) (a0 :: a1 :: a2 :: a3 :: a4 :: a5 :: a6 :: a7 :: a8 :: a9 :: a10 :: a11 :: a12 :: a13 :: a14 :: a15 :: a16 :: a17 :: a18 :: some (gvL z) :: none :: t) st) : G w x P u v n I J R pc (a0 :: a1 :: a2 :: a3 :: a4 :: a5 :: a6 :: a7 :: a8 :: a9 :: a10 :: a11 :: a12 :: a13 :: a14 :: a15 :: a16 :: a17 :: a18 :: c0 :: c1 :: t) (gvL z :: st) := g_lstore' hc hd (by exact hp) (show 19 + 1 < _ by simp only [List.length_cons]; omega) rfl kk

theorem g_iinc_19 {a0 a1 a2 a3 a4 a5 a6 a7 a8 a9 a10 a11 a12 a13 a14 a15 a16 a17 a18 : Option Value} {t : List (Option Value)} {z k : Int} (hc : g_OK w x cc nL rt own d) (hd : decode cc pc = .ok (.iinc 19 k, 3)) (hp : g_c1 [a0, a1, a2, a3, a4, a5, a6, a7, a8, a9, a10, a11, a12, a13, a14, a15, a16, a17, a18] 19 = true) (kk : G w x P u v n I J R (pc + 3) (a0 :: a1 :: a2 :: a3 :: a4 :: a5 :: a6 :: a7 :: a8 :: a9 :: a10 :: a11 :: a12 :: a13 :: a14 :: a15 :: a16 :: a17 :: a18 :: some (gvI (z + k)) :: t) st) : G w x P u v n I J R pc (a0 :: a1 :: a2 :: a3 :: a4 :: a5 :: a6 :: a7 :: a8 :: a9 :: a10 :: a11 :: a12 :: a13 :: a14 :: a15 :: a16 :: a17 :: a18 :: some (gvI z) :: t) st := g_iinc' hc hd (by exact hp) rfl rfl kk

end GROWS
