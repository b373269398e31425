theorem g_shr31 {x : Int} (h : g32 x) : g_shr x 31 = if x < 0 then -1 else 0 := by
  have e : ((Int32.ofInt 31 &&& 31).toBitVec.smod 32).toNat = 31 := by decide +kernel
  obtain ⟨h1, h2⟩ := h
  rw [g_shr, pk_shr _ _ 31 e, g32_to ⟨h1, h2⟩, Int.shiftRight_eq_div_pow]
  rw [show ((2 ^ 31 : Nat) : Int) = 2147483648 by decide]
  split <;> omega
theorem g_u32 {v : Int} (h : g32 v) : (Int32.ofInt v).toUInt32.toNat = if v < 0 then (v + 4294967296).toNat else v.toNat := by
  obtain ⟨a, c⟩ := id h
  show (Int32.ofInt v).toBitVec.toNat = _
  have h1 : (Int32.ofInt v).toBitVec.toInt = v := g32_to h
  have h2 := (Int32.ofInt v).toBitVec.isLt
  rw [BitVec.toInt_eq_toNat_cond] at h1
  split at h1 <;> split <;> omega
theorem g_ushr_k {v : Int} (h : g32 v) {k : Nat} (hk : k < 32) (e : ((Int32.ofInt (k : Int)).toUInt32 &&& Int32.toUInt32 31).toNat = k) (hs : (if v < 0 then (v + 4294967296).toNat else v.toNat) >>> k < 2147483648) : g_ushr v k = (((if v < 0 then (v + 4294967296).toNat else v.toNat) >>> k : Nat) : Int) := by
  have hn := g_u32 h
  unfold g_ushr
  rw [g_i32]
  generalize hx : (Int32.ofInt v).toUInt32 >>> ((Int32.ofInt (k : Int)).toUInt32 &&& Int32.toUInt32 31) = X
  have hX : X.toNat = (if v < 0 then (v + 4294967296).toNat else v.toNat) >>> k := by
    rw [← hx, UInt32.toNat_shiftRight, hn, e, Nat.mod_eq_of_lt hk]
  have hb : X.toInt32.toBitVec = BitVec.ofNat 32 X.toNat := BitVec.eq_of_toNat_eq (by show X.toNat = _; rw [BitVec.toNat_ofNat]; have := X.toNat_lt; omega)
  rw [hb, hX, g_bvi hs]
theorem g_ushr31 {v : Int} (h : g32 v) : g_ushr v 31 = if v < 0 then 1 else 0 := by
  obtain ⟨a, c⟩ := id h
  have e31 : (2 : Nat) ^ 31 = 2147483648 := by decide
  have hb : (if v < 0 then (v + 4294967296).toNat else v.toNat) >>> 31 = if v < 0 then 1 else 0 := by
    rw [Nat.shiftRight_eq_div_pow, e31]
    split <;> omega
  have := g_ushr_k h (k := 31) (by decide) (by decide +kernel) (by rw [hb]; split <;> decide)
  rw [show (31 : Int) = ((31 : Nat) : Int) from rfl, this, hb]
  split <;> rfl
theorem q_sig {a : Int} (h : -2147483648 < a ∧ a < 2147483648) : g_or (g_shr a 31) (g_ushr (-a) 31) = if a < 0 then -1 else if a = 0 then 0 else 1 := by
  rw [g_shr31 ⟨by omega, by omega⟩, g_ushr31 ⟨by omega, by omega⟩]
  rcases (show a < 0 ∨ a = 0 ∨ 0 < a by omega) with z | z | z
  · rw [if_pos z, if_neg (by omega), if_pos z]; decide +kernel
  · rw [if_neg (by omega), if_neg (by omega), if_neg (by omega), if_pos z]; decide +kernel
  · rw [if_neg (by omega), if_pos (by omega), if_neg (by omega), if_neg (by omega)]; decide +kernel
