set_option maxHeartbeats 4000000 in
set_option maxRecDepth 100000 in
/-- X9_joined -/
theorem c_X9_joined (w : g_W) {I : g_I} {J : g_J} {R : g_R} {s l r : Int} (h1 : s = 38 ∨ s = 42 ∨ s = 43 ∨ s = 45 ∨ s = 47 ∨ s = 60 ∨ s = 61 ∨ s = 62 ∨ s = 124) (hl : -2147483648 ≤ l ∧ l ≤ 2147483648) (hr : -2147483648 ≤ r ∧ r ≤ 2147483648) : g_Met w g_n I J R yX9_joined cX9_joined 7 (some .int) 1 0 0 [(gvI s), (gvL l), (gvL r)] (g_post (some (gvI (g_jn s l r))) g_n I J R) := by
  refine g_intro (own := RX9) [some (gvI s), some (gvL l), none, some (gvL r), none, none, none] (by decide +kernel) rfl (by decide) (Nat.le_of_ble_eq_true rfl) rfl (fun i v hv => g_args 2 i v hv rfl) (fun x hc hm => ?_)
  have hmul := g_mul64 hl hr
  have htd : (l.tdiv r).natAbs ≤ 2147483648 := g_tdiv_in (by omega)
  have hla := g_land64 (l := l) (r := r)
  have hlo := g_lor64 (l := l) (r := r)
  unfold g64 at hla hlo
  refine g_iload_n hc dX9_joined_0 rfl ?_
  rcases (show s < 38 ∨ 62 < s ∨ s = 38 ∨ s = 39 ∨ s = 40 ∨ s = 41 ∨ s = 42 ∨ s = 43 ∨ s = 44 ∨ s = 45 ∨ s = 46 ∨ s = 47 ∨ s = 48 ∨ s = 49 ∨ s = 50 ∨ s = 51 ∨ s = 52 ∨ s = 53 ∨ s = 54 ∨ s = 55 ∨ s = 56 ∨ s = 57 ∨ s = 58 ∨ s = 59 ∨ s = 60 ∨ s = 61 ∨ s = 62 by omega) with hsw | hsw | hsw | hsw | hsw | hsw | hsw | hsw | hsw | hsw | hsw | hsw | hsw | hsw | hsw | hsw | hsw | hsw | hsw | hsw | hsw | hsw | hsw | hsw | hsw | hsw | hsw
  · skip
    refine g_tableOut (tgt := 214) hc dX9_joined_1 (by first | exact hI _ _ | exact hxI2 _ _ | exact hIa _ _ | exact hIb _ _ | exact g_b32 | exact g_and32 | assumption | exact ⟨by omega, by omega⟩) (by omega) (by decide) ?_
    refine g_lload_n hc dX9_joined_214 rfl ?_
    refine g_lload_n hc dX9_joined_215 rfl ?_
    refine g_lor' hc dX9_joined_216 ?_
    refine g_lstore_5 hc dX9_joined_217 rfl ?_
    refine g_lload hc dX9_joined_219 rfl ?_
    refine g_ldc2 (k := 1000000) hc dX9_joined_221 _ lc_X9_28 (by decide +kernel) ?_
    refine g_lcmp hc dX9_joined_224 (by exact ⟨by omega, by omega⟩) (by exact ⟨by omega, by omega⟩) ?_
    refine g_if_le (tgt := 231) hc dX9_joined_225 (by decide) (by split <;> first | exact ⟨by decide, by decide⟩ | (split <;> exact ⟨by decide, by decide⟩)) (fun c1 => ?_) (fun c1 => ?_)
    · skip
      have c_b : g_lor l r ≤ 1000000 := by split at c1 <;> first | omega | (split at c1 <;> omega)
      refine g_lload hc dX9_joined_231 rfl ?_
      refine g_ldc2 (k := (-1000000)) hc dX9_joined_233 _ lc_X9_31 (by decide +kernel) ?_
      refine g_lcmp hc dX9_joined_236 (by exact ⟨by omega, by omega⟩) (by exact ⟨by omega, by omega⟩) ?_
      refine g_if_ge (tgt := 245) hc dX9_joined_237 (by decide) (by split <;> first | exact ⟨by decide, by decide⟩ | (split <;> exact ⟨by decide, by decide⟩)) (fun c2 => ?_) (fun c2 => ?_)
      · skip
        have c_b2 : -1000000 ≤ g_lor l r := by split at c2 <;> first | omega | (split at c2 <;> omega)
        refine g_lload hc dX9_joined_245 rfl ?_
        refine g_l2i hc dX9_joined_247 ?_
        refine g_iret hc hm dX9_joined_248 ?_
        have h124 : s = 43 ∨ s = 45 ∨ s = 42 ∨ s = 47 ∨ s = 61 ∨ s = 60 ∨ s = 62 ∨ s = 38 ∨ s = 124 := by omega
        first | (exfalso; omega) | (rw [show s = 124 by omega]; exact ⟨congrArg (fun z => some (gvI z)) (by rw [g_jn124]; omega), rfl, rfl, rfl, rfl⟩) | (subst hsw; first | exact ⟨congrArg (fun z => some (gvI z)) (by rw [g_jn43]; omega), rfl, rfl, rfl, rfl⟩ | exact ⟨congrArg (fun z => some (gvI z)) (by rw [g_jn45]; omega), rfl, rfl, rfl, rfl⟩ | exact ⟨congrArg (fun z => some (gvI z)) (by rw [g_jn42]; omega), rfl, rfl, rfl, rfl⟩ | exact ⟨congrArg (fun z => some (gvI z)) (by rw [g_jn38]; omega), rfl, rfl, rfl, rfl⟩ | exact ⟨congrArg (fun z => some (gvI z)) (by rw [g_jn47, if_neg c_ne]; omega), rfl, rfl, rfl, rfl⟩ | exact ⟨congrArg (fun z => some (gvI z)) (by rw [g_jn47, if_pos c_e]; omega), rfl, rfl, rfl, rfl⟩ | exact ⟨congrArg (fun z => some (gvI z)) (by rw [g_jn61, if_pos c_e]; omega), rfl, rfl, rfl, rfl⟩ | exact ⟨congrArg (fun z => some (gvI z)) (by rw [g_jn61, if_neg c_ne]; omega), rfl, rfl, rfl, rfl⟩ | exact ⟨congrArg (fun z => some (gvI z)) (by rw [g_jn60, if_pos c_e]; omega), rfl, rfl, rfl, rfl⟩ | exact ⟨congrArg (fun z => some (gvI z)) (by rw [g_jn60, if_neg c_ne]; omega), rfl, rfl, rfl, rfl⟩ | exact ⟨congrArg (fun z => some (gvI z)) (by rw [g_jn62, if_pos c_e]; omega), rfl, rfl, rfl, rfl⟩ | exact ⟨congrArg (fun z => some (gvI z)) (by rw [g_jn62, if_neg c_ne]; omega), rfl, rfl, rfl, rfl⟩)
      · skip
        have c_b2 : g_lor l r < -1000000 := by split at c2 <;> first | omega | (split at c2 <;> omega)
        refine g_ldc (k := (-1000000)) hc dX9_joined_240 _ lc_X9_33 (by decide +kernel) ?_
        refine g_goto (tgt := 248) hc dX9_joined_242 (by decide) ?_
        refine g_iret hc hm dX9_joined_248 ?_
        have h124 : s = 43 ∨ s = 45 ∨ s = 42 ∨ s = 47 ∨ s = 61 ∨ s = 60 ∨ s = 62 ∨ s = 38 ∨ s = 124 := by omega
        first | (exfalso; omega) | (rw [show s = 124 by omega]; exact ⟨congrArg (fun z => some (gvI z)) (by rw [g_jn124]; omega), rfl, rfl, rfl, rfl⟩) | (subst hsw; first | exact ⟨congrArg (fun z => some (gvI z)) (by rw [g_jn43]; omega), rfl, rfl, rfl, rfl⟩ | exact ⟨congrArg (fun z => some (gvI z)) (by rw [g_jn45]; omega), rfl, rfl, rfl, rfl⟩ | exact ⟨congrArg (fun z => some (gvI z)) (by rw [g_jn42]; omega), rfl, rfl, rfl, rfl⟩ | exact ⟨congrArg (fun z => some (gvI z)) (by rw [g_jn38]; omega), rfl, rfl, rfl, rfl⟩ | exact ⟨congrArg (fun z => some (gvI z)) (by rw [g_jn47, if_neg c_ne]; omega), rfl, rfl, rfl, rfl⟩ | exact ⟨congrArg (fun z => some (gvI z)) (by rw [g_jn47, if_pos c_e]; omega), rfl, rfl, rfl, rfl⟩ | exact ⟨congrArg (fun z => some (gvI z)) (by rw [g_jn61, if_pos c_e]; omega), rfl, rfl, rfl, rfl⟩ | exact ⟨congrArg (fun z => some (gvI z)) (by rw [g_jn61, if_neg c_ne]; omega), rfl, rfl, rfl, rfl⟩ | exact ⟨congrArg (fun z => some (gvI z)) (by rw [g_jn60, if_pos c_e]; omega), rfl, rfl, rfl, rfl⟩ | exact ⟨congrArg (fun z => some (gvI z)) (by rw [g_jn60, if_neg c_ne]; omega), rfl, rfl, rfl, rfl⟩ | exact ⟨congrArg (fun z => some (gvI z)) (by rw [g_jn62, if_pos c_e]; omega), rfl, rfl, rfl, rfl⟩ | exact ⟨congrArg (fun z => some (gvI z)) (by rw [g_jn62, if_neg c_ne]; omega), rfl, rfl, rfl, rfl⟩)
    · skip
      have c_b : 1000000 < g_lor l r := by split at c1 <;> first | omega | (split at c1 <;> omega)
      refine g_ldc (k := 1000000) hc dX9_joined_228 _ lc_X9_30 (by decide +kernel) ?_
      refine g_iret hc hm dX9_joined_230 ?_
      have h124 : s = 43 ∨ s = 45 ∨ s = 42 ∨ s = 47 ∨ s = 61 ∨ s = 60 ∨ s = 62 ∨ s = 38 ∨ s = 124 := by omega
      first | (exfalso; omega) | (rw [show s = 124 by omega]; exact ⟨congrArg (fun z => some (gvI z)) (by rw [g_jn124]; omega), rfl, rfl, rfl, rfl⟩) | (subst hsw; first | exact ⟨congrArg (fun z => some (gvI z)) (by rw [g_jn43]; omega), rfl, rfl, rfl, rfl⟩ | exact ⟨congrArg (fun z => some (gvI z)) (by rw [g_jn45]; omega), rfl, rfl, rfl, rfl⟩ | exact ⟨congrArg (fun z => some (gvI z)) (by rw [g_jn42]; omega), rfl, rfl, rfl, rfl⟩ | exact ⟨congrArg (fun z => some (gvI z)) (by rw [g_jn38]; omega), rfl, rfl, rfl, rfl⟩ | exact ⟨congrArg (fun z => some (gvI z)) (by rw [g_jn47, if_neg c_ne]; omega), rfl, rfl, rfl, rfl⟩ | exact ⟨congrArg (fun z => some (gvI z)) (by rw [g_jn47, if_pos c_e]; omega), rfl, rfl, rfl, rfl⟩ | exact ⟨congrArg (fun z => some (gvI z)) (by rw [g_jn61, if_pos c_e]; omega), rfl, rfl, rfl, rfl⟩ | exact ⟨congrArg (fun z => some (gvI z)) (by rw [g_jn61, if_neg c_ne]; omega), rfl, rfl, rfl, rfl⟩ | exact ⟨congrArg (fun z => some (gvI z)) (by rw [g_jn60, if_pos c_e]; omega), rfl, rfl, rfl, rfl⟩ | exact ⟨congrArg (fun z => some (gvI z)) (by rw [g_jn60, if_neg c_ne]; omega), rfl, rfl, rfl, rfl⟩ | exact ⟨congrArg (fun z => some (gvI z)) (by rw [g_jn62, if_pos c_e]; omega), rfl, rfl, rfl, rfl⟩ | exact ⟨congrArg (fun z => some (gvI z)) (by rw [g_jn62, if_neg c_ne]; omega), rfl, rfl, rfl, rfl⟩)
  · skip
    refine g_tableOut (tgt := 214) hc dX9_joined_1 (by first | exact hI _ _ | exact hxI2 _ _ | exact hIa _ _ | exact hIb _ _ | exact g_b32 | exact g_and32 | assumption | exact ⟨by omega, by omega⟩) (by omega) (by decide) ?_
    refine g_lload_n hc dX9_joined_214 rfl ?_
    refine g_lload_n hc dX9_joined_215 rfl ?_
    refine g_lor' hc dX9_joined_216 ?_
    refine g_lstore_5 hc dX9_joined_217 rfl ?_
    refine g_lload hc dX9_joined_219 rfl ?_
    refine g_ldc2 (k := 1000000) hc dX9_joined_221 _ lc_X9_28 (by decide +kernel) ?_
    refine g_lcmp hc dX9_joined_224 (by exact ⟨by omega, by omega⟩) (by exact ⟨by omega, by omega⟩) ?_
    refine g_if_le (tgt := 231) hc dX9_joined_225 (by decide) (by split <;> first | exact ⟨by decide, by decide⟩ | (split <;> exact ⟨by decide, by decide⟩)) (fun c3 => ?_) (fun c3 => ?_)
    · skip
      have c_b : g_lor l r ≤ 1000000 := by split at c3 <;> first | omega | (split at c3 <;> omega)
      refine g_lload hc dX9_joined_231 rfl ?_
      refine g_ldc2 (k := (-1000000)) hc dX9_joined_233 _ lc_X9_31 (by decide +kernel) ?_
      refine g_lcmp hc dX9_joined_236 (by exact ⟨by omega, by omega⟩) (by exact ⟨by omega, by omega⟩) ?_
      refine g_if_ge (tgt := 245) hc dX9_joined_237 (by decide) (by split <;> first | exact ⟨by decide, by decide⟩ | (split <;> exact ⟨by decide, by decide⟩)) (fun c4 => ?_) (fun c4 => ?_)
      · skip
        have c_b2 : -1000000 ≤ g_lor l r := by split at c4 <;> first | omega | (split at c4 <;> omega)
        refine g_lload hc dX9_joined_245 rfl ?_
        refine g_l2i hc dX9_joined_247 ?_
        refine g_iret hc hm dX9_joined_248 ?_
        have h124 : s = 43 ∨ s = 45 ∨ s = 42 ∨ s = 47 ∨ s = 61 ∨ s = 60 ∨ s = 62 ∨ s = 38 ∨ s = 124 := by omega
        first | (exfalso; omega) | (rw [show s = 124 by omega]; exact ⟨congrArg (fun z => some (gvI z)) (by rw [g_jn124]; omega), rfl, rfl, rfl, rfl⟩) | (subst hsw; first | exact ⟨congrArg (fun z => some (gvI z)) (by rw [g_jn43]; omega), rfl, rfl, rfl, rfl⟩ | exact ⟨congrArg (fun z => some (gvI z)) (by rw [g_jn45]; omega), rfl, rfl, rfl, rfl⟩ | exact ⟨congrArg (fun z => some (gvI z)) (by rw [g_jn42]; omega), rfl, rfl, rfl, rfl⟩ | exact ⟨congrArg (fun z => some (gvI z)) (by rw [g_jn38]; omega), rfl, rfl, rfl, rfl⟩ | exact ⟨congrArg (fun z => some (gvI z)) (by rw [g_jn47, if_neg c_ne]; omega), rfl, rfl, rfl, rfl⟩ | exact ⟨congrArg (fun z => some (gvI z)) (by rw [g_jn47, if_pos c_e]; omega), rfl, rfl, rfl, rfl⟩ | exact ⟨congrArg (fun z => some (gvI z)) (by rw [g_jn61, if_pos c_e]; omega), rfl, rfl, rfl, rfl⟩ | exact ⟨congrArg (fun z => some (gvI z)) (by rw [g_jn61, if_neg c_ne]; omega), rfl, rfl, rfl, rfl⟩ | exact ⟨congrArg (fun z => some (gvI z)) (by rw [g_jn60, if_pos c_e]; omega), rfl, rfl, rfl, rfl⟩ | exact ⟨congrArg (fun z => some (gvI z)) (by rw [g_jn60, if_neg c_ne]; omega), rfl, rfl, rfl, rfl⟩ | exact ⟨congrArg (fun z => some (gvI z)) (by rw [g_jn62, if_pos c_e]; omega), rfl, rfl, rfl, rfl⟩ | exact ⟨congrArg (fun z => some (gvI z)) (by rw [g_jn62, if_neg c_ne]; omega), rfl, rfl, rfl, rfl⟩)
      · skip
        have c_b2 : g_lor l r < -1000000 := by split at c4 <;> first | omega | (split at c4 <;> omega)
        refine g_ldc (k := (-1000000)) hc dX9_joined_240 _ lc_X9_33 (by decide +kernel) ?_
        refine g_goto (tgt := 248) hc dX9_joined_242 (by decide) ?_
        refine g_iret hc hm dX9_joined_248 ?_
        have h124 : s = 43 ∨ s = 45 ∨ s = 42 ∨ s = 47 ∨ s = 61 ∨ s = 60 ∨ s = 62 ∨ s = 38 ∨ s = 124 := by omega
        first | (exfalso; omega) | (rw [show s = 124 by omega]; exact ⟨congrArg (fun z => some (gvI z)) (by rw [g_jn124]; omega), rfl, rfl, rfl, rfl⟩) | (subst hsw; first | exact ⟨congrArg (fun z => some (gvI z)) (by rw [g_jn43]; omega), rfl, rfl, rfl, rfl⟩ | exact ⟨congrArg (fun z => some (gvI z)) (by rw [g_jn45]; omega), rfl, rfl, rfl, rfl⟩ | exact ⟨congrArg (fun z => some (gvI z)) (by rw [g_jn42]; omega), rfl, rfl, rfl, rfl⟩ | exact ⟨congrArg (fun z => some (gvI z)) (by rw [g_jn38]; omega), rfl, rfl, rfl, rfl⟩ | exact ⟨congrArg (fun z => some (gvI z)) (by rw [g_jn47, if_neg c_ne]; omega), rfl, rfl, rfl, rfl⟩ | exact ⟨congrArg (fun z => some (gvI z)) (by rw [g_jn47, if_pos c_e]; omega), rfl, rfl, rfl, rfl⟩ | exact ⟨congrArg (fun z => some (gvI z)) (by rw [g_jn61, if_pos c_e]; omega), rfl, rfl, rfl, rfl⟩ | exact ⟨congrArg (fun z => some (gvI z)) (by rw [g_jn61, if_neg c_ne]; omega), rfl, rfl, rfl, rfl⟩ | exact ⟨congrArg (fun z => some (gvI z)) (by rw [g_jn60, if_pos c_e]; omega), rfl, rfl, rfl, rfl⟩ | exact ⟨congrArg (fun z => some (gvI z)) (by rw [g_jn60, if_neg c_ne]; omega), rfl, rfl, rfl, rfl⟩ | exact ⟨congrArg (fun z => some (gvI z)) (by rw [g_jn62, if_pos c_e]; omega), rfl, rfl, rfl, rfl⟩ | exact ⟨congrArg (fun z => some (gvI z)) (by rw [g_jn62, if_neg c_ne]; omega), rfl, rfl, rfl, rfl⟩)
    · skip
      have c_b : 1000000 < g_lor l r := by split at c3 <;> first | omega | (split at c3 <;> omega)
      refine g_ldc (k := 1000000) hc dX9_joined_228 _ lc_X9_30 (by decide +kernel) ?_
      refine g_iret hc hm dX9_joined_230 ?_
      have h124 : s = 43 ∨ s = 45 ∨ s = 42 ∨ s = 47 ∨ s = 61 ∨ s = 60 ∨ s = 62 ∨ s = 38 ∨ s = 124 := by omega
      first | (exfalso; omega) | (rw [show s = 124 by omega]; exact ⟨congrArg (fun z => some (gvI z)) (by rw [g_jn124]; omega), rfl, rfl, rfl, rfl⟩) | (subst hsw; first | exact ⟨congrArg (fun z => some (gvI z)) (by rw [g_jn43]; omega), rfl, rfl, rfl, rfl⟩ | exact ⟨congrArg (fun z => some (gvI z)) (by rw [g_jn45]; omega), rfl, rfl, rfl, rfl⟩ | exact ⟨congrArg (fun z => some (gvI z)) (by rw [g_jn42]; omega), rfl, rfl, rfl, rfl⟩ | exact ⟨congrArg (fun z => some (gvI z)) (by rw [g_jn38]; omega), rfl, rfl, rfl, rfl⟩ | exact ⟨congrArg (fun z => some (gvI z)) (by rw [g_jn47, if_neg c_ne]; omega), rfl, rfl, rfl, rfl⟩ | exact ⟨congrArg (fun z => some (gvI z)) (by rw [g_jn47, if_pos c_e]; omega), rfl, rfl, rfl, rfl⟩ | exact ⟨congrArg (fun z => some (gvI z)) (by rw [g_jn61, if_pos c_e]; omega), rfl, rfl, rfl, rfl⟩ | exact ⟨congrArg (fun z => some (gvI z)) (by rw [g_jn61, if_neg c_ne]; omega), rfl, rfl, rfl, rfl⟩ | exact ⟨congrArg (fun z => some (gvI z)) (by rw [g_jn60, if_pos c_e]; omega), rfl, rfl, rfl, rfl⟩ | exact ⟨congrArg (fun z => some (gvI z)) (by rw [g_jn60, if_neg c_ne]; omega), rfl, rfl, rfl, rfl⟩ | exact ⟨congrArg (fun z => some (gvI z)) (by rw [g_jn62, if_pos c_e]; omega), rfl, rfl, rfl, rfl⟩ | exact ⟨congrArg (fun z => some (gvI z)) (by rw [g_jn62, if_neg c_ne]; omega), rfl, rfl, rfl, rfl⟩)
  · skip
    refine g_tableIn (tgt := 206) (off := 205) hc dX9_joined_1 (by first | exact hI _ _ | exact hxI2 _ _ | exact hIa _ _ | exact hIb _ _ | exact g_b32 | exact g_and32 | assumption | exact ⟨by omega, by omega⟩) (by omega) (by omega) (by rw [hsw]; rfl) (by decide) ?_
    refine g_lload_n hc dX9_joined_206 rfl ?_
    refine g_lload_n hc dX9_joined_207 rfl ?_
    refine g_land' hc dX9_joined_208 ?_
    refine g_lstore_5 hc dX9_joined_209 rfl ?_
    refine g_goto (tgt := 219) hc dX9_joined_211 (by decide) ?_
    refine g_lload hc dX9_joined_219 rfl ?_
    refine g_ldc2 (k := 1000000) hc dX9_joined_221 _ lc_X9_28 (by decide +kernel) ?_
    refine g_lcmp hc dX9_joined_224 (by exact ⟨by omega, by omega⟩) (by exact ⟨by omega, by omega⟩) ?_
    refine g_if_le (tgt := 231) hc dX9_joined_225 (by decide) (by split <;> first | exact ⟨by decide, by decide⟩ | (split <;> exact ⟨by decide, by decide⟩)) (fun c5 => ?_) (fun c5 => ?_)
    · skip
      have c_b : g_land l r ≤ 1000000 := by split at c5 <;> first | omega | (split at c5 <;> omega)
      refine g_lload hc dX9_joined_231 rfl ?_
      refine g_ldc2 (k := (-1000000)) hc dX9_joined_233 _ lc_X9_31 (by decide +kernel) ?_
      refine g_lcmp hc dX9_joined_236 (by exact ⟨by omega, by omega⟩) (by exact ⟨by omega, by omega⟩) ?_
      refine g_if_ge (tgt := 245) hc dX9_joined_237 (by decide) (by split <;> first | exact ⟨by decide, by decide⟩ | (split <;> exact ⟨by decide, by decide⟩)) (fun c6 => ?_) (fun c6 => ?_)
      · skip
        have c_b2 : -1000000 ≤ g_land l r := by split at c6 <;> first | omega | (split at c6 <;> omega)
        refine g_lload hc dX9_joined_245 rfl ?_
        refine g_l2i hc dX9_joined_247 ?_
        refine g_iret hc hm dX9_joined_248 ?_
        have h124 : s = 43 ∨ s = 45 ∨ s = 42 ∨ s = 47 ∨ s = 61 ∨ s = 60 ∨ s = 62 ∨ s = 38 ∨ s = 124 := by omega
        first | (exfalso; omega) | (rw [show s = 124 by omega]; exact ⟨congrArg (fun z => some (gvI z)) (by rw [g_jn124]; omega), rfl, rfl, rfl, rfl⟩) | (subst hsw; first | exact ⟨congrArg (fun z => some (gvI z)) (by rw [g_jn43]; omega), rfl, rfl, rfl, rfl⟩ | exact ⟨congrArg (fun z => some (gvI z)) (by rw [g_jn45]; omega), rfl, rfl, rfl, rfl⟩ | exact ⟨congrArg (fun z => some (gvI z)) (by rw [g_jn42]; omega), rfl, rfl, rfl, rfl⟩ | exact ⟨congrArg (fun z => some (gvI z)) (by rw [g_jn38]; omega), rfl, rfl, rfl, rfl⟩ | exact ⟨congrArg (fun z => some (gvI z)) (by rw [g_jn47, if_neg c_ne]; omega), rfl, rfl, rfl, rfl⟩ | exact ⟨congrArg (fun z => some (gvI z)) (by rw [g_jn47, if_pos c_e]; omega), rfl, rfl, rfl, rfl⟩ | exact ⟨congrArg (fun z => some (gvI z)) (by rw [g_jn61, if_pos c_e]; omega), rfl, rfl, rfl, rfl⟩ | exact ⟨congrArg (fun z => some (gvI z)) (by rw [g_jn61, if_neg c_ne]; omega), rfl, rfl, rfl, rfl⟩ | exact ⟨congrArg (fun z => some (gvI z)) (by rw [g_jn60, if_pos c_e]; omega), rfl, rfl, rfl, rfl⟩ | exact ⟨congrArg (fun z => some (gvI z)) (by rw [g_jn60, if_neg c_ne]; omega), rfl, rfl, rfl, rfl⟩ | exact ⟨congrArg (fun z => some (gvI z)) (by rw [g_jn62, if_pos c_e]; omega), rfl, rfl, rfl, rfl⟩ | exact ⟨congrArg (fun z => some (gvI z)) (by rw [g_jn62, if_neg c_ne]; omega), rfl, rfl, rfl, rfl⟩)
      · skip
        have c_b2 : g_land l r < -1000000 := by split at c6 <;> first | omega | (split at c6 <;> omega)
        refine g_ldc (k := (-1000000)) hc dX9_joined_240 _ lc_X9_33 (by decide +kernel) ?_
        refine g_goto (tgt := 248) hc dX9_joined_242 (by decide) ?_
        refine g_iret hc hm dX9_joined_248 ?_
        have h124 : s = 43 ∨ s = 45 ∨ s = 42 ∨ s = 47 ∨ s = 61 ∨ s = 60 ∨ s = 62 ∨ s = 38 ∨ s = 124 := by omega
        first | (exfalso; omega) | (rw [show s = 124 by omega]; exact ⟨congrArg (fun z => some (gvI z)) (by rw [g_jn124]; omega), rfl, rfl, rfl, rfl⟩) | (subst hsw; first | exact ⟨congrArg (fun z => some (gvI z)) (by rw [g_jn43]; omega), rfl, rfl, rfl, rfl⟩ | exact ⟨congrArg (fun z => some (gvI z)) (by rw [g_jn45]; omega), rfl, rfl, rfl, rfl⟩ | exact ⟨congrArg (fun z => some (gvI z)) (by rw [g_jn42]; omega), rfl, rfl, rfl, rfl⟩ | exact ⟨congrArg (fun z => some (gvI z)) (by rw [g_jn38]; omega), rfl, rfl, rfl, rfl⟩ | exact ⟨congrArg (fun z => some (gvI z)) (by rw [g_jn47, if_neg c_ne]; omega), rfl, rfl, rfl, rfl⟩ | exact ⟨congrArg (fun z => some (gvI z)) (by rw [g_jn47, if_pos c_e]; omega), rfl, rfl, rfl, rfl⟩ | exact ⟨congrArg (fun z => some (gvI z)) (by rw [g_jn61, if_pos c_e]; omega), rfl, rfl, rfl, rfl⟩ | exact ⟨congrArg (fun z => some (gvI z)) (by rw [g_jn61, if_neg c_ne]; omega), rfl, rfl, rfl, rfl⟩ | exact ⟨congrArg (fun z => some (gvI z)) (by rw [g_jn60, if_pos c_e]; omega), rfl, rfl, rfl, rfl⟩ | exact ⟨congrArg (fun z => some (gvI z)) (by rw [g_jn60, if_neg c_ne]; omega), rfl, rfl, rfl, rfl⟩ | exact ⟨congrArg (fun z => some (gvI z)) (by rw [g_jn62, if_pos c_e]; omega), rfl, rfl, rfl, rfl⟩ | exact ⟨congrArg (fun z => some (gvI z)) (by rw [g_jn62, if_neg c_ne]; omega), rfl, rfl, rfl, rfl⟩)
    · skip
      have c_b : 1000000 < g_land l r := by split at c5 <;> first | omega | (split at c5 <;> omega)
      refine g_ldc (k := 1000000) hc dX9_joined_228 _ lc_X9_30 (by decide +kernel) ?_
      refine g_iret hc hm dX9_joined_230 ?_
      have h124 : s = 43 ∨ s = 45 ∨ s = 42 ∨ s = 47 ∨ s = 61 ∨ s = 60 ∨ s = 62 ∨ s = 38 ∨ s = 124 := by omega
      first | (exfalso; omega) | (rw [show s = 124 by omega]; exact ⟨congrArg (fun z => some (gvI z)) (by rw [g_jn124]; omega), rfl, rfl, rfl, rfl⟩) | (subst hsw; first | exact ⟨congrArg (fun z => some (gvI z)) (by rw [g_jn43]; omega), rfl, rfl, rfl, rfl⟩ | exact ⟨congrArg (fun z => some (gvI z)) (by rw [g_jn45]; omega), rfl, rfl, rfl, rfl⟩ | exact ⟨congrArg (fun z => some (gvI z)) (by rw [g_jn42]; omega), rfl, rfl, rfl, rfl⟩ | exact ⟨congrArg (fun z => some (gvI z)) (by rw [g_jn38]; omega), rfl, rfl, rfl, rfl⟩ | exact ⟨congrArg (fun z => some (gvI z)) (by rw [g_jn47, if_neg c_ne]; omega), rfl, rfl, rfl, rfl⟩ | exact ⟨congrArg (fun z => some (gvI z)) (by rw [g_jn47, if_pos c_e]; omega), rfl, rfl, rfl, rfl⟩ | exact ⟨congrArg (fun z => some (gvI z)) (by rw [g_jn61, if_pos c_e]; omega), rfl, rfl, rfl, rfl⟩ | exact ⟨congrArg (fun z => some (gvI z)) (by rw [g_jn61, if_neg c_ne]; omega), rfl, rfl, rfl, rfl⟩ | exact ⟨congrArg (fun z => some (gvI z)) (by rw [g_jn60, if_pos c_e]; omega), rfl, rfl, rfl, rfl⟩ | exact ⟨congrArg (fun z => some (gvI z)) (by rw [g_jn60, if_neg c_ne]; omega), rfl, rfl, rfl, rfl⟩ | exact ⟨congrArg (fun z => some (gvI z)) (by rw [g_jn62, if_pos c_e]; omega), rfl, rfl, rfl, rfl⟩ | exact ⟨congrArg (fun z => some (gvI z)) (by rw [g_jn62, if_neg c_ne]; omega), rfl, rfl, rfl, rfl⟩)
  · skip
    exfalso; omega
  · skip
    exfalso; omega
  · skip
    exfalso; omega
  · skip
    refine g_tableIn (tgt := 132) (off := 131) hc dX9_joined_1 (by first | exact hI _ _ | exact hxI2 _ _ | exact hIa _ _ | exact hIb _ _ | exact g_b32 | exact g_and32 | assumption | exact ⟨by omega, by omega⟩) (by omega) (by omega) (by rw [hsw]; rfl) (by decide) ?_
    refine g_lload_n hc dX9_joined_132 rfl ?_
    refine g_lload_n hc dX9_joined_133 rfl ?_
    refine g_lmul hc dX9_joined_134 ?_
    refine g_lstore_5 hc dX9_joined_135 rfl ?_
    refine g_goto (tgt := 219) hc dX9_joined_137 (by decide) ?_
    refine g_lload hc dX9_joined_219 rfl ?_
    refine g_ldc2 (k := 1000000) hc dX9_joined_221 _ lc_X9_28 (by decide +kernel) ?_
    refine g_lcmp hc dX9_joined_224 (by exact ⟨by omega, by omega⟩) (by exact ⟨by omega, by omega⟩) ?_
    refine g_if_le (tgt := 231) hc dX9_joined_225 (by decide) (by split <;> first | exact ⟨by decide, by decide⟩ | (split <;> exact ⟨by decide, by decide⟩)) (fun c7 => ?_) (fun c7 => ?_)
    · skip
      have c_b : l * r ≤ 1000000 := by split at c7 <;> first | omega | (split at c7 <;> omega)
      refine g_lload hc dX9_joined_231 rfl ?_
      refine g_ldc2 (k := (-1000000)) hc dX9_joined_233 _ lc_X9_31 (by decide +kernel) ?_
      refine g_lcmp hc dX9_joined_236 (by exact ⟨by omega, by omega⟩) (by exact ⟨by omega, by omega⟩) ?_
      refine g_if_ge (tgt := 245) hc dX9_joined_237 (by decide) (by split <;> first | exact ⟨by decide, by decide⟩ | (split <;> exact ⟨by decide, by decide⟩)) (fun c8 => ?_) (fun c8 => ?_)
      · skip
        have c_b2 : -1000000 ≤ l * r := by split at c8 <;> first | omega | (split at c8 <;> omega)
        refine g_lload hc dX9_joined_245 rfl ?_
        refine g_l2i hc dX9_joined_247 ?_
        refine g_iret hc hm dX9_joined_248 ?_
        have h124 : s = 43 ∨ s = 45 ∨ s = 42 ∨ s = 47 ∨ s = 61 ∨ s = 60 ∨ s = 62 ∨ s = 38 ∨ s = 124 := by omega
        first | (exfalso; omega) | (rw [show s = 124 by omega]; exact ⟨congrArg (fun z => some (gvI z)) (by rw [g_jn124]; omega), rfl, rfl, rfl, rfl⟩) | (subst hsw; first | exact ⟨congrArg (fun z => some (gvI z)) (by rw [g_jn43]; omega), rfl, rfl, rfl, rfl⟩ | exact ⟨congrArg (fun z => some (gvI z)) (by rw [g_jn45]; omega), rfl, rfl, rfl, rfl⟩ | exact ⟨congrArg (fun z => some (gvI z)) (by rw [g_jn42]; omega), rfl, rfl, rfl, rfl⟩ | exact ⟨congrArg (fun z => some (gvI z)) (by rw [g_jn38]; omega), rfl, rfl, rfl, rfl⟩ | exact ⟨congrArg (fun z => some (gvI z)) (by rw [g_jn47, if_neg c_ne]; omega), rfl, rfl, rfl, rfl⟩ | exact ⟨congrArg (fun z => some (gvI z)) (by rw [g_jn47, if_pos c_e]; omega), rfl, rfl, rfl, rfl⟩ | exact ⟨congrArg (fun z => some (gvI z)) (by rw [g_jn61, if_pos c_e]; omega), rfl, rfl, rfl, rfl⟩ | exact ⟨congrArg (fun z => some (gvI z)) (by rw [g_jn61, if_neg c_ne]; omega), rfl, rfl, rfl, rfl⟩ | exact ⟨congrArg (fun z => some (gvI z)) (by rw [g_jn60, if_pos c_e]; omega), rfl, rfl, rfl, rfl⟩ | exact ⟨congrArg (fun z => some (gvI z)) (by rw [g_jn60, if_neg c_ne]; omega), rfl, rfl, rfl, rfl⟩ | exact ⟨congrArg (fun z => some (gvI z)) (by rw [g_jn62, if_pos c_e]; omega), rfl, rfl, rfl, rfl⟩ | exact ⟨congrArg (fun z => some (gvI z)) (by rw [g_jn62, if_neg c_ne]; omega), rfl, rfl, rfl, rfl⟩)
      · skip
        have c_b2 : l * r < -1000000 := by split at c8 <;> first | omega | (split at c8 <;> omega)
        refine g_ldc (k := (-1000000)) hc dX9_joined_240 _ lc_X9_33 (by decide +kernel) ?_
        refine g_goto (tgt := 248) hc dX9_joined_242 (by decide) ?_
        refine g_iret hc hm dX9_joined_248 ?_
        have h124 : s = 43 ∨ s = 45 ∨ s = 42 ∨ s = 47 ∨ s = 61 ∨ s = 60 ∨ s = 62 ∨ s = 38 ∨ s = 124 := by omega
        first | (exfalso; omega) | (rw [show s = 124 by omega]; exact ⟨congrArg (fun z => some (gvI z)) (by rw [g_jn124]; omega), rfl, rfl, rfl, rfl⟩) | (subst hsw; first | exact ⟨congrArg (fun z => some (gvI z)) (by rw [g_jn43]; omega), rfl, rfl, rfl, rfl⟩ | exact ⟨congrArg (fun z => some (gvI z)) (by rw [g_jn45]; omega), rfl, rfl, rfl, rfl⟩ | exact ⟨congrArg (fun z => some (gvI z)) (by rw [g_jn42]; omega), rfl, rfl, rfl, rfl⟩ | exact ⟨congrArg (fun z => some (gvI z)) (by rw [g_jn38]; omega), rfl, rfl, rfl, rfl⟩ | exact ⟨congrArg (fun z => some (gvI z)) (by rw [g_jn47, if_neg c_ne]; omega), rfl, rfl, rfl, rfl⟩ | exact ⟨congrArg (fun z => some (gvI z)) (by rw [g_jn47, if_pos c_e]; omega), rfl, rfl, rfl, rfl⟩ | exact ⟨congrArg (fun z => some (gvI z)) (by rw [g_jn61, if_pos c_e]; omega), rfl, rfl, rfl, rfl⟩ | exact ⟨congrArg (fun z => some (gvI z)) (by rw [g_jn61, if_neg c_ne]; omega), rfl, rfl, rfl, rfl⟩ | exact ⟨congrArg (fun z => some (gvI z)) (by rw [g_jn60, if_pos c_e]; omega), rfl, rfl, rfl, rfl⟩ | exact ⟨congrArg (fun z => some (gvI z)) (by rw [g_jn60, if_neg c_ne]; omega), rfl, rfl, rfl, rfl⟩ | exact ⟨congrArg (fun z => some (gvI z)) (by rw [g_jn62, if_pos c_e]; omega), rfl, rfl, rfl, rfl⟩ | exact ⟨congrArg (fun z => some (gvI z)) (by rw [g_jn62, if_neg c_ne]; omega), rfl, rfl, rfl, rfl⟩)
    · skip
      have c_b : 1000000 < l * r := by split at c7 <;> first | omega | (split at c7 <;> omega)
      refine g_ldc (k := 1000000) hc dX9_joined_228 _ lc_X9_30 (by decide +kernel) ?_
      refine g_iret hc hm dX9_joined_230 ?_
      have h124 : s = 43 ∨ s = 45 ∨ s = 42 ∨ s = 47 ∨ s = 61 ∨ s = 60 ∨ s = 62 ∨ s = 38 ∨ s = 124 := by omega
      first | (exfalso; omega) | (rw [show s = 124 by omega]; exact ⟨congrArg (fun z => some (gvI z)) (by rw [g_jn124]; omega), rfl, rfl, rfl, rfl⟩) | (subst hsw; first | exact ⟨congrArg (fun z => some (gvI z)) (by rw [g_jn43]; omega), rfl, rfl, rfl, rfl⟩ | exact ⟨congrArg (fun z => some (gvI z)) (by rw [g_jn45]; omega), rfl, rfl, rfl, rfl⟩ | exact ⟨congrArg (fun z => some (gvI z)) (by rw [g_jn42]; omega), rfl, rfl, rfl, rfl⟩ | exact ⟨congrArg (fun z => some (gvI z)) (by rw [g_jn38]; omega), rfl, rfl, rfl, rfl⟩ | exact ⟨congrArg (fun z => some (gvI z)) (by rw [g_jn47, if_neg c_ne]; omega), rfl, rfl, rfl, rfl⟩ | exact ⟨congrArg (fun z => some (gvI z)) (by rw [g_jn47, if_pos c_e]; omega), rfl, rfl, rfl, rfl⟩ | exact ⟨congrArg (fun z => some (gvI z)) (by rw [g_jn61, if_pos c_e]; omega), rfl, rfl, rfl, rfl⟩ | exact ⟨congrArg (fun z => some (gvI z)) (by rw [g_jn61, if_neg c_ne]; omega), rfl, rfl, rfl, rfl⟩ | exact ⟨congrArg (fun z => some (gvI z)) (by rw [g_jn60, if_pos c_e]; omega), rfl, rfl, rfl, rfl⟩ | exact ⟨congrArg (fun z => some (gvI z)) (by rw [g_jn60, if_neg c_ne]; omega), rfl, rfl, rfl, rfl⟩ | exact ⟨congrArg (fun z => some (gvI z)) (by rw [g_jn62, if_pos c_e]; omega), rfl, rfl, rfl, rfl⟩ | exact ⟨congrArg (fun z => some (gvI z)) (by rw [g_jn62, if_neg c_ne]; omega), rfl, rfl, rfl, rfl⟩)
  · skip
    refine g_tableIn (tgt := 116) (off := 115) hc dX9_joined_1 (by first | exact hI _ _ | exact hxI2 _ _ | exact hIa _ _ | exact hIb _ _ | exact g_b32 | exact g_and32 | assumption | exact ⟨by omega, by omega⟩) (by omega) (by omega) (by rw [hsw]; rfl) (by decide) ?_
    refine g_lload_n hc dX9_joined_116 rfl ?_
    refine g_lload_n hc dX9_joined_117 rfl ?_
    refine g_ladd hc dX9_joined_118 ?_
    refine g_lstore_5 hc dX9_joined_119 rfl ?_
    refine g_goto (tgt := 219) hc dX9_joined_121 (by decide) ?_
    refine g_lload hc dX9_joined_219 rfl ?_
    refine g_ldc2 (k := 1000000) hc dX9_joined_221 _ lc_X9_28 (by decide +kernel) ?_
    refine g_lcmp hc dX9_joined_224 (by exact ⟨by omega, by omega⟩) (by exact ⟨by omega, by omega⟩) ?_
    refine g_if_le (tgt := 231) hc dX9_joined_225 (by decide) (by split <;> first | exact ⟨by decide, by decide⟩ | (split <;> exact ⟨by decide, by decide⟩)) (fun c9 => ?_) (fun c9 => ?_)
    · skip
      have c_b : l + r ≤ 1000000 := by split at c9 <;> first | omega | (split at c9 <;> omega)
      refine g_lload hc dX9_joined_231 rfl ?_
      refine g_ldc2 (k := (-1000000)) hc dX9_joined_233 _ lc_X9_31 (by decide +kernel) ?_
      refine g_lcmp hc dX9_joined_236 (by exact ⟨by omega, by omega⟩) (by exact ⟨by omega, by omega⟩) ?_
      refine g_if_ge (tgt := 245) hc dX9_joined_237 (by decide) (by split <;> first | exact ⟨by decide, by decide⟩ | (split <;> exact ⟨by decide, by decide⟩)) (fun c10 => ?_) (fun c10 => ?_)
      · skip
        have c_b2 : -1000000 ≤ l + r := by split at c10 <;> first | omega | (split at c10 <;> omega)
        refine g_lload hc dX9_joined_245 rfl ?_
        refine g_l2i hc dX9_joined_247 ?_
        refine g_iret hc hm dX9_joined_248 ?_
        have h124 : s = 43 ∨ s = 45 ∨ s = 42 ∨ s = 47 ∨ s = 61 ∨ s = 60 ∨ s = 62 ∨ s = 38 ∨ s = 124 := by omega
        first | (exfalso; omega) | (rw [show s = 124 by omega]; exact ⟨congrArg (fun z => some (gvI z)) (by rw [g_jn124]; omega), rfl, rfl, rfl, rfl⟩) | (subst hsw; first | exact ⟨congrArg (fun z => some (gvI z)) (by rw [g_jn43]; omega), rfl, rfl, rfl, rfl⟩ | exact ⟨congrArg (fun z => some (gvI z)) (by rw [g_jn45]; omega), rfl, rfl, rfl, rfl⟩ | exact ⟨congrArg (fun z => some (gvI z)) (by rw [g_jn42]; omega), rfl, rfl, rfl, rfl⟩ | exact ⟨congrArg (fun z => some (gvI z)) (by rw [g_jn38]; omega), rfl, rfl, rfl, rfl⟩ | exact ⟨congrArg (fun z => some (gvI z)) (by rw [g_jn47, if_neg c_ne]; omega), rfl, rfl, rfl, rfl⟩ | exact ⟨congrArg (fun z => some (gvI z)) (by rw [g_jn47, if_pos c_e]; omega), rfl, rfl, rfl, rfl⟩ | exact ⟨congrArg (fun z => some (gvI z)) (by rw [g_jn61, if_pos c_e]; omega), rfl, rfl, rfl, rfl⟩ | exact ⟨congrArg (fun z => some (gvI z)) (by rw [g_jn61, if_neg c_ne]; omega), rfl, rfl, rfl, rfl⟩ | exact ⟨congrArg (fun z => some (gvI z)) (by rw [g_jn60, if_pos c_e]; omega), rfl, rfl, rfl, rfl⟩ | exact ⟨congrArg (fun z => some (gvI z)) (by rw [g_jn60, if_neg c_ne]; omega), rfl, rfl, rfl, rfl⟩ | exact ⟨congrArg (fun z => some (gvI z)) (by rw [g_jn62, if_pos c_e]; omega), rfl, rfl, rfl, rfl⟩ | exact ⟨congrArg (fun z => some (gvI z)) (by rw [g_jn62, if_neg c_ne]; omega), rfl, rfl, rfl, rfl⟩)
      · skip
        have c_b2 : l + r < -1000000 := by split at c10 <;> first | omega | (split at c10 <;> omega)
        refine g_ldc (k := (-1000000)) hc dX9_joined_240 _ lc_X9_33 (by decide +kernel) ?_
        refine g_goto (tgt := 248) hc dX9_joined_242 (by decide) ?_
        refine g_iret hc hm dX9_joined_248 ?_
        have h124 : s = 43 ∨ s = 45 ∨ s = 42 ∨ s = 47 ∨ s = 61 ∨ s = 60 ∨ s = 62 ∨ s = 38 ∨ s = 124 := by omega
        first | (exfalso; omega) | (rw [show s = 124 by omega]; exact ⟨congrArg (fun z => some (gvI z)) (by rw [g_jn124]; omega), rfl, rfl, rfl, rfl⟩) | (subst hsw; first | exact ⟨congrArg (fun z => some (gvI z)) (by rw [g_jn43]; omega), rfl, rfl, rfl, rfl⟩ | exact ⟨congrArg (fun z => some (gvI z)) (by rw [g_jn45]; omega), rfl, rfl, rfl, rfl⟩ | exact ⟨congrArg (fun z => some (gvI z)) (by rw [g_jn42]; omega), rfl, rfl, rfl, rfl⟩ | exact ⟨congrArg (fun z => some (gvI z)) (by rw [g_jn38]; omega), rfl, rfl, rfl, rfl⟩ | exact ⟨congrArg (fun z => some (gvI z)) (by rw [g_jn47, if_neg c_ne]; omega), rfl, rfl, rfl, rfl⟩ | exact ⟨congrArg (fun z => some (gvI z)) (by rw [g_jn47, if_pos c_e]; omega), rfl, rfl, rfl, rfl⟩ | exact ⟨congrArg (fun z => some (gvI z)) (by rw [g_jn61, if_pos c_e]; omega), rfl, rfl, rfl, rfl⟩ | exact ⟨congrArg (fun z => some (gvI z)) (by rw [g_jn61, if_neg c_ne]; omega), rfl, rfl, rfl, rfl⟩ | exact ⟨congrArg (fun z => some (gvI z)) (by rw [g_jn60, if_pos c_e]; omega), rfl, rfl, rfl, rfl⟩ | exact ⟨congrArg (fun z => some (gvI z)) (by rw [g_jn60, if_neg c_ne]; omega), rfl, rfl, rfl, rfl⟩ | exact ⟨congrArg (fun z => some (gvI z)) (by rw [g_jn62, if_pos c_e]; omega), rfl, rfl, rfl, rfl⟩ | exact ⟨congrArg (fun z => some (gvI z)) (by rw [g_jn62, if_neg c_ne]; omega), rfl, rfl, rfl, rfl⟩)
    · skip
      have c_b : 1000000 < l + r := by split at c9 <;> first | omega | (split at c9 <;> omega)
      refine g_ldc (k := 1000000) hc dX9_joined_228 _ lc_X9_30 (by decide +kernel) ?_
      refine g_iret hc hm dX9_joined_230 ?_
      have h124 : s = 43 ∨ s = 45 ∨ s = 42 ∨ s = 47 ∨ s = 61 ∨ s = 60 ∨ s = 62 ∨ s = 38 ∨ s = 124 := by omega
      first | (exfalso; omega) | (rw [show s = 124 by omega]; exact ⟨congrArg (fun z => some (gvI z)) (by rw [g_jn124]; omega), rfl, rfl, rfl, rfl⟩) | (subst hsw; first | exact ⟨congrArg (fun z => some (gvI z)) (by rw [g_jn43]; omega), rfl, rfl, rfl, rfl⟩ | exact ⟨congrArg (fun z => some (gvI z)) (by rw [g_jn45]; omega), rfl, rfl, rfl, rfl⟩ | exact ⟨congrArg (fun z => some (gvI z)) (by rw [g_jn42]; omega), rfl, rfl, rfl, rfl⟩ | exact ⟨congrArg (fun z => some (gvI z)) (by rw [g_jn38]; omega), rfl, rfl, rfl, rfl⟩ | exact ⟨congrArg (fun z => some (gvI z)) (by rw [g_jn47, if_neg c_ne]; omega), rfl, rfl, rfl, rfl⟩ | exact ⟨congrArg (fun z => some (gvI z)) (by rw [g_jn47, if_pos c_e]; omega), rfl, rfl, rfl, rfl⟩ | exact ⟨congrArg (fun z => some (gvI z)) (by rw [g_jn61, if_pos c_e]; omega), rfl, rfl, rfl, rfl⟩ | exact ⟨congrArg (fun z => some (gvI z)) (by rw [g_jn61, if_neg c_ne]; omega), rfl, rfl, rfl, rfl⟩ | exact ⟨congrArg (fun z => some (gvI z)) (by rw [g_jn60, if_pos c_e]; omega), rfl, rfl, rfl, rfl⟩ | exact ⟨congrArg (fun z => some (gvI z)) (by rw [g_jn60, if_neg c_ne]; omega), rfl, rfl, rfl, rfl⟩ | exact ⟨congrArg (fun z => some (gvI z)) (by rw [g_jn62, if_pos c_e]; omega), rfl, rfl, rfl, rfl⟩ | exact ⟨congrArg (fun z => some (gvI z)) (by rw [g_jn62, if_neg c_ne]; omega), rfl, rfl, rfl, rfl⟩)
  · skip
    exfalso; omega
  · skip
    refine g_tableIn (tgt := 124) (off := 123) hc dX9_joined_1 (by first | exact hI _ _ | exact hxI2 _ _ | exact hIa _ _ | exact hIb _ _ | exact g_b32 | exact g_and32 | assumption | exact ⟨by omega, by omega⟩) (by omega) (by omega) (by rw [hsw]; rfl) (by decide) ?_
    refine g_lload_n hc dX9_joined_124 rfl ?_
    refine g_lload_n hc dX9_joined_125 rfl ?_
    refine g_lsub hc dX9_joined_126 ?_
    refine g_lstore_5 hc dX9_joined_127 rfl ?_
    refine g_goto (tgt := 219) hc dX9_joined_129 (by decide) ?_
    refine g_lload hc dX9_joined_219 rfl ?_
    refine g_ldc2 (k := 1000000) hc dX9_joined_221 _ lc_X9_28 (by decide +kernel) ?_
    refine g_lcmp hc dX9_joined_224 (by exact ⟨by omega, by omega⟩) (by exact ⟨by omega, by omega⟩) ?_
    refine g_if_le (tgt := 231) hc dX9_joined_225 (by decide) (by split <;> first | exact ⟨by decide, by decide⟩ | (split <;> exact ⟨by decide, by decide⟩)) (fun c11 => ?_) (fun c11 => ?_)
    · skip
      have c_b : l - r ≤ 1000000 := by split at c11 <;> first | omega | (split at c11 <;> omega)
      refine g_lload hc dX9_joined_231 rfl ?_
      refine g_ldc2 (k := (-1000000)) hc dX9_joined_233 _ lc_X9_31 (by decide +kernel) ?_
      refine g_lcmp hc dX9_joined_236 (by exact ⟨by omega, by omega⟩) (by exact ⟨by omega, by omega⟩) ?_
      refine g_if_ge (tgt := 245) hc dX9_joined_237 (by decide) (by split <;> first | exact ⟨by decide, by decide⟩ | (split <;> exact ⟨by decide, by decide⟩)) (fun c12 => ?_) (fun c12 => ?_)
      · skip
        have c_b2 : -1000000 ≤ l - r := by split at c12 <;> first | omega | (split at c12 <;> omega)
        refine g_lload hc dX9_joined_245 rfl ?_
        refine g_l2i hc dX9_joined_247 ?_
        refine g_iret hc hm dX9_joined_248 ?_
        have h124 : s = 43 ∨ s = 45 ∨ s = 42 ∨ s = 47 ∨ s = 61 ∨ s = 60 ∨ s = 62 ∨ s = 38 ∨ s = 124 := by omega
        first | (exfalso; omega) | (rw [show s = 124 by omega]; exact ⟨congrArg (fun z => some (gvI z)) (by rw [g_jn124]; omega), rfl, rfl, rfl, rfl⟩) | (subst hsw; first | exact ⟨congrArg (fun z => some (gvI z)) (by rw [g_jn43]; omega), rfl, rfl, rfl, rfl⟩ | exact ⟨congrArg (fun z => some (gvI z)) (by rw [g_jn45]; omega), rfl, rfl, rfl, rfl⟩ | exact ⟨congrArg (fun z => some (gvI z)) (by rw [g_jn42]; omega), rfl, rfl, rfl, rfl⟩ | exact ⟨congrArg (fun z => some (gvI z)) (by rw [g_jn38]; omega), rfl, rfl, rfl, rfl⟩ | exact ⟨congrArg (fun z => some (gvI z)) (by rw [g_jn47, if_neg c_ne]; omega), rfl, rfl, rfl, rfl⟩ | exact ⟨congrArg (fun z => some (gvI z)) (by rw [g_jn47, if_pos c_e]; omega), rfl, rfl, rfl, rfl⟩ | exact ⟨congrArg (fun z => some (gvI z)) (by rw [g_jn61, if_pos c_e]; omega), rfl, rfl, rfl, rfl⟩ | exact ⟨congrArg (fun z => some (gvI z)) (by rw [g_jn61, if_neg c_ne]; omega), rfl, rfl, rfl, rfl⟩ | exact ⟨congrArg (fun z => some (gvI z)) (by rw [g_jn60, if_pos c_e]; omega), rfl, rfl, rfl, rfl⟩ | exact ⟨congrArg (fun z => some (gvI z)) (by rw [g_jn60, if_neg c_ne]; omega), rfl, rfl, rfl, rfl⟩ | exact ⟨congrArg (fun z => some (gvI z)) (by rw [g_jn62, if_pos c_e]; omega), rfl, rfl, rfl, rfl⟩ | exact ⟨congrArg (fun z => some (gvI z)) (by rw [g_jn62, if_neg c_ne]; omega), rfl, rfl, rfl, rfl⟩)
      · skip
        have c_b2 : l - r < -1000000 := by split at c12 <;> first | omega | (split at c12 <;> omega)
        refine g_ldc (k := (-1000000)) hc dX9_joined_240 _ lc_X9_33 (by decide +kernel) ?_
        refine g_goto (tgt := 248) hc dX9_joined_242 (by decide) ?_
        refine g_iret hc hm dX9_joined_248 ?_
        have h124 : s = 43 ∨ s = 45 ∨ s = 42 ∨ s = 47 ∨ s = 61 ∨ s = 60 ∨ s = 62 ∨ s = 38 ∨ s = 124 := by omega
        first | (exfalso; omega) | (rw [show s = 124 by omega]; exact ⟨congrArg (fun z => some (gvI z)) (by rw [g_jn124]; omega), rfl, rfl, rfl, rfl⟩) | (subst hsw; first | exact ⟨congrArg (fun z => some (gvI z)) (by rw [g_jn43]; omega), rfl, rfl, rfl, rfl⟩ | exact ⟨congrArg (fun z => some (gvI z)) (by rw [g_jn45]; omega), rfl, rfl, rfl, rfl⟩ | exact ⟨congrArg (fun z => some (gvI z)) (by rw [g_jn42]; omega), rfl, rfl, rfl, rfl⟩ | exact ⟨congrArg (fun z => some (gvI z)) (by rw [g_jn38]; omega), rfl, rfl, rfl, rfl⟩ | exact ⟨congrArg (fun z => some (gvI z)) (by rw [g_jn47, if_neg c_ne]; omega), rfl, rfl, rfl, rfl⟩ | exact ⟨congrArg (fun z => some (gvI z)) (by rw [g_jn47, if_pos c_e]; omega), rfl, rfl, rfl, rfl⟩ | exact ⟨congrArg (fun z => some (gvI z)) (by rw [g_jn61, if_pos c_e]; omega), rfl, rfl, rfl, rfl⟩ | exact ⟨congrArg (fun z => some (gvI z)) (by rw [g_jn61, if_neg c_ne]; omega), rfl, rfl, rfl, rfl⟩ | exact ⟨congrArg (fun z => some (gvI z)) (by rw [g_jn60, if_pos c_e]; omega), rfl, rfl, rfl, rfl⟩ | exact ⟨congrArg (fun z => some (gvI z)) (by rw [g_jn60, if_neg c_ne]; omega), rfl, rfl, rfl, rfl⟩ | exact ⟨congrArg (fun z => some (gvI z)) (by rw [g_jn62, if_pos c_e]; omega), rfl, rfl, rfl, rfl⟩ | exact ⟨congrArg (fun z => some (gvI z)) (by rw [g_jn62, if_neg c_ne]; omega), rfl, rfl, rfl, rfl⟩)
    · skip
      have c_b : 1000000 < l - r := by split at c11 <;> first | omega | (split at c11 <;> omega)
      refine g_ldc (k := 1000000) hc dX9_joined_228 _ lc_X9_30 (by decide +kernel) ?_
      refine g_iret hc hm dX9_joined_230 ?_
      have h124 : s = 43 ∨ s = 45 ∨ s = 42 ∨ s = 47 ∨ s = 61 ∨ s = 60 ∨ s = 62 ∨ s = 38 ∨ s = 124 := by omega
      first | (exfalso; omega) | (rw [show s = 124 by omega]; exact ⟨congrArg (fun z => some (gvI z)) (by rw [g_jn124]; omega), rfl, rfl, rfl, rfl⟩) | (subst hsw; first | exact ⟨congrArg (fun z => some (gvI z)) (by rw [g_jn43]; omega), rfl, rfl, rfl, rfl⟩ | exact ⟨congrArg (fun z => some (gvI z)) (by rw [g_jn45]; omega), rfl, rfl, rfl, rfl⟩ | exact ⟨congrArg (fun z => some (gvI z)) (by rw [g_jn42]; omega), rfl, rfl, rfl, rfl⟩ | exact ⟨congrArg (fun z => some (gvI z)) (by rw [g_jn38]; omega), rfl, rfl, rfl, rfl⟩ | exact ⟨congrArg (fun z => some (gvI z)) (by rw [g_jn47, if_neg c_ne]; omega), rfl, rfl, rfl, rfl⟩ | exact ⟨congrArg (fun z => some (gvI z)) (by rw [g_jn47, if_pos c_e]; omega), rfl, rfl, rfl, rfl⟩ | exact ⟨congrArg (fun z => some (gvI z)) (by rw [g_jn61, if_pos c_e]; omega), rfl, rfl, rfl, rfl⟩ | exact ⟨congrArg (fun z => some (gvI z)) (by rw [g_jn61, if_neg c_ne]; omega), rfl, rfl, rfl, rfl⟩ | exact ⟨congrArg (fun z => some (gvI z)) (by rw [g_jn60, if_pos c_e]; omega), rfl, rfl, rfl, rfl⟩ | exact ⟨congrArg (fun z => some (gvI z)) (by rw [g_jn60, if_neg c_ne]; omega), rfl, rfl, rfl, rfl⟩ | exact ⟨congrArg (fun z => some (gvI z)) (by rw [g_jn62, if_pos c_e]; omega), rfl, rfl, rfl, rfl⟩ | exact ⟨congrArg (fun z => some (gvI z)) (by rw [g_jn62, if_neg c_ne]; omega), rfl, rfl, rfl, rfl⟩)
  · skip
    exfalso; omega
  · skip
    refine g_tableIn (tgt := 140) (off := 139) hc dX9_joined_1 (by first | exact hI _ _ | exact hxI2 _ _ | exact hIa _ _ | exact hIb _ _ | exact g_b32 | exact g_and32 | assumption | exact ⟨by omega, by omega⟩) (by omega) (by omega) (by rw [hsw]; rfl) (by decide) ?_
    refine g_lload_n hc dX9_joined_140 rfl ?_
    refine g_lconst hc dX9_joined_141 0 (by decide +kernel) ?_
    refine g_lcmp hc dX9_joined_142 (by exact ⟨by omega, by omega⟩) (by exact ⟨by omega, by omega⟩) ?_
    refine g_if_ne (tgt := 150) hc dX9_joined_143 (by decide) (by split <;> first | exact ⟨by decide, by decide⟩ | (split <;> exact ⟨by decide, by decide⟩)) (fun c13 => ?_) (fun c13 => ?_)
    · skip
      have c_ne : ¬ r = 0 := by split at c13 <;> first | omega | (split at c13 <;> omega)
      refine g_lload_n hc dX9_joined_150 rfl ?_
      refine g_lload_n hc dX9_joined_151 rfl ?_
      refine g_ldiv hc dX9_joined_152 (by exact ⟨by omega, by omega⟩) (by exact ⟨by omega, by omega⟩) (by intro h0; exact c_ne h0) ?_
      refine g_lstore_5 hc dX9_joined_153 rfl ?_
      refine g_goto (tgt := 219) hc dX9_joined_155 (by decide) ?_
      refine g_lload hc dX9_joined_219 rfl ?_
      refine g_ldc2 (k := 1000000) hc dX9_joined_221 _ lc_X9_28 (by decide +kernel) ?_
      refine g_lcmp hc dX9_joined_224 (by exact ⟨by omega, by omega⟩) (by exact ⟨by omega, by omega⟩) ?_
      refine g_if_le (tgt := 231) hc dX9_joined_225 (by decide) (by split <;> first | exact ⟨by decide, by decide⟩ | (split <;> exact ⟨by decide, by decide⟩)) (fun c14 => ?_) (fun c14 => ?_)
      · skip
        have c_b : l.tdiv r ≤ 1000000 := by split at c14 <;> first | omega | (split at c14 <;> omega)
        refine g_lload hc dX9_joined_231 rfl ?_
        refine g_ldc2 (k := (-1000000)) hc dX9_joined_233 _ lc_X9_31 (by decide +kernel) ?_
        refine g_lcmp hc dX9_joined_236 (by exact ⟨by omega, by omega⟩) (by exact ⟨by omega, by omega⟩) ?_
        refine g_if_ge (tgt := 245) hc dX9_joined_237 (by decide) (by split <;> first | exact ⟨by decide, by decide⟩ | (split <;> exact ⟨by decide, by decide⟩)) (fun c15 => ?_) (fun c15 => ?_)
        · skip
          have c_b2 : -1000000 ≤ l.tdiv r := by split at c15 <;> first | omega | (split at c15 <;> omega)
          refine g_lload hc dX9_joined_245 rfl ?_
          refine g_l2i hc dX9_joined_247 ?_
          refine g_iret hc hm dX9_joined_248 ?_
          have h124 : s = 43 ∨ s = 45 ∨ s = 42 ∨ s = 47 ∨ s = 61 ∨ s = 60 ∨ s = 62 ∨ s = 38 ∨ s = 124 := by omega
          first | (exfalso; omega) | (rw [show s = 124 by omega]; exact ⟨congrArg (fun z => some (gvI z)) (by rw [g_jn124]; omega), rfl, rfl, rfl, rfl⟩) | (subst hsw; first | exact ⟨congrArg (fun z => some (gvI z)) (by rw [g_jn43]; omega), rfl, rfl, rfl, rfl⟩ | exact ⟨congrArg (fun z => some (gvI z)) (by rw [g_jn45]; omega), rfl, rfl, rfl, rfl⟩ | exact ⟨congrArg (fun z => some (gvI z)) (by rw [g_jn42]; omega), rfl, rfl, rfl, rfl⟩ | exact ⟨congrArg (fun z => some (gvI z)) (by rw [g_jn38]; omega), rfl, rfl, rfl, rfl⟩ | exact ⟨congrArg (fun z => some (gvI z)) (by rw [g_jn47, if_neg c_ne]; omega), rfl, rfl, rfl, rfl⟩ | exact ⟨congrArg (fun z => some (gvI z)) (by rw [g_jn47, if_pos c_e]; omega), rfl, rfl, rfl, rfl⟩ | exact ⟨congrArg (fun z => some (gvI z)) (by rw [g_jn61, if_pos c_e]; omega), rfl, rfl, rfl, rfl⟩ | exact ⟨congrArg (fun z => some (gvI z)) (by rw [g_jn61, if_neg c_ne]; omega), rfl, rfl, rfl, rfl⟩ | exact ⟨congrArg (fun z => some (gvI z)) (by rw [g_jn60, if_pos c_e]; omega), rfl, rfl, rfl, rfl⟩ | exact ⟨congrArg (fun z => some (gvI z)) (by rw [g_jn60, if_neg c_ne]; omega), rfl, rfl, rfl, rfl⟩ | exact ⟨congrArg (fun z => some (gvI z)) (by rw [g_jn62, if_pos c_e]; omega), rfl, rfl, rfl, rfl⟩ | exact ⟨congrArg (fun z => some (gvI z)) (by rw [g_jn62, if_neg c_ne]; omega), rfl, rfl, rfl, rfl⟩)
        · skip
          have c_b2 : l.tdiv r < -1000000 := by split at c15 <;> first | omega | (split at c15 <;> omega)
          refine g_ldc (k := (-1000000)) hc dX9_joined_240 _ lc_X9_33 (by decide +kernel) ?_
          refine g_goto (tgt := 248) hc dX9_joined_242 (by decide) ?_
          refine g_iret hc hm dX9_joined_248 ?_
          have h124 : s = 43 ∨ s = 45 ∨ s = 42 ∨ s = 47 ∨ s = 61 ∨ s = 60 ∨ s = 62 ∨ s = 38 ∨ s = 124 := by omega
          first | (exfalso; omega) | (rw [show s = 124 by omega]; exact ⟨congrArg (fun z => some (gvI z)) (by rw [g_jn124]; omega), rfl, rfl, rfl, rfl⟩) | (subst hsw; first | exact ⟨congrArg (fun z => some (gvI z)) (by rw [g_jn43]; omega), rfl, rfl, rfl, rfl⟩ | exact ⟨congrArg (fun z => some (gvI z)) (by rw [g_jn45]; omega), rfl, rfl, rfl, rfl⟩ | exact ⟨congrArg (fun z => some (gvI z)) (by rw [g_jn42]; omega), rfl, rfl, rfl, rfl⟩ | exact ⟨congrArg (fun z => some (gvI z)) (by rw [g_jn38]; omega), rfl, rfl, rfl, rfl⟩ | exact ⟨congrArg (fun z => some (gvI z)) (by rw [g_jn47, if_neg c_ne]; omega), rfl, rfl, rfl, rfl⟩ | exact ⟨congrArg (fun z => some (gvI z)) (by rw [g_jn47, if_pos c_e]; omega), rfl, rfl, rfl, rfl⟩ | exact ⟨congrArg (fun z => some (gvI z)) (by rw [g_jn61, if_pos c_e]; omega), rfl, rfl, rfl, rfl⟩ | exact ⟨congrArg (fun z => some (gvI z)) (by rw [g_jn61, if_neg c_ne]; omega), rfl, rfl, rfl, rfl⟩ | exact ⟨congrArg (fun z => some (gvI z)) (by rw [g_jn60, if_pos c_e]; omega), rfl, rfl, rfl, rfl⟩ | exact ⟨congrArg (fun z => some (gvI z)) (by rw [g_jn60, if_neg c_ne]; omega), rfl, rfl, rfl, rfl⟩ | exact ⟨congrArg (fun z => some (gvI z)) (by rw [g_jn62, if_pos c_e]; omega), rfl, rfl, rfl, rfl⟩ | exact ⟨congrArg (fun z => some (gvI z)) (by rw [g_jn62, if_neg c_ne]; omega), rfl, rfl, rfl, rfl⟩)
      · skip
        have c_b : 1000000 < l.tdiv r := by split at c14 <;> first | omega | (split at c14 <;> omega)
        refine g_ldc (k := 1000000) hc dX9_joined_228 _ lc_X9_30 (by decide +kernel) ?_
        refine g_iret hc hm dX9_joined_230 ?_
        have h124 : s = 43 ∨ s = 45 ∨ s = 42 ∨ s = 47 ∨ s = 61 ∨ s = 60 ∨ s = 62 ∨ s = 38 ∨ s = 124 := by omega
        first | (exfalso; omega) | (rw [show s = 124 by omega]; exact ⟨congrArg (fun z => some (gvI z)) (by rw [g_jn124]; omega), rfl, rfl, rfl, rfl⟩) | (subst hsw; first | exact ⟨congrArg (fun z => some (gvI z)) (by rw [g_jn43]; omega), rfl, rfl, rfl, rfl⟩ | exact ⟨congrArg (fun z => some (gvI z)) (by rw [g_jn45]; omega), rfl, rfl, rfl, rfl⟩ | exact ⟨congrArg (fun z => some (gvI z)) (by rw [g_jn42]; omega), rfl, rfl, rfl, rfl⟩ | exact ⟨congrArg (fun z => some (gvI z)) (by rw [g_jn38]; omega), rfl, rfl, rfl, rfl⟩ | exact ⟨congrArg (fun z => some (gvI z)) (by rw [g_jn47, if_neg c_ne]; omega), rfl, rfl, rfl, rfl⟩ | exact ⟨congrArg (fun z => some (gvI z)) (by rw [g_jn47, if_pos c_e]; omega), rfl, rfl, rfl, rfl⟩ | exact ⟨congrArg (fun z => some (gvI z)) (by rw [g_jn61, if_pos c_e]; omega), rfl, rfl, rfl, rfl⟩ | exact ⟨congrArg (fun z => some (gvI z)) (by rw [g_jn61, if_neg c_ne]; omega), rfl, rfl, rfl, rfl⟩ | exact ⟨congrArg (fun z => some (gvI z)) (by rw [g_jn60, if_pos c_e]; omega), rfl, rfl, rfl, rfl⟩ | exact ⟨congrArg (fun z => some (gvI z)) (by rw [g_jn60, if_neg c_ne]; omega), rfl, rfl, rfl, rfl⟩ | exact ⟨congrArg (fun z => some (gvI z)) (by rw [g_jn62, if_pos c_e]; omega), rfl, rfl, rfl, rfl⟩ | exact ⟨congrArg (fun z => some (gvI z)) (by rw [g_jn62, if_neg c_ne]; omega), rfl, rfl, rfl, rfl⟩)
    · skip
      have c_e : r = 0 := by split at c13 <;> first | omega | (split at c13 <;> omega)
      refine g_lconst hc dX9_joined_146 0 (by decide +kernel) ?_
      refine g_goto (tgt := 153) hc dX9_joined_147 (by decide) ?_
      refine g_lstore_5 hc dX9_joined_153 rfl ?_
      refine g_goto (tgt := 219) hc dX9_joined_155 (by decide) ?_
      refine g_lload hc dX9_joined_219 rfl ?_
      refine g_ldc2 (k := 1000000) hc dX9_joined_221 _ lc_X9_28 (by decide +kernel) ?_
      refine g_lcmp hc dX9_joined_224 (by exact ⟨by omega, by omega⟩) (by exact ⟨by omega, by omega⟩) ?_
      refine g_if_le (tgt := 231) hc dX9_joined_225 (by decide) (by split <;> first | exact ⟨by decide, by decide⟩ | (split <;> exact ⟨by decide, by decide⟩)) (fun c16 => ?_) (fun c16 => ?_)
      · skip
        have c_b : 0 ≤ 1000000 := by split at c16 <;> first | omega | (split at c16 <;> omega)
        refine g_lload hc dX9_joined_231 rfl ?_
        refine g_ldc2 (k := (-1000000)) hc dX9_joined_233 _ lc_X9_31 (by decide +kernel) ?_
        refine g_lcmp hc dX9_joined_236 (by exact ⟨by omega, by omega⟩) (by exact ⟨by omega, by omega⟩) ?_
        refine g_if_ge (tgt := 245) hc dX9_joined_237 (by decide) (by split <;> first | exact ⟨by decide, by decide⟩ | (split <;> exact ⟨by decide, by decide⟩)) (fun c17 => ?_) (fun c17 => ?_)
        · skip
          have c_b2 : -1000000 ≤ 0 := by split at c17 <;> first | omega | (split at c17 <;> omega)
          refine g_lload hc dX9_joined_245 rfl ?_
          refine g_l2i hc dX9_joined_247 ?_
          refine g_iret hc hm dX9_joined_248 ?_
          have h124 : s = 43 ∨ s = 45 ∨ s = 42 ∨ s = 47 ∨ s = 61 ∨ s = 60 ∨ s = 62 ∨ s = 38 ∨ s = 124 := by omega
          first | (exfalso; omega) | (rw [show s = 124 by omega]; exact ⟨congrArg (fun z => some (gvI z)) (by rw [g_jn124]; omega), rfl, rfl, rfl, rfl⟩) | (subst hsw; first | exact ⟨congrArg (fun z => some (gvI z)) (by rw [g_jn43]; omega), rfl, rfl, rfl, rfl⟩ | exact ⟨congrArg (fun z => some (gvI z)) (by rw [g_jn45]; omega), rfl, rfl, rfl, rfl⟩ | exact ⟨congrArg (fun z => some (gvI z)) (by rw [g_jn42]; omega), rfl, rfl, rfl, rfl⟩ | exact ⟨congrArg (fun z => some (gvI z)) (by rw [g_jn38]; omega), rfl, rfl, rfl, rfl⟩ | exact ⟨congrArg (fun z => some (gvI z)) (by rw [g_jn47, if_neg c_ne]; omega), rfl, rfl, rfl, rfl⟩ | exact ⟨congrArg (fun z => some (gvI z)) (by rw [g_jn47, if_pos c_e]; omega), rfl, rfl, rfl, rfl⟩ | exact ⟨congrArg (fun z => some (gvI z)) (by rw [g_jn61, if_pos c_e]; omega), rfl, rfl, rfl, rfl⟩ | exact ⟨congrArg (fun z => some (gvI z)) (by rw [g_jn61, if_neg c_ne]; omega), rfl, rfl, rfl, rfl⟩ | exact ⟨congrArg (fun z => some (gvI z)) (by rw [g_jn60, if_pos c_e]; omega), rfl, rfl, rfl, rfl⟩ | exact ⟨congrArg (fun z => some (gvI z)) (by rw [g_jn60, if_neg c_ne]; omega), rfl, rfl, rfl, rfl⟩ | exact ⟨congrArg (fun z => some (gvI z)) (by rw [g_jn62, if_pos c_e]; omega), rfl, rfl, rfl, rfl⟩ | exact ⟨congrArg (fun z => some (gvI z)) (by rw [g_jn62, if_neg c_ne]; omega), rfl, rfl, rfl, rfl⟩)
        · skip
          have c_b2 : 0 < -1000000 := by split at c17 <;> first | omega | (split at c17 <;> omega)
          refine g_ldc (k := (-1000000)) hc dX9_joined_240 _ lc_X9_33 (by decide +kernel) ?_
          refine g_goto (tgt := 248) hc dX9_joined_242 (by decide) ?_
          refine g_iret hc hm dX9_joined_248 ?_
          have h124 : s = 43 ∨ s = 45 ∨ s = 42 ∨ s = 47 ∨ s = 61 ∨ s = 60 ∨ s = 62 ∨ s = 38 ∨ s = 124 := by omega
          first | (exfalso; omega) | (rw [show s = 124 by omega]; exact ⟨congrArg (fun z => some (gvI z)) (by rw [g_jn124]; omega), rfl, rfl, rfl, rfl⟩) | (subst hsw; first | exact ⟨congrArg (fun z => some (gvI z)) (by rw [g_jn43]; omega), rfl, rfl, rfl, rfl⟩ | exact ⟨congrArg (fun z => some (gvI z)) (by rw [g_jn45]; omega), rfl, rfl, rfl, rfl⟩ | exact ⟨congrArg (fun z => some (gvI z)) (by rw [g_jn42]; omega), rfl, rfl, rfl, rfl⟩ | exact ⟨congrArg (fun z => some (gvI z)) (by rw [g_jn38]; omega), rfl, rfl, rfl, rfl⟩ | exact ⟨congrArg (fun z => some (gvI z)) (by rw [g_jn47, if_neg c_ne]; omega), rfl, rfl, rfl, rfl⟩ | exact ⟨congrArg (fun z => some (gvI z)) (by rw [g_jn47, if_pos c_e]; omega), rfl, rfl, rfl, rfl⟩ | exact ⟨congrArg (fun z => some (gvI z)) (by rw [g_jn61, if_pos c_e]; omega), rfl, rfl, rfl, rfl⟩ | exact ⟨congrArg (fun z => some (gvI z)) (by rw [g_jn61, if_neg c_ne]; omega), rfl, rfl, rfl, rfl⟩ | exact ⟨congrArg (fun z => some (gvI z)) (by rw [g_jn60, if_pos c_e]; omega), rfl, rfl, rfl, rfl⟩ | exact ⟨congrArg (fun z => some (gvI z)) (by rw [g_jn60, if_neg c_ne]; omega), rfl, rfl, rfl, rfl⟩ | exact ⟨congrArg (fun z => some (gvI z)) (by rw [g_jn62, if_pos c_e]; omega), rfl, rfl, rfl, rfl⟩ | exact ⟨congrArg (fun z => some (gvI z)) (by rw [g_jn62, if_neg c_ne]; omega), rfl, rfl, rfl, rfl⟩)
      · skip
        have c_b : 1000000 < 0 := by split at c16 <;> first | omega | (split at c16 <;> omega)
        refine g_ldc (k := 1000000) hc dX9_joined_228 _ lc_X9_30 (by decide +kernel) ?_
        refine g_iret hc hm dX9_joined_230 ?_
        have h124 : s = 43 ∨ s = 45 ∨ s = 42 ∨ s = 47 ∨ s = 61 ∨ s = 60 ∨ s = 62 ∨ s = 38 ∨ s = 124 := by omega
        first | (exfalso; omega) | (rw [show s = 124 by omega]; exact ⟨congrArg (fun z => some (gvI z)) (by rw [g_jn124]; omega), rfl, rfl, rfl, rfl⟩) | (subst hsw; first | exact ⟨congrArg (fun z => some (gvI z)) (by rw [g_jn43]; omega), rfl, rfl, rfl, rfl⟩ | exact ⟨congrArg (fun z => some (gvI z)) (by rw [g_jn45]; omega), rfl, rfl, rfl, rfl⟩ | exact ⟨congrArg (fun z => some (gvI z)) (by rw [g_jn42]; omega), rfl, rfl, rfl, rfl⟩ | exact ⟨congrArg (fun z => some (gvI z)) (by rw [g_jn38]; omega), rfl, rfl, rfl, rfl⟩ | exact ⟨congrArg (fun z => some (gvI z)) (by rw [g_jn47, if_neg c_ne]; omega), rfl, rfl, rfl, rfl⟩ | exact ⟨congrArg (fun z => some (gvI z)) (by rw [g_jn47, if_pos c_e]; omega), rfl, rfl, rfl, rfl⟩ | exact ⟨congrArg (fun z => some (gvI z)) (by rw [g_jn61, if_pos c_e]; omega), rfl, rfl, rfl, rfl⟩ | exact ⟨congrArg (fun z => some (gvI z)) (by rw [g_jn61, if_neg c_ne]; omega), rfl, rfl, rfl, rfl⟩ | exact ⟨congrArg (fun z => some (gvI z)) (by rw [g_jn60, if_pos c_e]; omega), rfl, rfl, rfl, rfl⟩ | exact ⟨congrArg (fun z => some (gvI z)) (by rw [g_jn60, if_neg c_ne]; omega), rfl, rfl, rfl, rfl⟩ | exact ⟨congrArg (fun z => some (gvI z)) (by rw [g_jn62, if_pos c_e]; omega), rfl, rfl, rfl, rfl⟩ | exact ⟨congrArg (fun z => some (gvI z)) (by rw [g_jn62, if_neg c_ne]; omega), rfl, rfl, rfl, rfl⟩)
  · skip
    exfalso; omega
  · skip
    exfalso; omega
  · skip
    exfalso; omega
  · skip
    exfalso; omega
  · skip
    exfalso; omega
  · skip
    exfalso; omega
  · skip
    exfalso; omega
  · skip
    exfalso; omega
  · skip
    exfalso; omega
  · skip
    exfalso; omega
  · skip
    exfalso; omega
  · skip
    exfalso; omega
  · skip
    refine g_tableIn (tgt := 174) (off := 173) hc dX9_joined_1 (by first | exact hI _ _ | exact hxI2 _ _ | exact hIa _ _ | exact hIb _ _ | exact g_b32 | exact g_and32 | assumption | exact ⟨by omega, by omega⟩) (by omega) (by omega) (by rw [hsw]; rfl) (by decide) ?_
    refine g_lload_n hc dX9_joined_174 rfl ?_
    refine g_lload_n hc dX9_joined_175 rfl ?_
    refine g_lcmp hc dX9_joined_176 (by exact ⟨by omega, by omega⟩) (by exact ⟨by omega, by omega⟩) ?_
    refine g_if_ge (tgt := 184) hc dX9_joined_177 (by decide) (by split <;> first | exact ⟨by decide, by decide⟩ | (split <;> exact ⟨by decide, by decide⟩)) (fun c18 => ?_) (fun c18 => ?_)
    · skip
      have c_ne : ¬ l < r := by split at c18 <;> first | omega | (split at c18 <;> omega)
      refine g_lconst hc dX9_joined_184 0 (by decide +kernel) ?_
      refine g_lstore_5 hc dX9_joined_185 rfl ?_
      refine g_goto (tgt := 219) hc dX9_joined_187 (by decide) ?_
      refine g_lload hc dX9_joined_219 rfl ?_
      refine g_ldc2 (k := 1000000) hc dX9_joined_221 _ lc_X9_28 (by decide +kernel) ?_
      refine g_lcmp hc dX9_joined_224 (by exact ⟨by omega, by omega⟩) (by exact ⟨by omega, by omega⟩) ?_
      refine g_if_le (tgt := 231) hc dX9_joined_225 (by decide) (by split <;> first | exact ⟨by decide, by decide⟩ | (split <;> exact ⟨by decide, by decide⟩)) (fun c19 => ?_) (fun c19 => ?_)
      · skip
        have c_b : 0 ≤ 1000000 := by split at c19 <;> first | omega | (split at c19 <;> omega)
        refine g_lload hc dX9_joined_231 rfl ?_
        refine g_ldc2 (k := (-1000000)) hc dX9_joined_233 _ lc_X9_31 (by decide +kernel) ?_
        refine g_lcmp hc dX9_joined_236 (by exact ⟨by omega, by omega⟩) (by exact ⟨by omega, by omega⟩) ?_
        refine g_if_ge (tgt := 245) hc dX9_joined_237 (by decide) (by split <;> first | exact ⟨by decide, by decide⟩ | (split <;> exact ⟨by decide, by decide⟩)) (fun c20 => ?_) (fun c20 => ?_)
        · skip
          have c_b2 : -1000000 ≤ 0 := by split at c20 <;> first | omega | (split at c20 <;> omega)
          refine g_lload hc dX9_joined_245 rfl ?_
          refine g_l2i hc dX9_joined_247 ?_
          refine g_iret hc hm dX9_joined_248 ?_
          have h124 : s = 43 ∨ s = 45 ∨ s = 42 ∨ s = 47 ∨ s = 61 ∨ s = 60 ∨ s = 62 ∨ s = 38 ∨ s = 124 := by omega
          first | (exfalso; omega) | (rw [show s = 124 by omega]; exact ⟨congrArg (fun z => some (gvI z)) (by rw [g_jn124]; omega), rfl, rfl, rfl, rfl⟩) | (subst hsw; first | exact ⟨congrArg (fun z => some (gvI z)) (by rw [g_jn43]; omega), rfl, rfl, rfl, rfl⟩ | exact ⟨congrArg (fun z => some (gvI z)) (by rw [g_jn45]; omega), rfl, rfl, rfl, rfl⟩ | exact ⟨congrArg (fun z => some (gvI z)) (by rw [g_jn42]; omega), rfl, rfl, rfl, rfl⟩ | exact ⟨congrArg (fun z => some (gvI z)) (by rw [g_jn38]; omega), rfl, rfl, rfl, rfl⟩ | exact ⟨congrArg (fun z => some (gvI z)) (by rw [g_jn47, if_neg c_ne]; omega), rfl, rfl, rfl, rfl⟩ | exact ⟨congrArg (fun z => some (gvI z)) (by rw [g_jn47, if_pos c_e]; omega), rfl, rfl, rfl, rfl⟩ | exact ⟨congrArg (fun z => some (gvI z)) (by rw [g_jn61, if_pos c_e]; omega), rfl, rfl, rfl, rfl⟩ | exact ⟨congrArg (fun z => some (gvI z)) (by rw [g_jn61, if_neg c_ne]; omega), rfl, rfl, rfl, rfl⟩ | exact ⟨congrArg (fun z => some (gvI z)) (by rw [g_jn60, if_pos c_e]; omega), rfl, rfl, rfl, rfl⟩ | exact ⟨congrArg (fun z => some (gvI z)) (by rw [g_jn60, if_neg c_ne]; omega), rfl, rfl, rfl, rfl⟩ | exact ⟨congrArg (fun z => some (gvI z)) (by rw [g_jn62, if_pos c_e]; omega), rfl, rfl, rfl, rfl⟩ | exact ⟨congrArg (fun z => some (gvI z)) (by rw [g_jn62, if_neg c_ne]; omega), rfl, rfl, rfl, rfl⟩)
        · skip
          have c_b2 : 0 < -1000000 := by split at c20 <;> first | omega | (split at c20 <;> omega)
          refine g_ldc (k := (-1000000)) hc dX9_joined_240 _ lc_X9_33 (by decide +kernel) ?_
          refine g_goto (tgt := 248) hc dX9_joined_242 (by decide) ?_
          refine g_iret hc hm dX9_joined_248 ?_
          have h124 : s = 43 ∨ s = 45 ∨ s = 42 ∨ s = 47 ∨ s = 61 ∨ s = 60 ∨ s = 62 ∨ s = 38 ∨ s = 124 := by omega
          first | (exfalso; omega) | (rw [show s = 124 by omega]; exact ⟨congrArg (fun z => some (gvI z)) (by rw [g_jn124]; omega), rfl, rfl, rfl, rfl⟩) | (subst hsw; first | exact ⟨congrArg (fun z => some (gvI z)) (by rw [g_jn43]; omega), rfl, rfl, rfl, rfl⟩ | exact ⟨congrArg (fun z => some (gvI z)) (by rw [g_jn45]; omega), rfl, rfl, rfl, rfl⟩ | exact ⟨congrArg (fun z => some (gvI z)) (by rw [g_jn42]; omega), rfl, rfl, rfl, rfl⟩ | exact ⟨congrArg (fun z => some (gvI z)) (by rw [g_jn38]; omega), rfl, rfl, rfl, rfl⟩ | exact ⟨congrArg (fun z => some (gvI z)) (by rw [g_jn47, if_neg c_ne]; omega), rfl, rfl, rfl, rfl⟩ | exact ⟨congrArg (fun z => some (gvI z)) (by rw [g_jn47, if_pos c_e]; omega), rfl, rfl, rfl, rfl⟩ | exact ⟨congrArg (fun z => some (gvI z)) (by rw [g_jn61, if_pos c_e]; omega), rfl, rfl, rfl, rfl⟩ | exact ⟨congrArg (fun z => some (gvI z)) (by rw [g_jn61, if_neg c_ne]; omega), rfl, rfl, rfl, rfl⟩ | exact ⟨congrArg (fun z => some (gvI z)) (by rw [g_jn60, if_pos c_e]; omega), rfl, rfl, rfl, rfl⟩ | exact ⟨congrArg (fun z => some (gvI z)) (by rw [g_jn60, if_neg c_ne]; omega), rfl, rfl, rfl, rfl⟩ | exact ⟨congrArg (fun z => some (gvI z)) (by rw [g_jn62, if_pos c_e]; omega), rfl, rfl, rfl, rfl⟩ | exact ⟨congrArg (fun z => some (gvI z)) (by rw [g_jn62, if_neg c_ne]; omega), rfl, rfl, rfl, rfl⟩)
      · skip
        have c_b : 1000000 < 0 := by split at c19 <;> first | omega | (split at c19 <;> omega)
        refine g_ldc (k := 1000000) hc dX9_joined_228 _ lc_X9_30 (by decide +kernel) ?_
        refine g_iret hc hm dX9_joined_230 ?_
        have h124 : s = 43 ∨ s = 45 ∨ s = 42 ∨ s = 47 ∨ s = 61 ∨ s = 60 ∨ s = 62 ∨ s = 38 ∨ s = 124 := by omega
        first | (exfalso; omega) | (rw [show s = 124 by omega]; exact ⟨congrArg (fun z => some (gvI z)) (by rw [g_jn124]; omega), rfl, rfl, rfl, rfl⟩) | (subst hsw; first | exact ⟨congrArg (fun z => some (gvI z)) (by rw [g_jn43]; omega), rfl, rfl, rfl, rfl⟩ | exact ⟨congrArg (fun z => some (gvI z)) (by rw [g_jn45]; omega), rfl, rfl, rfl, rfl⟩ | exact ⟨congrArg (fun z => some (gvI z)) (by rw [g_jn42]; omega), rfl, rfl, rfl, rfl⟩ | exact ⟨congrArg (fun z => some (gvI z)) (by rw [g_jn38]; omega), rfl, rfl, rfl, rfl⟩ | exact ⟨congrArg (fun z => some (gvI z)) (by rw [g_jn47, if_neg c_ne]; omega), rfl, rfl, rfl, rfl⟩ | exact ⟨congrArg (fun z => some (gvI z)) (by rw [g_jn47, if_pos c_e]; omega), rfl, rfl, rfl, rfl⟩ | exact ⟨congrArg (fun z => some (gvI z)) (by rw [g_jn61, if_pos c_e]; omega), rfl, rfl, rfl, rfl⟩ | exact ⟨congrArg (fun z => some (gvI z)) (by rw [g_jn61, if_neg c_ne]; omega), rfl, rfl, rfl, rfl⟩ | exact ⟨congrArg (fun z => some (gvI z)) (by rw [g_jn60, if_pos c_e]; omega), rfl, rfl, rfl, rfl⟩ | exact ⟨congrArg (fun z => some (gvI z)) (by rw [g_jn60, if_neg c_ne]; omega), rfl, rfl, rfl, rfl⟩ | exact ⟨congrArg (fun z => some (gvI z)) (by rw [g_jn62, if_pos c_e]; omega), rfl, rfl, rfl, rfl⟩ | exact ⟨congrArg (fun z => some (gvI z)) (by rw [g_jn62, if_neg c_ne]; omega), rfl, rfl, rfl, rfl⟩)
    · skip
      have c_e : l < r := by split at c18 <;> first | omega | (split at c18 <;> omega)
      refine g_lconst hc dX9_joined_180 1 (by decide +kernel) ?_
      refine g_goto (tgt := 185) hc dX9_joined_181 (by decide) ?_
      refine g_lstore_5 hc dX9_joined_185 rfl ?_
      refine g_goto (tgt := 219) hc dX9_joined_187 (by decide) ?_
      refine g_lload hc dX9_joined_219 rfl ?_
      refine g_ldc2 (k := 1000000) hc dX9_joined_221 _ lc_X9_28 (by decide +kernel) ?_
      refine g_lcmp hc dX9_joined_224 (by exact ⟨by omega, by omega⟩) (by exact ⟨by omega, by omega⟩) ?_
      refine g_if_le (tgt := 231) hc dX9_joined_225 (by decide) (by split <;> first | exact ⟨by decide, by decide⟩ | (split <;> exact ⟨by decide, by decide⟩)) (fun c21 => ?_) (fun c21 => ?_)
      · skip
        have c_b : 1 ≤ 1000000 := by split at c21 <;> first | omega | (split at c21 <;> omega)
        refine g_lload hc dX9_joined_231 rfl ?_
        refine g_ldc2 (k := (-1000000)) hc dX9_joined_233 _ lc_X9_31 (by decide +kernel) ?_
        refine g_lcmp hc dX9_joined_236 (by exact ⟨by omega, by omega⟩) (by exact ⟨by omega, by omega⟩) ?_
        refine g_if_ge (tgt := 245) hc dX9_joined_237 (by decide) (by split <;> first | exact ⟨by decide, by decide⟩ | (split <;> exact ⟨by decide, by decide⟩)) (fun c22 => ?_) (fun c22 => ?_)
        · skip
          have c_b2 : -1000000 ≤ 1 := by split at c22 <;> first | omega | (split at c22 <;> omega)
          refine g_lload hc dX9_joined_245 rfl ?_
          refine g_l2i hc dX9_joined_247 ?_
          refine g_iret hc hm dX9_joined_248 ?_
          have h124 : s = 43 ∨ s = 45 ∨ s = 42 ∨ s = 47 ∨ s = 61 ∨ s = 60 ∨ s = 62 ∨ s = 38 ∨ s = 124 := by omega
          first | (exfalso; omega) | (rw [show s = 124 by omega]; exact ⟨congrArg (fun z => some (gvI z)) (by rw [g_jn124]; omega), rfl, rfl, rfl, rfl⟩) | (subst hsw; first | exact ⟨congrArg (fun z => some (gvI z)) (by rw [g_jn43]; omega), rfl, rfl, rfl, rfl⟩ | exact ⟨congrArg (fun z => some (gvI z)) (by rw [g_jn45]; omega), rfl, rfl, rfl, rfl⟩ | exact ⟨congrArg (fun z => some (gvI z)) (by rw [g_jn42]; omega), rfl, rfl, rfl, rfl⟩ | exact ⟨congrArg (fun z => some (gvI z)) (by rw [g_jn38]; omega), rfl, rfl, rfl, rfl⟩ | exact ⟨congrArg (fun z => some (gvI z)) (by rw [g_jn47, if_neg c_ne]; omega), rfl, rfl, rfl, rfl⟩ | exact ⟨congrArg (fun z => some (gvI z)) (by rw [g_jn47, if_pos c_e]; omega), rfl, rfl, rfl, rfl⟩ | exact ⟨congrArg (fun z => some (gvI z)) (by rw [g_jn61, if_pos c_e]; omega), rfl, rfl, rfl, rfl⟩ | exact ⟨congrArg (fun z => some (gvI z)) (by rw [g_jn61, if_neg c_ne]; omega), rfl, rfl, rfl, rfl⟩ | exact ⟨congrArg (fun z => some (gvI z)) (by rw [g_jn60, if_pos c_e]; omega), rfl, rfl, rfl, rfl⟩ | exact ⟨congrArg (fun z => some (gvI z)) (by rw [g_jn60, if_neg c_ne]; omega), rfl, rfl, rfl, rfl⟩ | exact ⟨congrArg (fun z => some (gvI z)) (by rw [g_jn62, if_pos c_e]; omega), rfl, rfl, rfl, rfl⟩ | exact ⟨congrArg (fun z => some (gvI z)) (by rw [g_jn62, if_neg c_ne]; omega), rfl, rfl, rfl, rfl⟩)
        · skip
          have c_b2 : 1 < -1000000 := by split at c22 <;> first | omega | (split at c22 <;> omega)
          refine g_ldc (k := (-1000000)) hc dX9_joined_240 _ lc_X9_33 (by decide +kernel) ?_
          refine g_goto (tgt := 248) hc dX9_joined_242 (by decide) ?_
          refine g_iret hc hm dX9_joined_248 ?_
          have h124 : s = 43 ∨ s = 45 ∨ s = 42 ∨ s = 47 ∨ s = 61 ∨ s = 60 ∨ s = 62 ∨ s = 38 ∨ s = 124 := by omega
          first | (exfalso; omega) | (rw [show s = 124 by omega]; exact ⟨congrArg (fun z => some (gvI z)) (by rw [g_jn124]; omega), rfl, rfl, rfl, rfl⟩) | (subst hsw; first | exact ⟨congrArg (fun z => some (gvI z)) (by rw [g_jn43]; omega), rfl, rfl, rfl, rfl⟩ | exact ⟨congrArg (fun z => some (gvI z)) (by rw [g_jn45]; omega), rfl, rfl, rfl, rfl⟩ | exact ⟨congrArg (fun z => some (gvI z)) (by rw [g_jn42]; omega), rfl, rfl, rfl, rfl⟩ | exact ⟨congrArg (fun z => some (gvI z)) (by rw [g_jn38]; omega), rfl, rfl, rfl, rfl⟩ | exact ⟨congrArg (fun z => some (gvI z)) (by rw [g_jn47, if_neg c_ne]; omega), rfl, rfl, rfl, rfl⟩ | exact ⟨congrArg (fun z => some (gvI z)) (by rw [g_jn47, if_pos c_e]; omega), rfl, rfl, rfl, rfl⟩ | exact ⟨congrArg (fun z => some (gvI z)) (by rw [g_jn61, if_pos c_e]; omega), rfl, rfl, rfl, rfl⟩ | exact ⟨congrArg (fun z => some (gvI z)) (by rw [g_jn61, if_neg c_ne]; omega), rfl, rfl, rfl, rfl⟩ | exact ⟨congrArg (fun z => some (gvI z)) (by rw [g_jn60, if_pos c_e]; omega), rfl, rfl, rfl, rfl⟩ | exact ⟨congrArg (fun z => some (gvI z)) (by rw [g_jn60, if_neg c_ne]; omega), rfl, rfl, rfl, rfl⟩ | exact ⟨congrArg (fun z => some (gvI z)) (by rw [g_jn62, if_pos c_e]; omega), rfl, rfl, rfl, rfl⟩ | exact ⟨congrArg (fun z => some (gvI z)) (by rw [g_jn62, if_neg c_ne]; omega), rfl, rfl, rfl, rfl⟩)
      · skip
        have c_b : 1000000 < 1 := by split at c21 <;> first | omega | (split at c21 <;> omega)
        refine g_ldc (k := 1000000) hc dX9_joined_228 _ lc_X9_30 (by decide +kernel) ?_
        refine g_iret hc hm dX9_joined_230 ?_
        have h124 : s = 43 ∨ s = 45 ∨ s = 42 ∨ s = 47 ∨ s = 61 ∨ s = 60 ∨ s = 62 ∨ s = 38 ∨ s = 124 := by omega
        first | (exfalso; omega) | (rw [show s = 124 by omega]; exact ⟨congrArg (fun z => some (gvI z)) (by rw [g_jn124]; omega), rfl, rfl, rfl, rfl⟩) | (subst hsw; first | exact ⟨congrArg (fun z => some (gvI z)) (by rw [g_jn43]; omega), rfl, rfl, rfl, rfl⟩ | exact ⟨congrArg (fun z => some (gvI z)) (by rw [g_jn45]; omega), rfl, rfl, rfl, rfl⟩ | exact ⟨congrArg (fun z => some (gvI z)) (by rw [g_jn42]; omega), rfl, rfl, rfl, rfl⟩ | exact ⟨congrArg (fun z => some (gvI z)) (by rw [g_jn38]; omega), rfl, rfl, rfl, rfl⟩ | exact ⟨congrArg (fun z => some (gvI z)) (by rw [g_jn47, if_neg c_ne]; omega), rfl, rfl, rfl, rfl⟩ | exact ⟨congrArg (fun z => some (gvI z)) (by rw [g_jn47, if_pos c_e]; omega), rfl, rfl, rfl, rfl⟩ | exact ⟨congrArg (fun z => some (gvI z)) (by rw [g_jn61, if_pos c_e]; omega), rfl, rfl, rfl, rfl⟩ | exact ⟨congrArg (fun z => some (gvI z)) (by rw [g_jn61, if_neg c_ne]; omega), rfl, rfl, rfl, rfl⟩ | exact ⟨congrArg (fun z => some (gvI z)) (by rw [g_jn60, if_pos c_e]; omega), rfl, rfl, rfl, rfl⟩ | exact ⟨congrArg (fun z => some (gvI z)) (by rw [g_jn60, if_neg c_ne]; omega), rfl, rfl, rfl, rfl⟩ | exact ⟨congrArg (fun z => some (gvI z)) (by rw [g_jn62, if_pos c_e]; omega), rfl, rfl, rfl, rfl⟩ | exact ⟨congrArg (fun z => some (gvI z)) (by rw [g_jn62, if_neg c_ne]; omega), rfl, rfl, rfl, rfl⟩)
  · skip
    refine g_tableIn (tgt := 158) (off := 157) hc dX9_joined_1 (by first | exact hI _ _ | exact hxI2 _ _ | exact hIa _ _ | exact hIb _ _ | exact g_b32 | exact g_and32 | assumption | exact ⟨by omega, by omega⟩) (by omega) (by omega) (by rw [hsw]; rfl) (by decide) ?_
    refine g_lload_n hc dX9_joined_158 rfl ?_
    refine g_lload_n hc dX9_joined_159 rfl ?_
    refine g_lcmp hc dX9_joined_160 (by exact ⟨by omega, by omega⟩) (by exact ⟨by omega, by omega⟩) ?_
    refine g_if_ne (tgt := 168) hc dX9_joined_161 (by decide) (by split <;> first | exact ⟨by decide, by decide⟩ | (split <;> exact ⟨by decide, by decide⟩)) (fun c23 => ?_) (fun c23 => ?_)
    · skip
      have c_ne : ¬ l = r := by split at c23 <;> first | omega | (split at c23 <;> omega)
      refine g_lconst hc dX9_joined_168 0 (by decide +kernel) ?_
      refine g_lstore_5 hc dX9_joined_169 rfl ?_
      refine g_goto (tgt := 219) hc dX9_joined_171 (by decide) ?_
      refine g_lload hc dX9_joined_219 rfl ?_
      refine g_ldc2 (k := 1000000) hc dX9_joined_221 _ lc_X9_28 (by decide +kernel) ?_
      refine g_lcmp hc dX9_joined_224 (by exact ⟨by omega, by omega⟩) (by exact ⟨by omega, by omega⟩) ?_
      refine g_if_le (tgt := 231) hc dX9_joined_225 (by decide) (by split <;> first | exact ⟨by decide, by decide⟩ | (split <;> exact ⟨by decide, by decide⟩)) (fun c24 => ?_) (fun c24 => ?_)
      · skip
        have c_b : 0 ≤ 1000000 := by split at c24 <;> first | omega | (split at c24 <;> omega)
        refine g_lload hc dX9_joined_231 rfl ?_
        refine g_ldc2 (k := (-1000000)) hc dX9_joined_233 _ lc_X9_31 (by decide +kernel) ?_
        refine g_lcmp hc dX9_joined_236 (by exact ⟨by omega, by omega⟩) (by exact ⟨by omega, by omega⟩) ?_
        refine g_if_ge (tgt := 245) hc dX9_joined_237 (by decide) (by split <;> first | exact ⟨by decide, by decide⟩ | (split <;> exact ⟨by decide, by decide⟩)) (fun c25 => ?_) (fun c25 => ?_)
        · skip
          have c_b2 : -1000000 ≤ 0 := by split at c25 <;> first | omega | (split at c25 <;> omega)
          refine g_lload hc dX9_joined_245 rfl ?_
          refine g_l2i hc dX9_joined_247 ?_
          refine g_iret hc hm dX9_joined_248 ?_
          have h124 : s = 43 ∨ s = 45 ∨ s = 42 ∨ s = 47 ∨ s = 61 ∨ s = 60 ∨ s = 62 ∨ s = 38 ∨ s = 124 := by omega
          first | (exfalso; omega) | (rw [show s = 124 by omega]; exact ⟨congrArg (fun z => some (gvI z)) (by rw [g_jn124]; omega), rfl, rfl, rfl, rfl⟩) | (subst hsw; first | exact ⟨congrArg (fun z => some (gvI z)) (by rw [g_jn43]; omega), rfl, rfl, rfl, rfl⟩ | exact ⟨congrArg (fun z => some (gvI z)) (by rw [g_jn45]; omega), rfl, rfl, rfl, rfl⟩ | exact ⟨congrArg (fun z => some (gvI z)) (by rw [g_jn42]; omega), rfl, rfl, rfl, rfl⟩ | exact ⟨congrArg (fun z => some (gvI z)) (by rw [g_jn38]; omega), rfl, rfl, rfl, rfl⟩ | exact ⟨congrArg (fun z => some (gvI z)) (by rw [g_jn47, if_neg c_ne]; omega), rfl, rfl, rfl, rfl⟩ | exact ⟨congrArg (fun z => some (gvI z)) (by rw [g_jn47, if_pos c_e]; omega), rfl, rfl, rfl, rfl⟩ | exact ⟨congrArg (fun z => some (gvI z)) (by rw [g_jn61, if_pos c_e]; omega), rfl, rfl, rfl, rfl⟩ | exact ⟨congrArg (fun z => some (gvI z)) (by rw [g_jn61, if_neg c_ne]; omega), rfl, rfl, rfl, rfl⟩ | exact ⟨congrArg (fun z => some (gvI z)) (by rw [g_jn60, if_pos c_e]; omega), rfl, rfl, rfl, rfl⟩ | exact ⟨congrArg (fun z => some (gvI z)) (by rw [g_jn60, if_neg c_ne]; omega), rfl, rfl, rfl, rfl⟩ | exact ⟨congrArg (fun z => some (gvI z)) (by rw [g_jn62, if_pos c_e]; omega), rfl, rfl, rfl, rfl⟩ | exact ⟨congrArg (fun z => some (gvI z)) (by rw [g_jn62, if_neg c_ne]; omega), rfl, rfl, rfl, rfl⟩)
        · skip
          have c_b2 : 0 < -1000000 := by split at c25 <;> first | omega | (split at c25 <;> omega)
          refine g_ldc (k := (-1000000)) hc dX9_joined_240 _ lc_X9_33 (by decide +kernel) ?_
          refine g_goto (tgt := 248) hc dX9_joined_242 (by decide) ?_
          refine g_iret hc hm dX9_joined_248 ?_
          have h124 : s = 43 ∨ s = 45 ∨ s = 42 ∨ s = 47 ∨ s = 61 ∨ s = 60 ∨ s = 62 ∨ s = 38 ∨ s = 124 := by omega
          first | (exfalso; omega) | (rw [show s = 124 by omega]; exact ⟨congrArg (fun z => some (gvI z)) (by rw [g_jn124]; omega), rfl, rfl, rfl, rfl⟩) | (subst hsw; first | exact ⟨congrArg (fun z => some (gvI z)) (by rw [g_jn43]; omega), rfl, rfl, rfl, rfl⟩ | exact ⟨congrArg (fun z => some (gvI z)) (by rw [g_jn45]; omega), rfl, rfl, rfl, rfl⟩ | exact ⟨congrArg (fun z => some (gvI z)) (by rw [g_jn42]; omega), rfl, rfl, rfl, rfl⟩ | exact ⟨congrArg (fun z => some (gvI z)) (by rw [g_jn38]; omega), rfl, rfl, rfl, rfl⟩ | exact ⟨congrArg (fun z => some (gvI z)) (by rw [g_jn47, if_neg c_ne]; omega), rfl, rfl, rfl, rfl⟩ | exact ⟨congrArg (fun z => some (gvI z)) (by rw [g_jn47, if_pos c_e]; omega), rfl, rfl, rfl, rfl⟩ | exact ⟨congrArg (fun z => some (gvI z)) (by rw [g_jn61, if_pos c_e]; omega), rfl, rfl, rfl, rfl⟩ | exact ⟨congrArg (fun z => some (gvI z)) (by rw [g_jn61, if_neg c_ne]; omega), rfl, rfl, rfl, rfl⟩ | exact ⟨congrArg (fun z => some (gvI z)) (by rw [g_jn60, if_pos c_e]; omega), rfl, rfl, rfl, rfl⟩ | exact ⟨congrArg (fun z => some (gvI z)) (by rw [g_jn60, if_neg c_ne]; omega), rfl, rfl, rfl, rfl⟩ | exact ⟨congrArg (fun z => some (gvI z)) (by rw [g_jn62, if_pos c_e]; omega), rfl, rfl, rfl, rfl⟩ | exact ⟨congrArg (fun z => some (gvI z)) (by rw [g_jn62, if_neg c_ne]; omega), rfl, rfl, rfl, rfl⟩)
      · skip
        have c_b : 1000000 < 0 := by split at c24 <;> first | omega | (split at c24 <;> omega)
        refine g_ldc (k := 1000000) hc dX9_joined_228 _ lc_X9_30 (by decide +kernel) ?_
        refine g_iret hc hm dX9_joined_230 ?_
        have h124 : s = 43 ∨ s = 45 ∨ s = 42 ∨ s = 47 ∨ s = 61 ∨ s = 60 ∨ s = 62 ∨ s = 38 ∨ s = 124 := by omega
        first | (exfalso; omega) | (rw [show s = 124 by omega]; exact ⟨congrArg (fun z => some (gvI z)) (by rw [g_jn124]; omega), rfl, rfl, rfl, rfl⟩) | (subst hsw; first | exact ⟨congrArg (fun z => some (gvI z)) (by rw [g_jn43]; omega), rfl, rfl, rfl, rfl⟩ | exact ⟨congrArg (fun z => some (gvI z)) (by rw [g_jn45]; omega), rfl, rfl, rfl, rfl⟩ | exact ⟨congrArg (fun z => some (gvI z)) (by rw [g_jn42]; omega), rfl, rfl, rfl, rfl⟩ | exact ⟨congrArg (fun z => some (gvI z)) (by rw [g_jn38]; omega), rfl, rfl, rfl, rfl⟩ | exact ⟨congrArg (fun z => some (gvI z)) (by rw [g_jn47, if_neg c_ne]; omega), rfl, rfl, rfl, rfl⟩ | exact ⟨congrArg (fun z => some (gvI z)) (by rw [g_jn47, if_pos c_e]; omega), rfl, rfl, rfl, rfl⟩ | exact ⟨congrArg (fun z => some (gvI z)) (by rw [g_jn61, if_pos c_e]; omega), rfl, rfl, rfl, rfl⟩ | exact ⟨congrArg (fun z => some (gvI z)) (by rw [g_jn61, if_neg c_ne]; omega), rfl, rfl, rfl, rfl⟩ | exact ⟨congrArg (fun z => some (gvI z)) (by rw [g_jn60, if_pos c_e]; omega), rfl, rfl, rfl, rfl⟩ | exact ⟨congrArg (fun z => some (gvI z)) (by rw [g_jn60, if_neg c_ne]; omega), rfl, rfl, rfl, rfl⟩ | exact ⟨congrArg (fun z => some (gvI z)) (by rw [g_jn62, if_pos c_e]; omega), rfl, rfl, rfl, rfl⟩ | exact ⟨congrArg (fun z => some (gvI z)) (by rw [g_jn62, if_neg c_ne]; omega), rfl, rfl, rfl, rfl⟩)
    · skip
      have c_e : l = r := by split at c23 <;> first | omega | (split at c23 <;> omega)
      refine g_lconst hc dX9_joined_164 1 (by decide +kernel) ?_
      refine g_goto (tgt := 169) hc dX9_joined_165 (by decide) ?_
      refine g_lstore_5 hc dX9_joined_169 rfl ?_
      refine g_goto (tgt := 219) hc dX9_joined_171 (by decide) ?_
      refine g_lload hc dX9_joined_219 rfl ?_
      refine g_ldc2 (k := 1000000) hc dX9_joined_221 _ lc_X9_28 (by decide +kernel) ?_
      refine g_lcmp hc dX9_joined_224 (by exact ⟨by omega, by omega⟩) (by exact ⟨by omega, by omega⟩) ?_
      refine g_if_le (tgt := 231) hc dX9_joined_225 (by decide) (by split <;> first | exact ⟨by decide, by decide⟩ | (split <;> exact ⟨by decide, by decide⟩)) (fun c26 => ?_) (fun c26 => ?_)
      · skip
        have c_b : 1 ≤ 1000000 := by split at c26 <;> first | omega | (split at c26 <;> omega)
        refine g_lload hc dX9_joined_231 rfl ?_
        refine g_ldc2 (k := (-1000000)) hc dX9_joined_233 _ lc_X9_31 (by decide +kernel) ?_
        refine g_lcmp hc dX9_joined_236 (by exact ⟨by omega, by omega⟩) (by exact ⟨by omega, by omega⟩) ?_
        refine g_if_ge (tgt := 245) hc dX9_joined_237 (by decide) (by split <;> first | exact ⟨by decide, by decide⟩ | (split <;> exact ⟨by decide, by decide⟩)) (fun c27 => ?_) (fun c27 => ?_)
        · skip
          have c_b2 : -1000000 ≤ 1 := by split at c27 <;> first | omega | (split at c27 <;> omega)
          refine g_lload hc dX9_joined_245 rfl ?_
          refine g_l2i hc dX9_joined_247 ?_
          refine g_iret hc hm dX9_joined_248 ?_
          have h124 : s = 43 ∨ s = 45 ∨ s = 42 ∨ s = 47 ∨ s = 61 ∨ s = 60 ∨ s = 62 ∨ s = 38 ∨ s = 124 := by omega
          first | (exfalso; omega) | (rw [show s = 124 by omega]; exact ⟨congrArg (fun z => some (gvI z)) (by rw [g_jn124]; omega), rfl, rfl, rfl, rfl⟩) | (subst hsw; first | exact ⟨congrArg (fun z => some (gvI z)) (by rw [g_jn43]; omega), rfl, rfl, rfl, rfl⟩ | exact ⟨congrArg (fun z => some (gvI z)) (by rw [g_jn45]; omega), rfl, rfl, rfl, rfl⟩ | exact ⟨congrArg (fun z => some (gvI z)) (by rw [g_jn42]; omega), rfl, rfl, rfl, rfl⟩ | exact ⟨congrArg (fun z => some (gvI z)) (by rw [g_jn38]; omega), rfl, rfl, rfl, rfl⟩ | exact ⟨congrArg (fun z => some (gvI z)) (by rw [g_jn47, if_neg c_ne]; omega), rfl, rfl, rfl, rfl⟩ | exact ⟨congrArg (fun z => some (gvI z)) (by rw [g_jn47, if_pos c_e]; omega), rfl, rfl, rfl, rfl⟩ | exact ⟨congrArg (fun z => some (gvI z)) (by rw [g_jn61, if_pos c_e]; omega), rfl, rfl, rfl, rfl⟩ | exact ⟨congrArg (fun z => some (gvI z)) (by rw [g_jn61, if_neg c_ne]; omega), rfl, rfl, rfl, rfl⟩ | exact ⟨congrArg (fun z => some (gvI z)) (by rw [g_jn60, if_pos c_e]; omega), rfl, rfl, rfl, rfl⟩ | exact ⟨congrArg (fun z => some (gvI z)) (by rw [g_jn60, if_neg c_ne]; omega), rfl, rfl, rfl, rfl⟩ | exact ⟨congrArg (fun z => some (gvI z)) (by rw [g_jn62, if_pos c_e]; omega), rfl, rfl, rfl, rfl⟩ | exact ⟨congrArg (fun z => some (gvI z)) (by rw [g_jn62, if_neg c_ne]; omega), rfl, rfl, rfl, rfl⟩)
        · skip
          have c_b2 : 1 < -1000000 := by split at c27 <;> first | omega | (split at c27 <;> omega)
          refine g_ldc (k := (-1000000)) hc dX9_joined_240 _ lc_X9_33 (by decide +kernel) ?_
          refine g_goto (tgt := 248) hc dX9_joined_242 (by decide) ?_
          refine g_iret hc hm dX9_joined_248 ?_
          have h124 : s = 43 ∨ s = 45 ∨ s = 42 ∨ s = 47 ∨ s = 61 ∨ s = 60 ∨ s = 62 ∨ s = 38 ∨ s = 124 := by omega
          first | (exfalso; omega) | (rw [show s = 124 by omega]; exact ⟨congrArg (fun z => some (gvI z)) (by rw [g_jn124]; omega), rfl, rfl, rfl, rfl⟩) | (subst hsw; first | exact ⟨congrArg (fun z => some (gvI z)) (by rw [g_jn43]; omega), rfl, rfl, rfl, rfl⟩ | exact ⟨congrArg (fun z => some (gvI z)) (by rw [g_jn45]; omega), rfl, rfl, rfl, rfl⟩ | exact ⟨congrArg (fun z => some (gvI z)) (by rw [g_jn42]; omega), rfl, rfl, rfl, rfl⟩ | exact ⟨congrArg (fun z => some (gvI z)) (by rw [g_jn38]; omega), rfl, rfl, rfl, rfl⟩ | exact ⟨congrArg (fun z => some (gvI z)) (by rw [g_jn47, if_neg c_ne]; omega), rfl, rfl, rfl, rfl⟩ | exact ⟨congrArg (fun z => some (gvI z)) (by rw [g_jn47, if_pos c_e]; omega), rfl, rfl, rfl, rfl⟩ | exact ⟨congrArg (fun z => some (gvI z)) (by rw [g_jn61, if_pos c_e]; omega), rfl, rfl, rfl, rfl⟩ | exact ⟨congrArg (fun z => some (gvI z)) (by rw [g_jn61, if_neg c_ne]; omega), rfl, rfl, rfl, rfl⟩ | exact ⟨congrArg (fun z => some (gvI z)) (by rw [g_jn60, if_pos c_e]; omega), rfl, rfl, rfl, rfl⟩ | exact ⟨congrArg (fun z => some (gvI z)) (by rw [g_jn60, if_neg c_ne]; omega), rfl, rfl, rfl, rfl⟩ | exact ⟨congrArg (fun z => some (gvI z)) (by rw [g_jn62, if_pos c_e]; omega), rfl, rfl, rfl, rfl⟩ | exact ⟨congrArg (fun z => some (gvI z)) (by rw [g_jn62, if_neg c_ne]; omega), rfl, rfl, rfl, rfl⟩)
      · skip
        have c_b : 1000000 < 1 := by split at c26 <;> first | omega | (split at c26 <;> omega)
        refine g_ldc (k := 1000000) hc dX9_joined_228 _ lc_X9_30 (by decide +kernel) ?_
        refine g_iret hc hm dX9_joined_230 ?_
        have h124 : s = 43 ∨ s = 45 ∨ s = 42 ∨ s = 47 ∨ s = 61 ∨ s = 60 ∨ s = 62 ∨ s = 38 ∨ s = 124 := by omega
        first | (exfalso; omega) | (rw [show s = 124 by omega]; exact ⟨congrArg (fun z => some (gvI z)) (by rw [g_jn124]; omega), rfl, rfl, rfl, rfl⟩) | (subst hsw; first | exact ⟨congrArg (fun z => some (gvI z)) (by rw [g_jn43]; omega), rfl, rfl, rfl, rfl⟩ | exact ⟨congrArg (fun z => some (gvI z)) (by rw [g_jn45]; omega), rfl, rfl, rfl, rfl⟩ | exact ⟨congrArg (fun z => some (gvI z)) (by rw [g_jn42]; omega), rfl, rfl, rfl, rfl⟩ | exact ⟨congrArg (fun z => some (gvI z)) (by rw [g_jn38]; omega), rfl, rfl, rfl, rfl⟩ | exact ⟨congrArg (fun z => some (gvI z)) (by rw [g_jn47, if_neg c_ne]; omega), rfl, rfl, rfl, rfl⟩ | exact ⟨congrArg (fun z => some (gvI z)) (by rw [g_jn47, if_pos c_e]; omega), rfl, rfl, rfl, rfl⟩ | exact ⟨congrArg (fun z => some (gvI z)) (by rw [g_jn61, if_pos c_e]; omega), rfl, rfl, rfl, rfl⟩ | exact ⟨congrArg (fun z => some (gvI z)) (by rw [g_jn61, if_neg c_ne]; omega), rfl, rfl, rfl, rfl⟩ | exact ⟨congrArg (fun z => some (gvI z)) (by rw [g_jn60, if_pos c_e]; omega), rfl, rfl, rfl, rfl⟩ | exact ⟨congrArg (fun z => some (gvI z)) (by rw [g_jn60, if_neg c_ne]; omega), rfl, rfl, rfl, rfl⟩ | exact ⟨congrArg (fun z => some (gvI z)) (by rw [g_jn62, if_pos c_e]; omega), rfl, rfl, rfl, rfl⟩ | exact ⟨congrArg (fun z => some (gvI z)) (by rw [g_jn62, if_neg c_ne]; omega), rfl, rfl, rfl, rfl⟩)
  · skip
    refine g_tableIn (tgt := 190) (off := 189) hc dX9_joined_1 (by first | exact hI _ _ | exact hxI2 _ _ | exact hIa _ _ | exact hIb _ _ | exact g_b32 | exact g_and32 | assumption | exact ⟨by omega, by omega⟩) (by omega) (by omega) (by rw [hsw]; rfl) (by decide) ?_
    refine g_lload_n hc dX9_joined_190 rfl ?_
    refine g_lload_n hc dX9_joined_191 rfl ?_
    refine g_lcmp hc dX9_joined_192 (by exact ⟨by omega, by omega⟩) (by exact ⟨by omega, by omega⟩) ?_
    refine g_if_le (tgt := 200) hc dX9_joined_193 (by decide) (by split <;> first | exact ⟨by decide, by decide⟩ | (split <;> exact ⟨by decide, by decide⟩)) (fun c28 => ?_) (fun c28 => ?_)
    · skip
      have c_ne : ¬ r < l := by split at c28 <;> first | omega | (split at c28 <;> omega)
      refine g_lconst hc dX9_joined_200 0 (by decide +kernel) ?_
      refine g_lstore_5 hc dX9_joined_201 rfl ?_
      refine g_goto (tgt := 219) hc dX9_joined_203 (by decide) ?_
      refine g_lload hc dX9_joined_219 rfl ?_
      refine g_ldc2 (k := 1000000) hc dX9_joined_221 _ lc_X9_28 (by decide +kernel) ?_
      refine g_lcmp hc dX9_joined_224 (by exact ⟨by omega, by omega⟩) (by exact ⟨by omega, by omega⟩) ?_
      refine g_if_le (tgt := 231) hc dX9_joined_225 (by decide) (by split <;> first | exact ⟨by decide, by decide⟩ | (split <;> exact ⟨by decide, by decide⟩)) (fun c29 => ?_) (fun c29 => ?_)
      · skip
        have c_b : 0 ≤ 1000000 := by split at c29 <;> first | omega | (split at c29 <;> omega)
        refine g_lload hc dX9_joined_231 rfl ?_
        refine g_ldc2 (k := (-1000000)) hc dX9_joined_233 _ lc_X9_31 (by decide +kernel) ?_
        refine g_lcmp hc dX9_joined_236 (by exact ⟨by omega, by omega⟩) (by exact ⟨by omega, by omega⟩) ?_
        refine g_if_ge (tgt := 245) hc dX9_joined_237 (by decide) (by split <;> first | exact ⟨by decide, by decide⟩ | (split <;> exact ⟨by decide, by decide⟩)) (fun c30 => ?_) (fun c30 => ?_)
        · skip
          have c_b2 : -1000000 ≤ 0 := by split at c30 <;> first | omega | (split at c30 <;> omega)
          refine g_lload hc dX9_joined_245 rfl ?_
          refine g_l2i hc dX9_joined_247 ?_
          refine g_iret hc hm dX9_joined_248 ?_
          have h124 : s = 43 ∨ s = 45 ∨ s = 42 ∨ s = 47 ∨ s = 61 ∨ s = 60 ∨ s = 62 ∨ s = 38 ∨ s = 124 := by omega
          first | (exfalso; omega) | (rw [show s = 124 by omega]; exact ⟨congrArg (fun z => some (gvI z)) (by rw [g_jn124]; omega), rfl, rfl, rfl, rfl⟩) | (subst hsw; first | exact ⟨congrArg (fun z => some (gvI z)) (by rw [g_jn43]; omega), rfl, rfl, rfl, rfl⟩ | exact ⟨congrArg (fun z => some (gvI z)) (by rw [g_jn45]; omega), rfl, rfl, rfl, rfl⟩ | exact ⟨congrArg (fun z => some (gvI z)) (by rw [g_jn42]; omega), rfl, rfl, rfl, rfl⟩ | exact ⟨congrArg (fun z => some (gvI z)) (by rw [g_jn38]; omega), rfl, rfl, rfl, rfl⟩ | exact ⟨congrArg (fun z => some (gvI z)) (by rw [g_jn47, if_neg c_ne]; omega), rfl, rfl, rfl, rfl⟩ | exact ⟨congrArg (fun z => some (gvI z)) (by rw [g_jn47, if_pos c_e]; omega), rfl, rfl, rfl, rfl⟩ | exact ⟨congrArg (fun z => some (gvI z)) (by rw [g_jn61, if_pos c_e]; omega), rfl, rfl, rfl, rfl⟩ | exact ⟨congrArg (fun z => some (gvI z)) (by rw [g_jn61, if_neg c_ne]; omega), rfl, rfl, rfl, rfl⟩ | exact ⟨congrArg (fun z => some (gvI z)) (by rw [g_jn60, if_pos c_e]; omega), rfl, rfl, rfl, rfl⟩ | exact ⟨congrArg (fun z => some (gvI z)) (by rw [g_jn60, if_neg c_ne]; omega), rfl, rfl, rfl, rfl⟩ | exact ⟨congrArg (fun z => some (gvI z)) (by rw [g_jn62, if_pos c_e]; omega), rfl, rfl, rfl, rfl⟩ | exact ⟨congrArg (fun z => some (gvI z)) (by rw [g_jn62, if_neg c_ne]; omega), rfl, rfl, rfl, rfl⟩)
        · skip
          have c_b2 : 0 < -1000000 := by split at c30 <;> first | omega | (split at c30 <;> omega)
          refine g_ldc (k := (-1000000)) hc dX9_joined_240 _ lc_X9_33 (by decide +kernel) ?_
          refine g_goto (tgt := 248) hc dX9_joined_242 (by decide) ?_
          refine g_iret hc hm dX9_joined_248 ?_
          have h124 : s = 43 ∨ s = 45 ∨ s = 42 ∨ s = 47 ∨ s = 61 ∨ s = 60 ∨ s = 62 ∨ s = 38 ∨ s = 124 := by omega
          first | (exfalso; omega) | (rw [show s = 124 by omega]; exact ⟨congrArg (fun z => some (gvI z)) (by rw [g_jn124]; omega), rfl, rfl, rfl, rfl⟩) | (subst hsw; first | exact ⟨congrArg (fun z => some (gvI z)) (by rw [g_jn43]; omega), rfl, rfl, rfl, rfl⟩ | exact ⟨congrArg (fun z => some (gvI z)) (by rw [g_jn45]; omega), rfl, rfl, rfl, rfl⟩ | exact ⟨congrArg (fun z => some (gvI z)) (by rw [g_jn42]; omega), rfl, rfl, rfl, rfl⟩ | exact ⟨congrArg (fun z => some (gvI z)) (by rw [g_jn38]; omega), rfl, rfl, rfl, rfl⟩ | exact ⟨congrArg (fun z => some (gvI z)) (by rw [g_jn47, if_neg c_ne]; omega), rfl, rfl, rfl, rfl⟩ | exact ⟨congrArg (fun z => some (gvI z)) (by rw [g_jn47, if_pos c_e]; omega), rfl, rfl, rfl, rfl⟩ | exact ⟨congrArg (fun z => some (gvI z)) (by rw [g_jn61, if_pos c_e]; omega), rfl, rfl, rfl, rfl⟩ | exact ⟨congrArg (fun z => some (gvI z)) (by rw [g_jn61, if_neg c_ne]; omega), rfl, rfl, rfl, rfl⟩ | exact ⟨congrArg (fun z => some (gvI z)) (by rw [g_jn60, if_pos c_e]; omega), rfl, rfl, rfl, rfl⟩ | exact ⟨congrArg (fun z => some (gvI z)) (by rw [g_jn60, if_neg c_ne]; omega), rfl, rfl, rfl, rfl⟩ | exact ⟨congrArg (fun z => some (gvI z)) (by rw [g_jn62, if_pos c_e]; omega), rfl, rfl, rfl, rfl⟩ | exact ⟨congrArg (fun z => some (gvI z)) (by rw [g_jn62, if_neg c_ne]; omega), rfl, rfl, rfl, rfl⟩)
      · skip
        have c_b : 1000000 < 0 := by split at c29 <;> first | omega | (split at c29 <;> omega)
        refine g_ldc (k := 1000000) hc dX9_joined_228 _ lc_X9_30 (by decide +kernel) ?_
        refine g_iret hc hm dX9_joined_230 ?_
        have h124 : s = 43 ∨ s = 45 ∨ s = 42 ∨ s = 47 ∨ s = 61 ∨ s = 60 ∨ s = 62 ∨ s = 38 ∨ s = 124 := by omega
        first | (exfalso; omega) | (rw [show s = 124 by omega]; exact ⟨congrArg (fun z => some (gvI z)) (by rw [g_jn124]; omega), rfl, rfl, rfl, rfl⟩) | (subst hsw; first | exact ⟨congrArg (fun z => some (gvI z)) (by rw [g_jn43]; omega), rfl, rfl, rfl, rfl⟩ | exact ⟨congrArg (fun z => some (gvI z)) (by rw [g_jn45]; omega), rfl, rfl, rfl, rfl⟩ | exact ⟨congrArg (fun z => some (gvI z)) (by rw [g_jn42]; omega), rfl, rfl, rfl, rfl⟩ | exact ⟨congrArg (fun z => some (gvI z)) (by rw [g_jn38]; omega), rfl, rfl, rfl, rfl⟩ | exact ⟨congrArg (fun z => some (gvI z)) (by rw [g_jn47, if_neg c_ne]; omega), rfl, rfl, rfl, rfl⟩ | exact ⟨congrArg (fun z => some (gvI z)) (by rw [g_jn47, if_pos c_e]; omega), rfl, rfl, rfl, rfl⟩ | exact ⟨congrArg (fun z => some (gvI z)) (by rw [g_jn61, if_pos c_e]; omega), rfl, rfl, rfl, rfl⟩ | exact ⟨congrArg (fun z => some (gvI z)) (by rw [g_jn61, if_neg c_ne]; omega), rfl, rfl, rfl, rfl⟩ | exact ⟨congrArg (fun z => some (gvI z)) (by rw [g_jn60, if_pos c_e]; omega), rfl, rfl, rfl, rfl⟩ | exact ⟨congrArg (fun z => some (gvI z)) (by rw [g_jn60, if_neg c_ne]; omega), rfl, rfl, rfl, rfl⟩ | exact ⟨congrArg (fun z => some (gvI z)) (by rw [g_jn62, if_pos c_e]; omega), rfl, rfl, rfl, rfl⟩ | exact ⟨congrArg (fun z => some (gvI z)) (by rw [g_jn62, if_neg c_ne]; omega), rfl, rfl, rfl, rfl⟩)
    · skip
      have c_e : r < l := by split at c28 <;> first | omega | (split at c28 <;> omega)
      refine g_lconst hc dX9_joined_196 1 (by decide +kernel) ?_
      refine g_goto (tgt := 201) hc dX9_joined_197 (by decide) ?_
      refine g_lstore_5 hc dX9_joined_201 rfl ?_
      refine g_goto (tgt := 219) hc dX9_joined_203 (by decide) ?_
      refine g_lload hc dX9_joined_219 rfl ?_
      refine g_ldc2 (k := 1000000) hc dX9_joined_221 _ lc_X9_28 (by decide +kernel) ?_
      refine g_lcmp hc dX9_joined_224 (by exact ⟨by omega, by omega⟩) (by exact ⟨by omega, by omega⟩) ?_
      refine g_if_le (tgt := 231) hc dX9_joined_225 (by decide) (by split <;> first | exact ⟨by decide, by decide⟩ | (split <;> exact ⟨by decide, by decide⟩)) (fun c31 => ?_) (fun c31 => ?_)
      · skip
        have c_b : 1 ≤ 1000000 := by split at c31 <;> first | omega | (split at c31 <;> omega)
        refine g_lload hc dX9_joined_231 rfl ?_
        refine g_ldc2 (k := (-1000000)) hc dX9_joined_233 _ lc_X9_31 (by decide +kernel) ?_
        refine g_lcmp hc dX9_joined_236 (by exact ⟨by omega, by omega⟩) (by exact ⟨by omega, by omega⟩) ?_
        refine g_if_ge (tgt := 245) hc dX9_joined_237 (by decide) (by split <;> first | exact ⟨by decide, by decide⟩ | (split <;> exact ⟨by decide, by decide⟩)) (fun c32 => ?_) (fun c32 => ?_)
        · skip
          have c_b2 : -1000000 ≤ 1 := by split at c32 <;> first | omega | (split at c32 <;> omega)
          refine g_lload hc dX9_joined_245 rfl ?_
          refine g_l2i hc dX9_joined_247 ?_
          refine g_iret hc hm dX9_joined_248 ?_
          have h124 : s = 43 ∨ s = 45 ∨ s = 42 ∨ s = 47 ∨ s = 61 ∨ s = 60 ∨ s = 62 ∨ s = 38 ∨ s = 124 := by omega
          first | (exfalso; omega) | (rw [show s = 124 by omega]; exact ⟨congrArg (fun z => some (gvI z)) (by rw [g_jn124]; omega), rfl, rfl, rfl, rfl⟩) | (subst hsw; first | exact ⟨congrArg (fun z => some (gvI z)) (by rw [g_jn43]; omega), rfl, rfl, rfl, rfl⟩ | exact ⟨congrArg (fun z => some (gvI z)) (by rw [g_jn45]; omega), rfl, rfl, rfl, rfl⟩ | exact ⟨congrArg (fun z => some (gvI z)) (by rw [g_jn42]; omega), rfl, rfl, rfl, rfl⟩ | exact ⟨congrArg (fun z => some (gvI z)) (by rw [g_jn38]; omega), rfl, rfl, rfl, rfl⟩ | exact ⟨congrArg (fun z => some (gvI z)) (by rw [g_jn47, if_neg c_ne]; omega), rfl, rfl, rfl, rfl⟩ | exact ⟨congrArg (fun z => some (gvI z)) (by rw [g_jn47, if_pos c_e]; omega), rfl, rfl, rfl, rfl⟩ | exact ⟨congrArg (fun z => some (gvI z)) (by rw [g_jn61, if_pos c_e]; omega), rfl, rfl, rfl, rfl⟩ | exact ⟨congrArg (fun z => some (gvI z)) (by rw [g_jn61, if_neg c_ne]; omega), rfl, rfl, rfl, rfl⟩ | exact ⟨congrArg (fun z => some (gvI z)) (by rw [g_jn60, if_pos c_e]; omega), rfl, rfl, rfl, rfl⟩ | exact ⟨congrArg (fun z => some (gvI z)) (by rw [g_jn60, if_neg c_ne]; omega), rfl, rfl, rfl, rfl⟩ | exact ⟨congrArg (fun z => some (gvI z)) (by rw [g_jn62, if_pos c_e]; omega), rfl, rfl, rfl, rfl⟩ | exact ⟨congrArg (fun z => some (gvI z)) (by rw [g_jn62, if_neg c_ne]; omega), rfl, rfl, rfl, rfl⟩)
        · skip
          have c_b2 : 1 < -1000000 := by split at c32 <;> first | omega | (split at c32 <;> omega)
          refine g_ldc (k := (-1000000)) hc dX9_joined_240 _ lc_X9_33 (by decide +kernel) ?_
          refine g_goto (tgt := 248) hc dX9_joined_242 (by decide) ?_
          refine g_iret hc hm dX9_joined_248 ?_
          have h124 : s = 43 ∨ s = 45 ∨ s = 42 ∨ s = 47 ∨ s = 61 ∨ s = 60 ∨ s = 62 ∨ s = 38 ∨ s = 124 := by omega
          first | (exfalso; omega) | (rw [show s = 124 by omega]; exact ⟨congrArg (fun z => some (gvI z)) (by rw [g_jn124]; omega), rfl, rfl, rfl, rfl⟩) | (subst hsw; first | exact ⟨congrArg (fun z => some (gvI z)) (by rw [g_jn43]; omega), rfl, rfl, rfl, rfl⟩ | exact ⟨congrArg (fun z => some (gvI z)) (by rw [g_jn45]; omega), rfl, rfl, rfl, rfl⟩ | exact ⟨congrArg (fun z => some (gvI z)) (by rw [g_jn42]; omega), rfl, rfl, rfl, rfl⟩ | exact ⟨congrArg (fun z => some (gvI z)) (by rw [g_jn38]; omega), rfl, rfl, rfl, rfl⟩ | exact ⟨congrArg (fun z => some (gvI z)) (by rw [g_jn47, if_neg c_ne]; omega), rfl, rfl, rfl, rfl⟩ | exact ⟨congrArg (fun z => some (gvI z)) (by rw [g_jn47, if_pos c_e]; omega), rfl, rfl, rfl, rfl⟩ | exact ⟨congrArg (fun z => some (gvI z)) (by rw [g_jn61, if_pos c_e]; omega), rfl, rfl, rfl, rfl⟩ | exact ⟨congrArg (fun z => some (gvI z)) (by rw [g_jn61, if_neg c_ne]; omega), rfl, rfl, rfl, rfl⟩ | exact ⟨congrArg (fun z => some (gvI z)) (by rw [g_jn60, if_pos c_e]; omega), rfl, rfl, rfl, rfl⟩ | exact ⟨congrArg (fun z => some (gvI z)) (by rw [g_jn60, if_neg c_ne]; omega), rfl, rfl, rfl, rfl⟩ | exact ⟨congrArg (fun z => some (gvI z)) (by rw [g_jn62, if_pos c_e]; omega), rfl, rfl, rfl, rfl⟩ | exact ⟨congrArg (fun z => some (gvI z)) (by rw [g_jn62, if_neg c_ne]; omega), rfl, rfl, rfl, rfl⟩)
      · skip
        have c_b : 1000000 < 1 := by split at c31 <;> first | omega | (split at c31 <;> omega)
        refine g_ldc (k := 1000000) hc dX9_joined_228 _ lc_X9_30 (by decide +kernel) ?_
        refine g_iret hc hm dX9_joined_230 ?_
        have h124 : s = 43 ∨ s = 45 ∨ s = 42 ∨ s = 47 ∨ s = 61 ∨ s = 60 ∨ s = 62 ∨ s = 38 ∨ s = 124 := by omega
        first | (exfalso; omega) | (rw [show s = 124 by omega]; exact ⟨congrArg (fun z => some (gvI z)) (by rw [g_jn124]; omega), rfl, rfl, rfl, rfl⟩) | (subst hsw; first | exact ⟨congrArg (fun z => some (gvI z)) (by rw [g_jn43]; omega), rfl, rfl, rfl, rfl⟩ | exact ⟨congrArg (fun z => some (gvI z)) (by rw [g_jn45]; omega), rfl, rfl, rfl, rfl⟩ | exact ⟨congrArg (fun z => some (gvI z)) (by rw [g_jn42]; omega), rfl, rfl, rfl, rfl⟩ | exact ⟨congrArg (fun z => some (gvI z)) (by rw [g_jn38]; omega), rfl, rfl, rfl, rfl⟩ | exact ⟨congrArg (fun z => some (gvI z)) (by rw [g_jn47, if_neg c_ne]; omega), rfl, rfl, rfl, rfl⟩ | exact ⟨congrArg (fun z => some (gvI z)) (by rw [g_jn47, if_pos c_e]; omega), rfl, rfl, rfl, rfl⟩ | exact ⟨congrArg (fun z => some (gvI z)) (by rw [g_jn61, if_pos c_e]; omega), rfl, rfl, rfl, rfl⟩ | exact ⟨congrArg (fun z => some (gvI z)) (by rw [g_jn61, if_neg c_ne]; omega), rfl, rfl, rfl, rfl⟩ | exact ⟨congrArg (fun z => some (gvI z)) (by rw [g_jn60, if_pos c_e]; omega), rfl, rfl, rfl, rfl⟩ | exact ⟨congrArg (fun z => some (gvI z)) (by rw [g_jn60, if_neg c_ne]; omega), rfl, rfl, rfl, rfl⟩ | exact ⟨congrArg (fun z => some (gvI z)) (by rw [g_jn62, if_pos c_e]; omega), rfl, rfl, rfl, rfl⟩ | exact ⟨congrArg (fun z => some (gvI z)) (by rw [g_jn62, if_neg c_ne]; omega), rfl, rfl, rfl, rfl⟩)
set_option maxHeartbeats 4000000 in
set_option maxRecDepth 100000 in
/-- X9_letterAt -/
theorem c_X9_letterAt (w : g_W) {I : g_I} {J : g_J} {R : g_R} {lb tx : Nat} (hR : g_rf w R lb tx) (hI : ∀ k j, g32 (I k j)) {k : Int} (h1 : 0 ≤ k ∧ k < 8) : g_Met w g_n I J R yX9_letterAt cX9_letterAt 2 (some .int) 0 0 0 [(gvr w 554), (gvI k)] (g_post (some (gvI (I 554 k))) g_n I J R) := by
  refine g_intro (own := RX9) [some (gvr w 554), some (gvI k)] (by decide +kernel) rfl (by decide) (Nat.le_of_ble_eq_true rfl) rfl (fun i v hv => g_args 0 i v hv rfl) (fun x hc hm => ?_)
  refine g_iload_n hc dX9_letterAt_0 rfl ?_
  refine g_aldn hc dX9_letterAt_1 rfl ?_
  refine g_alen hc ca_554 (by decide) dX9_letterAt_2 ?_
  refine g_icmp_ge (tgt := 12) hc dX9_letterAt_3 (by decide) (by first | exact hI _ _ | exact hxI2 _ _ | exact hIa _ _ | exact hIb _ _ | exact g_b32 | exact g_and32 | assumption | exact ⟨by omega, by omega⟩) (by first | exact hI _ _ | exact hxI2 _ _ | exact hIa _ _ | exact hIb _ _ | exact g_b32 | exact g_and32 | assumption | exact ⟨by omega, by omega⟩) (fun c1 => ?_) (fun c1 => ?_)
  · exfalso; omega
  · skip
    refine g_aldn hc dX9_letterAt_6 rfl ?_
    refine g_iload_n hc dX9_letterAt_7 rfl ?_
    refine g_iald hc ca_554 (by decide) (by omega) (by omega) dX9_letterAt_8 ?_
    refine g_goto (tgt := 13) hc dX9_letterAt_9 (by decide) ?_
    refine g_iret hc hm dX9_letterAt_13 ?_
    first | (exfalso; omega) | exact ⟨rfl, rfl, rfl, rfl, rfl⟩ | exact ⟨by rw [g_b1 (by omega)], rfl, rfl, rfl, rfl⟩ | exact ⟨by rw [g_b0 (by omega)], rfl, rfl, rfl, rfl⟩
