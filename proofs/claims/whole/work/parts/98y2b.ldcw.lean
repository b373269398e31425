/-! ===== a String constant behind a wide index ===== -/
section GLW
variable {p : Program} {l : Launch} {e : Env} {R : Room} {s : State} {m : MethodId} {args : Array Value} {below : List Frame} {meth : Method} {c : Code} {locs : List Loc} {cells slots : Nat}
/-- the entry's String, already there, is put on the stack; the pool's entry as the start and as the state now hold it -/
theorem y_ldcW {T : State} (X : Stand p l e R s m args below meth c T locs cells slots) (hx : p.tables.exec = Jvm.exec) {own tx : String} {ix q : Nat} (ho : s.vm.findClass own = some m.cls) (hZ : vk_R own ix tx q s) (hZa : (Jvm.Cond.stringRef own ix tx).before args s = true ∧ (Term.string own ix).eval args s none [] s = some (.ref q)) {pc : Nat} {ls : Array Slot} {rest : List Value} (hd : decode c.code pc = .ok (.ldc_w ix, 3)) (t : State) (h : Steps p.tables e below (T.setTop (F0 m (pc + 3) ls (.ref q :: rest))) t) : Steps p.tables e below (T.setTop (F0 m pc ls rest)) t := by
  obtain ⟨k0, cf, i, q2, g1, g2, g3, -, g4, g5⟩ := Cond.stringRef_spec ho hZa.1
  obtain rfl : q = q2 := by have := hZa.2.symm.trans g5; injection this with this; injection this
  obtain ⟨k1, n1, n2⟩ := X.warmed.alike.2.2 _ _ g1
  have n3 : k1.resolved[ix]? = some (some (.string q)) := (X.warmed.entry g1 n1 ix).elim (fun z => z.trans g4) (fun z => by have := z.1; rw [g4] at this; cases this)
  jvm_step X.here [hx, hd, ldc_w.sem, ldc.wp_string (e := e) (s := T) (f := F0 m pc ls rest) X.here.top n1 (n2 ▸ g2) g3 n3]
  exact h
end GLW
section GLX
variable {w : g_W} {x : g_C} {P : g_P} {u v n : Nat} {I : g_I} {J : g_J} {R : g_R} {pc : Nat} {L : List (Option Value)} {st : List Value} {cc : ByteArray} {nL : Nat} {rt : Option FieldType} {own : String} {d : Nat}
theorem g_ldcT {idx i : Nat} {tx : String} (hc : g_OK w x cc nL rt own d) (hq : (own, idx, tx, i) ∈ g_str) (hd : decode cc pc = .ok (.ldc_w idx, 3)) (kk : G w x P u v n I J R (pc + 3) L (.ref (w.2.2.2.2 (100 + i)) :: st)) : G w x P u v n I J R pc L st := by
  obtain ⟨p, e, Rm, s, m, args, below, meth, c, mc, ms⟩ := x
  obtain ⟨hx, hb, hml, hr, hown, hts, hK, hsta, hlk, hsz, hRm⟩ := hc
  intro H locs ls hP hS hll
  have k := kk H locs ls hP hS hll
  intro T hT X
  obtain ⟨t, a1, b1⟩ := k T hT X
  have hz := hsta.2.2.1 _ hq
  exact ⟨t, y_ldcW X hx hown hz ⟨hz.1, hz.2⟩ (by rw [hb]; exact hd) t a1, b1⟩
end GLX
