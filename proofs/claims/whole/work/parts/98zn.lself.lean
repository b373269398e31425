/-! ===== rows for the law; the law's self, which catches ===== -/
section LROW
variable {w : g_W} {x : g_C} {P : State → Prop} {u v n : Nat} {I : g_I} {J : g_J} {R : g_R} {pc : Nat} {L : List (Option Value)} {st : List Value} {cc : ByteArray} {nL : Nat} {rt : Option FieldType} {own : String} {d : Nat}
theorem GQ_sub {L' : List (Option Value)} (hle : g_le L' L) (h : GQ w x P u v n I J R pc L' st) : GQ w x P u v n I J R pc L st := by
  obtain ⟨p, e, Rm, s, m, args, below, meth, c, mc, ms⟩ := x
  obtain ⟨h1, h2⟩ := g_le_ok hle
  exact fun H locs ls hP hS hl => h H locs ls hP hS (g_lh_sub hl h1 h2)
theorem gq_icmp_same {a : Int} {off : Int} {tgt : Nat} (hc : g_OK w x cc nL rt own d) (hd : decode cc pc = .ok (.if_icmp .eq off, 3)) (ht : (pc : Int) + off = (tgt : Int)) (kt : GQ w x P u v n I J R tgt L st) : GQ w x P u v n I J R pc L (gvI a :: gvI a :: st) := by
  obtain ⟨p, e, Rm, s, m, args, below, meth, c, mc, ms⟩ := x
  obtain ⟨hx, hb, hml, hr, hown, hts, hK, hsta, hlk, hsz, hRm⟩ := hc
  exact fun H locs ls hP hS hl => lv_icmp_eq hx hb hd ht (fun _ => kt H locs ls hP hS hl) (fun q => absurd rfl q)
/-- the script's ints -/
def lw_i (xs : Nat → Int32) (j : Int) : Int := (xs j.toNat).toInt
theorem lw_i32 {xs : Nat → Int32} {j : Int} : g32 (lw_i xs j) := g32_of _
theorem gq_sld {b Ls : Nat} {xs : Nat → Int32} {i : Int} (hc : g_OK w x cc nL rt own d) (hX : va_X b Ls xs (g_s x) (g_s x).heap) (hbl : b < g_sz x) (hbA : b < w.2.2.2.1) (h0 : 0 ≤ i) (h1 : i < (Ls : Int)) (hn : Ls < 2 ^ 31) (hd : decode cc pc = .ok (.iaload, 1)) (kk : GQ w x P u v n I J R (pc + 1) L (gvI (lw_i xs i) :: st)) : GQ w x P u v n I J R pc L (gvI i :: .ref b :: st) := by
  obtain ⟨p, e, Rm, s, m, args, below, meth, c, mc, ms⟩ := x
  obtain ⟨hx, hb, hml, hr, hown, hts, hK, hsta, hlk, hsz, hRm⟩ := hc
  rw [lw_i, gvI_of] at kk
  intro H locs ls hP hS hl
  have h2 := kk H locs ls hP hS hl
  rw [← g_cl (i := i) ⟨by omega, by omega⟩] at h2
  exact va_sld hx hb hX hbl (fun h => absurd (show w.2.2.2.1 ≤ b from h) (by omega)) hS (g_in h0 h1 hn) hd h2
theorem gq_slen {b Ls : Nat} {xs : Nat → Int32} (hc : g_OK w x cc nL rt own d) (hX : va_X b Ls xs (g_s x) (g_s x).heap) (hbl : b < g_sz x) (hbA : b < w.2.2.2.1) (hd : decode cc pc = .ok (.arraylength, 1)) (kk : GQ w x P u v n I J R (pc + 1) L (gvI (Ls : Int) :: st)) : GQ w x P u v n I J R pc L (.ref b :: st) := by
  obtain ⟨p, e, Rm, s, m, args, below, meth, c, mc, ms⟩ := x
  obtain ⟨hx, hb, hml, hr, hown, hts, hK, hsta, hlk, hsz, hRm⟩ := hc
  intro H locs ls hP hS hl
  have h2 := kk H locs ls hP hS hl
  rw [gvI, Int32.ofInt_eq_ofNat] at h2
  exact va_slen hx hb hX hbl (fun h => absurd (show w.2.2.2.1 ≤ b from h) (by omega)) hS hd h2
theorem gq_i2lx {a : Int} (hc : g_OK w x cc nL rt own d) (hd : decode cc pc = .ok (.i2l, 1)) (kk : GQ w x P u v n I J R (pc + 1) L (gvL ((Int32.ofInt a).toInt) :: st)) : GQ w x P u v n I J R pc L (gvI a :: st) := by
  obtain ⟨p, e, Rm, s, m, args, below, meth, c, mc, ms⟩ := x
  obtain ⟨hx, hb, hml, hr, hown, hts, hK, hsta, hlk, hsz, hRm⟩ := hc
  have hv : (Int32.ofInt a).toInt64 = Int64.ofInt (Int32.ofInt a).toInt := by
    rw [← Int64.toInt_inj, g64_to (x := (Int32.ofInt a).toInt) (by have := g32_of (Int32.ofInt a); unfold g32 at this; unfold g64; omega)]
    simp
  exact fun H locs ls hP hS hl => lv_i2l hx hb hd hv (kk H locs ls hP hS hl)
theorem gq_lcmp_same {a : Int} (hc : g_OK w x cc nL rt own d) (hd : decode cc pc = .ok (.lcmp, 1)) (kk : GQ w x P u v n I J R (pc + 1) L (gvI 0 :: st)) : GQ w x P u v n I J R pc L (gvL a :: gvL a :: st) := by
  obtain ⟨p, e, Rm, s, m, args, below, meth, c, mc, ms⟩ := x
  obtain ⟨hx, hb, hml, hr, hown, hts, hK, hsta, hlk, hsz, hRm⟩ := hc
  have he : lg_cmp (Int64.ofInt a) (Int64.ofInt a) = Int32.ofInt 0 := by
    unfold lg_cmp
    rw [if_neg (fun h => absurd h (Int64.lt_irrefl)), if_pos rfl]
    rfl
  rw [gvI, ← he] at kk
  exact fun H locs ls hP hS hl => W.lcmp hx hb hd (kk H locs ls hP hS hl)
theorem gl_arrV {c : ClassId} {N : Nat} {f g : Nat → Value} (h : ∀ j, j < N → f j = g j) : arrV c N f = arrV c N g := by
  unfold arrV
  refine congrArg (fun z => ({ cls := c, slots := z, vm := .none } : Cell)) ?_
  refine congrArg (Array.ofFn (n := N)) (funext fun j => h j.val j.isLt)
/-- the law's own cell: one long -/
theorem gq_lald {k : Nat} (hc : g_OK w x cc nL rt own d) (hs : g_at n k (.inr (6, 1))) (hd : decode cc pc = .ok (.laload, 1)) (kk : GQ w x P u v n I J R (pc + 1) L (gvL (J k) :: st)) : GQ w x P u v n I J R pc L (gvI 0 :: gvr w k :: st) := by
  obtain ⟨p, e, Rm, s, m, args, below, meth, c, mc, ms⟩ := x
  obtain ⟨hx, hb, hml, hr, hown, hts, hK, hsta, hlk, hsz, hRm⟩ := hc
  exact fun H locs ls hP hS hl => va_lald hx hb hK hP k 6 (g_at_l hs) rfl (g_in (by omega) (by omega) (by decide)) hd (kk H locs ls hP hS hl)
theorem gq_last {k : Nat} {z : Int} (hc : g_OK w x cc nL rt own d) (hs : g_at n k (.inr (6, 1))) (hd : decode cc pc = .ok (.lastore, 1)) (kk : GQ w x P u v n I (g_upJ J k z) R (pc + 1) L st) : GQ w x P u v n I J R pc L (gvL z :: gvI 0 :: gvr w k :: st) := by
  obtain ⟨p, e, Rm, s, m, args, below, meth, c, mc, ms⟩ := x
  obtain ⟨hx, hb, hml, hr, hown, hts, hK, hsta, hlk, hsz, hRm⟩ := hc
  intro H locs ls hP hS hl
  refine va_last hx hb hK hP g_D hS k 6 (g_at_l hs) rfl (g_in (by omega) (by omega) (by decide)) hd (fun H1 locs1 hP1 hD1 hS1 => ?_)
  refine kk H1 locs1 ls ?_ hS1 hl
  intro k' q hq
  have hk' : k' < n := by
    have := (List.getElem?_eq_some_iff.mp hq).1
    simpa [g_ws] using this
  by_cases e : k' = k
  · subst e
    have h5 := hP1 k' _ (by rw [List.getElem?_set_self (by simp [g_ws, hk'])])
    rw [g_at_l hs] at hq
    cases hq
    refine Eq.trans h5 (congrArg some ?_)
    rw [vp_cell_l, vp_cell_l]
    refine gl_arrV (fun j hj => ?_)
    have h0 : j = 0 := by omega
    subst h0
    show Value.long (vp_updL _ _ _ 0) = Value.long (Int64.ofInt (g_upJ J k' z k'))
    rw [show g_upJ J k' z k' = z from if_pos rfl]
    rfl
  · have h5 := hP1 k' _ (by rw [List.getElem?_set_ne (Ne.symm e)]; exact g_ws_at hk')
    rw [g_ws_at hk'] at hq
    cases hq
    rw [g_E_same (J' := g_upJ J k z) (J := J) rfl (if_neg e) rfl]
    exact h5
end LROW
/-! the exception: NoSuchElementException's own constructor stands at another place of its pool than the kit's chains have it (13, not 7) -/
def g_XN : String := "java/util/NoSuchElementException"
def g_RT : String := "java/lang/RuntimeException"
def g_EX : String := "java/lang/Exception"
abbrev g_rx : ByteArray := prog_31_method_4_code
def gx_rest : List Cond := [.methodLink RX12 133 (Bundle.initS g_XN), .instantiable g_XN 6, .castable g_XN g_XN, .selects g_XN Bundle.tFill0 Bundle.tFill0, .selects g_XN Bundle.tFill Bundle.tFill, .lays g_XN Bundle.tN "cause" "Ljava/lang/Throwable;", .lays g_XN Bundle.tN "stackTrace" Bundle.steD, .lays g_XN Bundle.tN "suppressedExceptions" Bundle.listD, .lays g_XN Bundle.tN "detailMessage" "Ljava/lang/String;", .fieldLink Bundle.tN 198 Bundle.tN "backtrace" "Ljava/lang/Object;", .lays Bundle.tN Bundle.tN "backtrace" "Ljava/lang/Object;", .lays g_XN Bundle.tN "backtrace" "Ljava/lang/Object;"]
def gx_all : List Cond := Bundle.throwableAtoms ++ (Bundle.throwableSAtoms ++ (Bundle.passSAtoms g_XN g_RT 13 g_rx ++ (Bundle.chainSAtoms g_RT [g_EX] ++ gx_rest)))
theorem gx_x : decode g_rx 0 = .ok (.aload_n 0, 1) ∧ decode g_rx 1 = .ok (.aload_n 1, 1) ∧ decode g_rx 2 = .ok (.invokespecial 13, 3) ∧ decode g_rx 5 = .ok (.return_, 1) := ⟨by decide +kernel, by decide +kernel, by decide +kernel, by decide +kernel⟩
set_option maxHeartbeats 4000000 in
/-- its constructor with a text, and athrow behind it, no traces kept -/
theorem gx_ctor {p : Program} {l : Launch} {e : Env} {R : Room} {s : State} {m₀ : MethodId} {args : Array Value} {below : List Frame} {meth : Method} {c : Code} {W0 : State} {locs : List Loc} {cells slots : Nat} (X : Stand p l e R s m₀ args below meth c W0 locs cells slots) (hexec : p.tables.exec = Jvm.exec) (htr : e.platform.stackTraces = false)
    (hown : s.vm.findClass RX12 = some m₀.cls) (h : ∀ q ∈ gx_all, q.before args s = true) (hu : (Cond.isRef (.static Bundle.tN "UNASSIGNED_STACK" Bundle.steD)).before args s = true) (hn : (Cond.isRef (.static Bundle.tN "SUPPRESSED_SENTINEL" Bundle.listD)).before args s = true)
    (hlocs : ∀ x ∈ locs, ∀ cell, s.heap[x.base]? = some cell → cell.vm.isStatics = false)
    {a : Addr} {cX : ClassId} {kX : Class} (hfoundX : s.vm.findClass g_XN = some cX) (hkX : s.vm.classes[cX]? = some kX) (hcell : W0.heap[a]? = some (freshCell cX kX)) (hnew : s.heap.size ≤ a)
    {msg : Value} (hmsg : msg.isRef = true)
    {g : JFrame} (hg : g.method = m₀) (hsize : g.locals.size = c.maxLocals) (hlocked : g.locked = none) (hentered : g.entered = []) {rest : List Value} (hstack : g.stack = msg :: .ref a :: .ref a :: rest)
    (hd6 : decode c.code g.pc = .ok (.invokespecial 133, 3)) (hd9 : decode c.code (g.pc + 3) = .ok (.athrow, 1)) (hout : ∀ x ∈ c.exceptionTable.toList, covers x (g.pc + 3) = false)
    (hRframes : 5 < R.frames) (hRlocals : 2 * g.monitorRoom + ((Value.ref a :: rest).map fun v => v.category).sum + 81 ≤ R.locals) (hlocks : meth.locks = false) :
    ∃ U : State, Steps p.tables e below (W0.setTop g) U ∧ U.status = .running ∧ Ended U below (.threw a) ∧ s.WarmedH U.vm ∧ s.sameButNew ({ U with vm := s.vm } : State) locs cells slots ∧ ∃ ce : Cell, U.heap[a]? = some ce ∧ ce.vm = .none ∧ s.vm.findClass g_XN = some ce.cls := by
  have hT : ∀ x ∈ Bundle.throwableAtoms, x.before args s = true := fun x hx => h x (List.mem_append_left _ hx)
  have hS : ∀ x ∈ Bundle.throwableSAtoms, x.before args s = true := fun x hx => h x (List.mem_append_right _ (List.mem_append_left _ hx))
  have hP : ∀ x ∈ Bundle.passSAtoms g_XN g_RT 13 g_rx, x.before args s = true := fun x hx => h x (List.mem_append_right _ (List.mem_append_right _ (List.mem_append_left _ hx)))
  have hC : ∀ x ∈ Bundle.chainSAtoms g_RT [g_EX], x.before args s = true := fun x hx => h x (List.mem_append_right _ (List.mem_append_right _ (List.mem_append_right _ (List.mem_append_left _ hx))))
  have hR : ∀ (i : Nat) (q : Cond), gx_rest[i]? = some q → q.before args s = true := fun i q hq => h q (List.mem_append_right _ (List.mem_append_right _ (List.mem_append_right _ (List.mem_append_right _ (List.mem_of_getElem? hq)))))
  have howns : e.platform.frameOwnsMonitors = true := by rw [X.admits.platform]
  have hfin : e.platform.finalization = false := by rw [X.admits.platform]
  have hpl : e.platform.magicAccessors = ({} : Platform).magicAccessors := by rw [X.admits.platform]
  obtain ⟨T, Z0, L, -, Y⟩ := ThrowableC.of_atoms (args := args) howns hfin hpl hT
  obtain ⟨Z, M, LZ, LM, hnZ⟩ := Init0T.ofS_atoms (args := args) hpl L Y hS
  obtain ⟨P2, Ps, hlen, L2, hL, hP2m, hlk2, hlk3⟩ := Bundle.chainS (args := args) hpl hnZ [g_EX] g_RT (by decide) (by decide) hC
  obtain ⟨P1, L1, hP1m, hP1s⟩ := PassC.ofS_atoms (args := args) (s := s) hpl (X := g_XN) (Y := g_RT) (by decide) (by decide) gx_x.1 gx_x.2.1 gx_x.2.2.1 gx_x.2.2.2 hP
  have hlk1 : P1.sup = firstOf (Z.m T.toThrowableT) ((P2 :: Ps).map (·.toPassT)) := Option.some.inj (hP1s.symm.trans hP2m)
  have hfound : s.vm.findClass g_XN = some P1.m.cls := findClass_of_methodNamed hP1m
  cases Option.some.inj (hfoundX.symm.trans hfound)
  obtain ⟨c1, kX', hc1, hk, hord, -, -, hn6⟩ := Cond.instantiable_spec (hR 1 _ rfl)
  cases Option.some.inj (hc1.symm.trans hfound)
  cases Option.some.inj (hkX.symm.trans hk)
  have hsel0 : selectMethod e.platform s.vm P1.m.cls T.fill0 = .method T.fill0 := by
    obtain ⟨c2, r2, m2, q1, q2, q3, q4, -⟩ := Cond.selects_spec (hR 3 _ rfl)
    cases Option.some.inj (q1.symm.trans hfound)
    cases Option.some.inj (q2.symm.trans (State.methodFound?_of_named Y.fill0 (by decide)))
    cases Option.some.inj (q3.symm.trans Y.fill0)
    rw [Launch.admits_selectMethod X.admits]; exact q4
  have hselF : selectMethod e.platform s.vm P1.m.cls T.fill = .method T.fill := by
    obtain ⟨c2, r2, m2, q1, q2, q3, q4, -⟩ := Cond.selects_spec (hR 4 _ rfl)
    cases Option.some.inj (q1.symm.trans hfound)
    cases Option.some.inj (q2.symm.trans (State.methodFound?_of_named Y.fill (by decide)))
    cases Option.some.inj (q3.symm.trans Y.fill)
    rw [Launch.admits_selectMethod X.admits]; exact q4
  obtain ⟨cellS0, hcS0, hiss⟩ := Y.statics
  obtain ⟨u0, hu0⟩ := Cond.staticRefV Y.unassigned L.unassignedStatic L.statics hcS0 hiss hu
  obtain ⟨sen, hsen⟩ := Cond.staticRefV Y.sentinel L.sentinelStatic L.statics hcS0 hiss hn
  obtain ⟨cb, ib, fB, hkb, hgb, hab, hsB, -, hnB, htB, hffB⟩ := Cond.ownField (t := .object "java/lang/Object") Y.found L.cls (by decide +kernel) (hR 9 _ rfl) (hR 10 _ rfl) e.platform hpl
  obtain ⟨cellS, hcS', heS, -, hkeep⟩ := X.same.2.2.2.2.2 T.aS cellS0 hcS0
  have hcellS : W0.heap[T.aS]? = some cellS := hcS'
  have hout' : ∀ i, (⟨T.aS, i⟩ : Loc) ∉ locs := fun i hmem => by
    have := hlocs _ hmem cellS0 hcS0
    rw [hiss] at this; cases this
  have hknownS : cellS.vm ≠ .unknown := by
    rw [heS]; intro hz
    rw [show cellS0.vm = .unknown from hz] at hiss
    cases hiss
  have hneS : T.aS ≠ a := Nat.ne_of_lt (Nat.lt_of_lt_of_le (Array.getElem?_eq_some_iff.mp hcS0).1 hnew)
  obtain ⟨iM, hffM⟩ := Y.msg
  obtain ⟨tyC, dC, hdC, hdnC⟩ := Cond.laysAt hfound hk Y.cause (hR 5 _ rfl)
  obtain ⟨tyS, dS, hdS, hdnS⟩ := Cond.laysAt hfound hk Y.stack (hR 6 _ rfl)
  obtain ⟨tyP, dP, hdP, hdnP⟩ := Cond.laysAt hfound hk Y.supp (hR 7 _ rfl)
  obtain ⟨tyM, dM, hdM, hdnM⟩ := Cond.laysAt hfound hk hffM (hR 8 _ rfl)
  obtain ⟨tyB, dB, hdB, hdnB⟩ := Cond.laysAt hfound hk hffB (hR 11 _ rfl)
  have bC := Cond.laysApart hdB hdC hdnB hdnC (by rw [hnB, Y.causeName]; decide)
  have bS := Cond.laysApart hdB hdS hdnB hdnS (by rw [hnB, Y.stackName]; decide)
  have bP := Cond.laysApart hdB hdP hdnB hdnP (by rw [hnB, Y.suppName]; decide)
  have hskip : SkipFacts T e.platform s (fun u => u) u0 ((preparedCellV T.toThrowableT (freshCell P1.m.cls kX) a u0 sen).withEntry W0.cur) :=
    ⟨{ ci198 := cb, i198 := ib, fBack := fB }, ⟨hkb, hgb, hab, hsB⟩, by
      have := fresh_default (c := P1.m.cls) tyB
      rw [htB] at this
      simpa [preparedCellV, Cell.setSlot, Cell.withEntry, Array.getElem?_setIfInBounds, bC, bS, bP, bC.symm, bS.symm, bP.symm, defaultValue] using this, fun _ _ => rfl⟩
  obtain ⟨tm, methC, cdC, kC, vm₁, hnC, -, -, -, -, -, -, -, hW₁, st1⟩ := Steps.initColdS (tb := p.tables) (e := e) (below := below) (s := s) (U := W0) X.here hexec X.warmed hpl hown (t := Bundle.initS g_XN) rfl rfl (by decide)
    (hR 0 _ rfl) (hP _ (List.mem_of_getElem? (i := 0) rfl)) (bytes := g_rx) (maxL := 2) (hP _ (List.mem_of_getElem? (i := 1) rfl)) (f := g) hg (a := a) (msg := msg) (rest := .ref a :: rest) hstack hd6
  cases Option.some.inj (hnC.symm.trans hP1m)
  have X₁ := X.noted hW₁
  obtain ⟨vm₂, X₂, st2⟩ := X₁.ctorMessageOffV hexec (g := { g with stack := .ref a :: rest }) hg hsize T L Z LZ M LM (P1 :: P2 :: Ps)
    (fun P hq => by
      rcases List.mem_cons.mp hq with rfl | hq
      · exact L1
      · rcases List.mem_cons.mp hq with rfl | hq
        · exact L2
        · exact hL P hq) ⟨hlk1, hlk2, hlk3⟩ (u0 := u0) (sen := sen) (self := a) hmsg (cell := freshCell P1.m.cls kX) (cellS := cellS)
    hcell (fun _ => by simp) (by simp) rfl rfl hsel0 hselF hcellS hneS hknownS (by rw [hkeep _ (hout' _)]; exact hu0) (by rw [hkeep _ (hout' _)]; exact hsen)
    (Takes.of_laid hk hord tyC (by rw [Y.causeType]; rfl)) (Takes.of_laid hk hord tyS (by rw [Y.stackType]; exact fits_refV_array _ u0)) (Takes.of_laid hk hord tyP (by rw [Y.suppType]; exact fits_refV_object _ sen))
    (Takes.of_laid hk hord tyM (by rw [Y.msgType]; exact fits_refV_object _ ⟨msg, hmsg⟩)) Y.objLocals hskip htr [] hd6
    (by simp only [List.length_cons, hlen, List.length_nil]; omega) (by simp only [List.length_cons, hlen, List.length_nil]; exact hRlocals)
  obtain ⟨hwalk, hrun, hended, hWU, hsame⟩ := X₂.athrowLeaves hexec (g := { g with stack := .ref a :: rest, pc := g.pc + 3 }) hg hlocked hentered hout (a := a) (rest := rest) rfl hd9 hlocks
  have hlt : a < ((W0.setVm vm₁).setVm vm₂).heap.size := (Array.getElem?_eq_some_iff.mp hcell).1
  have hU := heapAt_setCell_self (s := (W0.setVm vm₁).setVm vm₂) (plainBareV T.toThrowableT (freshCell P1.m.cls kX) a u0 sen msg) hlt
  refine ⟨_, st1 _ (fun acts => ?_), hrun, hended, hWU, hsame.weaken (fun y hy hlt' => ?_) (Nat.le_refl _) (Nat.le_refl _), _, hU, rfl, hfound⟩
  · rw [doInvoke_state]
    exact st2 _ hwalk
  · rcases List.mem_append.mp hy with h1 | h1
    · exact h1
    · exfalso
      have hb : y.base = a := by
        simp only [List.mem_cons, List.not_mem_nil, or_false] at h1
        rcases h1 with rfl | rfl | rfl | rfl | rfl <;> rfl
      rw [hb] at hlt'
      exact Nat.not_lt.mpr hnew hlt'
def gx_B : List Cond := [.declares (Bundle.initS g_RT), .declares (Bundle.initS g_EX), .declares (Bundle.initS Bundle.tN), .castable g_XN g_XN]
def gx_ok (U : State) : Prop := (va_Nw (.declares (Bundle.initS g_RT)) U ∧ va_Nw (.declares (Bundle.initS g_EX)) U ∧ va_Nw (.declares (Bundle.initS Bundle.tN)) U) ∧ va_Nw (.castable g_XN g_XN) U
theorem gx_ok_same {u U : State} (hv : U.vm = u.vm) (h : gx_ok u) : gx_ok U := ⟨⟨va_Nw.same rfl hv.symm h.1.1, va_Nw.same rfl hv.symm h.1.2.1, va_Nw.same rfl hv.symm h.1.2.2⟩, va_Nw.same rfl hv.symm h.2⟩
theorem gx_ok_warm {u U : State} (hW : u.WarmedH U.vm) (h : gx_ok u) : gx_ok U := ⟨⟨va_Nw.warmD hW h.1.1, va_Nw.warmD hW h.1.2.1, va_Nw.warmD hW h.1.2.2⟩, va_Nw.warmC hW h.2⟩
def gx_wd (w : g_W) (n : Nat) (I : g_I) (J : g_J) (R : g_R) (U : State) : Prop := g_wd w n I J R U ∧ gx_ok U
theorem gx_blind {w : g_W} {n : Nat} {I : g_I} {J : g_J} {R : g_R} {as : List Value} : FrameBlind (va_Pc as (gx_wd w n I J R)) := fun a U g mk h => ⟨h.1, (g_blind a U g mk ⟨h.1, h.2.1⟩).2, gx_ok_same rfl h.2.2⟩
theorem gx_at : ∀ q ∈ (gx_all.filter vx_no).filter goodWord, q ∈ lw_tbl := by decide +kernel
theorem gx_in : ∀ q ∈ (gx_all.filter vx_no).filter (fun q => !goodWord q), q ∈ gx_B := by decide +kernel
theorem gx_good : ∀ q ∈ Cond.classLink RX12 129 g_XN :: Cond.initialized g_XN :: gx_all.filter vx_no, vx_ot q = true := by decide +kernel
theorem ni_XN : Cond.initialized g_XN ∈ g_tb := List.mem_filter.mpr ⟨List.mem_of_getElem? (i := 130) (by decide +kernel), by decide +kernel⟩
theorem ms_L_self : Cond.static yL_self ∈ g_tb := List.mem_filter.mpr ⟨List.mem_of_getElem? (i := 1348) (by decide +kernel), by decide +kernel⟩
theorem mw_L_self : Cond.codeWith yL_self cL_self 5 (some .int) [(0, 10, 13, 13)] ∈ g_tb := List.mem_filter.mpr ⟨List.mem_of_getElem? (i := 1349) (by decide +kernel), by decide +kernel⟩
set_option maxHeartbeats 4000000 in
/-- self's throw: new, dup, ldc, the constructor, athrow -/
theorem gx_throw {p : Program} {l : Launch} {e : Env} {R : Room} {s : State} {m : MethodId} {args : Array Value} {below : List Frame} {meth : Method} {c : Code} {H : Heap} {locs : List Loc} {cells slots : Nat} {mc ms sa : Nat} {free : Addr → Prop} {A : Nat → Prop} {ls : Array Slot} {Qc : Array Value → State → Outcome → State → Prop} {XC : String → State → State → Prop}
    (hexec : p.tables.exec = Jvm.exec) (hb : c.code = cX12_self) (hl : l.stackTraces = false) (hown : s.vm.findClass RX12 = some m.cls) (hts : ∀ q ∈ g_tb, q.before args s = true) (hgx : gx_ok s) (hstr : vk_R RX12 131 "no such self" sa s)
    (hU : vx_Zq Bundle.tN "UNASSIGNED_STACK" Bundle.steD A s s.heap) (hN : vx_Zq Bundle.tN "SUPPRESSED_SENTINEL" Bundle.listD A s s.heap) (hS : va_S A s.heap H locs) (hsize : ls.size = c.maxLocals)
    (hout : ∀ x ∈ c.exceptionTable.toList, covers x 33 = false) (hRframes : 5 < R.frames) (hRlocals : 82 ≤ R.locals) (hRcells : cells + 1 ≤ R.cells) (hRslots : slots + 6 ≤ R.slots) (hlocks : meth.locks = false)
    (hx : ∀ t : State, s.vm.Alike t.vm → H.size ≤ t.heap.size → (∀ q : Nat, q < H.size → t.heap[q]? = H[q]?) → XC g_XN s t)
    (hf : ∀ z ∈ locs, free z.base) (hc : cells + 1 ≤ mc) (hs : slots + 6 ≤ ms) :
    W p l e R s m args below meth c H locs cells slots (vx_MQ below Qc XC args s mc ms free) (F0 m 24 ls []) := by
  intro T hT X
  have htr : e.platform.stackTraces = false := (show e.platform.stackTraces = l.stackTraces by rw [X.admits.platform]).trans hl
  have Y := vx_rebase X (R' := { frames := R.frames, locals := R.locals, cells := 1, slots := 6 }) (Nat.le_refl _) (Nat.le_refl _) hRcells hRslots
  obtain ⟨s', hA⟩ : ∃ z, z = (T.setVm s.vm).setFrames (.invoking m args :: below) := ⟨_, rfl⟩
  rw [← hA] at Y
  have hvm : s'.vm = s.vm := by rw [hA]; rfl
  have hhp : s'.heap = H := by rw [hA]; exact hT
  have hW0 : s.WarmedH s'.vm := by rw [hvm]; exact State.WarmedH.refl s
  have hat : ∀ q ∈ gx_all.filter vx_no, q.before args s = true := vx_hat (B := gx_B) (fun q hq => hts q (List.mem_filter.mpr ⟨gx_at q hq, (List.mem_filter.mp hq).2⟩)) gx_in (vx_c (va_Nw.use rfl hgx.1.1) (vx_c (va_Nw.use rfl hgx.1.2.1) (vx_c (va_Nw.use rfl hgx.1.2.2) (vx_c (va_Nw.use rfl hgx.2) vx_n))))
  have hat' : ∀ q ∈ gx_all.filter vx_no, q.before args s' = true := fun q hq => vx_ot_at hW0 hvm.symm (gx_good q (List.mem_cons_of_mem _ (List.mem_cons_of_mem _ hq))) (hat q hq)
  have hk' : (Cond.classLink RX12 129 g_XN).before args s' = true := vx_ot_at hW0 hvm.symm (gx_good _ List.mem_cons_self) (hts _ cl_X12_129)
  have hini' : (Cond.initialized g_XN).before args s' = true := vx_ot_at hW0 hvm.symm (gx_good _ (List.mem_cons_of_mem _ List.mem_cons_self)) (hts _ ni_XN)
  have hU' : vx_Zq Bundle.tN "UNASSIGNED_STACK" Bundle.steD A s' s'.heap := by rw [hhp]; exact vx_Zq.moved hW0.alike (hU.kept hS.2.1)
  have hN' : vx_Zq Bundle.tN "SUPPRESSED_SENTINEL" Bundle.listD A s' s'.heap := by rw [hhp]; exact vx_Zq.moved hW0.alike (hN.kept hS.2.1)
  have h : ∀ q ∈ gx_all, q.before args s' = true := vx_own hat' (vx_isRefq hU'.1) (vx_isRefq hN'.1) hU'.2.word hN'.2.word
  have hown' : s'.vm.findClass RX12 = some m.cls := by rw [hvm]; exact hown
  have hins : (Cond.instantiable g_XN 6).before args s' = true := h _ (List.mem_append_right _ (List.mem_append_right _ (List.mem_append_right _ (List.mem_append_right _ (List.mem_of_getElem? (i := 1) rfl)))))
  obtain ⟨vm₁, cX, kX, hfX, hkX, -, -, X₁, st1⟩ := Y.newCold hexec (own := RX12) (C := g_XN) (index := 129) (n := 6) hown' hk' hins hini' (g := F0 m 24 ls []) rfl (by rw [hb]; exact dX12_self_24) (Nat.le_refl _) (Nat.le_refl _)
  generalize hT1 : (T.setVm vm₁).pushCell { cls := cX, slots := kX.instanceTypes.map defaultValue, vm := .none } = T1 at X₁ st1
  have hcellA : T1.heap[T.heap.size]? = some (freshCell cX kX) := by rw [← hT1]; exact State.heap_pushCell_size _ _
  have d3' : decode c.code (24 + 3) = .ok (.dup, 1) := by rw [hb]; exact dX12_self_27
  have d4' : decode c.code (24 + 4) = .ok (.ldc 131, 2) := by rw [hb]; exact dX12_self_28
  have hstr' : vk_R RX12 131 "no such self" sa s' := vk_R.warm hW0 hstr
  obtain ⟨U, hsteps, hrun, hend, hW, hsame, ce, hce, hcv, hcc⟩ := gx_ctor X₁ hexec htr hown' h (vx_isRefq hU'.1) (vx_isRefq hN'.1) (fun x hx => nomatch hx) hfX hkX hcellA (by rw [hhp, hT]; exact Nat.le_refl _) (msg := .ref sa) rfl
    (g := { method := m, pc := 24 + 6, locals := ls, stack := .ref sa :: .ref T.heap.size :: .ref T.heap.size :: [], locked := none }) rfl hsize rfl rfl (rest := []) rfl
    (by rw [hb]; exact dX12_self_30) (by rw [hb]; exact dX12_self_33) hout hRframes (by show 2 * 0 + (1 + 0) + 81 ≤ _; omega) hlocks
  obtain ⟨f1, f2⟩ := vx_frame hsame
  rw [hhp] at f1 f2
  have hWs : s.WarmedH U.vm := State.WarmedH.trans hW0 hW
  have hcl : s.vm.findClass g_XN = some ce.cls := by rw [← hvm]; exact hcc
  have hall : s.sameButNew ({ U with vm := s.vm } : State) locs mc ms := by
    subst hA
    obtain ⟨e1, e2⟩ := hsame
    rw [State.setFrames_setFrames] at e1
    have h2 : (T.setVm s.vm).sameButNew ({ U with vm := s.vm } : State) [] (0 + 1) (0 + 6) := ⟨e1, e2⟩
    have h3 := X.same.trans h2
    rw [List.append_nil] at h3
    exact h3.mono hc hs
  refine ⟨U, ?_, .threw T.heap.size, hrun, hend, Or.inr ⟨T.heap.size, rfl, g_XN, ce, locs, hx U hWs.alike f1 (fun q hq => f2 q hq (fun z hz => nomatch hz)), hce, hcv, hcl, hWs, hall, hf⟩⟩
  refine st1 _ ?_
  show Steps p.tables e below (T1.setTop { method := m, pc := 24 + 3, locals := ls, stack := .ref T.heap.size :: [], locked := none }) _
  jvm_step X₁.here [X₁.here.top, hexec, d3', Value.category]
  exact X₁.ldcString hexec (own := RX12) (text := "no such self") (index := 131) (a := sa) hown' hstr'.1 hstr'.2
    (g := { method := m, pc := 24 + 4, locals := ls, stack := .ref T.heap.size :: .ref T.heap.size :: [], locked := none }) rfl d4' _ hsteps
/-- what self throws -/
def gx_X (w : g_W) (n : Nat) (I : g_I) (J : g_J) (R : g_R) : String → State → State → Prop := fun E st t => E = g_XN ∧ va_P w.2.1 g_cls (g_ws w n I J R) t.heap ∧ va_F (g_A w) st t
set_option maxHeartbeats 4000000 in
set_option maxRecDepth 100000 in
/-- OtherSelves.self, where it throws -/
theorem cx_X12_self (w : g_W) (hl : w.1.stackTraces = false) {I : g_I} {J : g_J} {R : g_R} {lb tx : Nat} (hR : g_rf w R lb tx) (hlb : g_life lb) {I2 : g_I} (hI : ∀ k j, g32 (I k j)) (hsI2 : g_off I I2) (hxI2 : ∀ k j, g32 (I2 k j)) (hC : g_cin I lb) (hTb : I 0 12 = -1 ∨ (0 ≤ I 0 12 ∧ I 0 12 ≤ 2)) {s k : Int} (g1 : g32 s) (g2 : g32 k) (hgd : ¬ ((0 ≤ s ∧ s < I lb 0) ∧ 0 ≤ k ∧ k ≤ 8)) :
    vx_Met w.1 yX12_self (.code yX12_self cX12_self 3 (some .int) :: g_tb) { frames := 6, cells := 1, slots := 6, locals := 40 * 6 } (va_Pc [gvr w 0, gvI s, gvI k] (gx_wd w g_n I2 J R)) (fun _ _ _ _ => False) (gx_X w g_n I2 J R) 1 6 (g_A w) := by
  refine vx_ofW (cc := cX12_self) (maxL := 3) (ret := some .int) (by decide +kernel) rfl ?_
  intro p e s0 m args below meth c s₁ B hml htab hv
  obtain ⟨rfl, ⟨hP, hK, hsta⟩, hgx⟩ := hv
  have hts := atoms_spec (ws := .code yX12_self cX12_self 3 (some .int) :: g_tb) B.pre
  have hts' : ∀ q ∈ g_tb, q.before [gvr w 0, gvI s, gvI k].toArray s0 = true := fun q h => hts q (List.mem_cons_of_mem _ h)
  have hown : s0.vm.findClass RX12 = some m.cls := findClass_of_methodNamed B.named
  have hsz : w.2.2.2.1 ≤ s0.heap.size := by
    have h1 := (hP 0 _ (g_ws_at (by decide))).lt
    dsimp only at h1
    omega
  have hc : g_OK w (p, e, { frames := 6, cells := 1, slots := 6, locals := 40 * 6 }, s0, m, [gvr w 0, gvI s, gvI k].toArray, below, meth, c, 1, 6) cX12_self 3 (some .int) RX12 6 := ⟨B.exec, B.bytes, hml, B.returns, hown, hts', hK, hsta, B.notSynchronized, hsz, rfl⟩
  rw [lg_entry_eq]
  have hl0 := lv_entry [gvr w 0, gvI s, gvI k] (n := 3) (Nat.le_of_ble_eq_true rfl)
  have hle : g_lh _ [some (gvr w 0), some (gvI s), some (gvI k)] := ⟨hl0.1, hl0.2.1, fun i v hv => hl0.2.2 (i, v) (g_args 0 i v hv rfl)⟩
  refine q_X12_self (P := vx_MQ below (fun _ _ _ _ => False) (gx_X w g_n I2 J R) [gvr w 0, gvI s, gvI k].toArray s0 1 6 (g_A w)) w hR hlb hI hsI2 hxI2 hC hTb g1 g2 hgd (d := 6) (by decide) hc ?_ s0.heap [] _ hP va_S.rf hle
  intro H locs ls hP2 hS2 hll
  exact gx_throw (A := g_A w) (sa := w.2.2.2.2 104) B.exec B.bytes hl hown hts' hgx (hsta.2.2.1 ("OtherSelves", 131, "no such self", 4) (by decide +kernel)) hsta.2.2.2.2.2.1 hsta.2.2.2.2.2.2 hS2 (hll.1.trans hml.symm) (fun z hz => (htab z hz).elim) (by decide) (by decide) (by decide) (by decide) B.notSynchronized
    (fun t _ hz hq => ⟨rfl, hP2.kept (fun k x hx => hq x.1 (hP2 k x hx).lt), ⟨Nat.le_trans hS2.1 hz, fun q h1 h2 => (hq q (Nat.lt_of_lt_of_le h1 hS2.1)).trans (hS2.2.1 q h1 h2)⟩⟩) hS2.2.2 (by decide) (by decide)
/-- a contract of the law's self -/
def gx_Met (w : g_W) (n : Nat) (I : g_I) (J : g_J) (R : g_R) (d mc ms : Nat) (as : List Value) (P : g_P) : Prop :=
  Met w.1 yL_self (.codeWith yL_self cL_self 5 (some .int) [(0, 10, 13, 13)] :: g_tb) { frames := d, cells := mc, slots := ms, locals := 40 * d } (va_Pc as (gx_wd w n I J R)) (g_Q w P) mc ms (g_A w)
theorem gx_intro {w : g_W} {n : Nat} {I : g_I} {J : g_J} {R : g_R} {d mc ms : Nat} {as : List Value} {P : g_P} (L0 : List (Option Value)) (hn : 0 < n) (hl : (lg_sl as).length ≤ 5) (hL : L0.length = 5) (hs : ∀ (i : Nat) (v : Value), L0[i]? = some (some v) → (i, v) ∈ lv_args 0 as)
    (body : ∀ x : g_C, g_OK w x cL_self 5 (some .int) RL d → x.2.2.2.2.2.2.2.2.2.1 = mc ∧ x.2.2.2.2.2.2.2.2.2.2 = ms → gx_ok (g_s x) → x.2.2.2.2.2.2.2.2.1.exceptionTable.toList = [⟨0, 10, 13, 13⟩] → G w x P 0 0 n I J R 0 L0 []) : gx_Met w n I J R d mc ms as P := by
  refine va_MetW (cc := cL_self) (maxL := 5) (ret := some .int) (by decide +kernel) rfl ?_
  intro p e s m args below meth c s₁ B hml hv
  obtain ⟨rfl, ⟨hP, hK, hsta⟩, hgx⟩ := hv
  have hts := atoms_spec (ws := .codeWith yL_self cL_self 5 (some .int) [(0, 10, 13, 13)] :: g_tb) B.pre
  have hown : s.vm.findClass RL = some m.cls := findClass_of_methodNamed B.named
  have hsz : w.2.2.2.1 ≤ s.heap.size := by
    have h1 := (hP 0 _ (g_ws_at hn)).lt
    dsimp only at h1
    omega
  have htab : c.exceptionTable.toList = [⟨0, 10, 13, 13⟩] := vx_table (x := yL_self) B (hts _ List.mem_cons_self)
  rw [lg_entry_eq]
  have hl := lv_entry as (n := 5) hl
  exact body (p, e, _, s, m, as.toArray, below, meth, c, mc, ms) ⟨B.exec, B.bytes, hml, B.returns, hown, fun q h => hts q (List.mem_cons_of_mem _ h), hK, hsta, B.notSynchronized, hsz, rfl⟩ ⟨rfl, rfl⟩ hgx htab s.heap [] _ hP va_S.rf ⟨hl.1.trans hL.symm, hl.2.1, fun i v hv => hl.2.2 (i, v) (hs i v hv)⟩
/-- G is GQ at its own end -/
def g_MQ (w : g_W) (P : g_P) (x : g_C) : State → Prop := match x with
  | (_, _, _, s, _, args, below, _, _, mc, ms) => MQ below (g_Q w P) args s mc ms (g_A w)
theorem G_of {w : g_W} {x : g_C} {P : g_P} {u v n : Nat} {I : g_I} {J : g_J} {R : g_R} {pc : Nat} {L : List (Option Value)} {st : List Value} (h : GQ w x (g_MQ w P x) u v n I J R pc L st) : G w x P u v n I J R pc L st := by
  obtain ⟨p, e, Rm, s, m, args, below, meth, c, mc, ms⟩ := x
  exact h
theorem G_to {w : g_W} {x : g_C} {P : g_P} {u v n : Nat} {I : g_I} {J : g_J} {R : g_R} {pc : Nat} {L : List (Option Value)} {st : List Value} (h : G w x P u v n I J R pc L st) : GQ w x (g_MQ w P x) u v n I J R pc L st := by
  obtain ⟨p, e, Rm, s, m, args, below, meth, c, mc, ms⟩ := x
  exact h
theorem ca_728 : g_at g_n 728 (.inr (6, 1)) := ⟨by decide, by decide +kernel⟩
set_option maxHeartbeats 4000000 in
set_option maxRecDepth 100000 in
/-- the law's self, where OtherSelves.self returns -/
theorem c_L_self (w : g_W) {I : g_I} {J : g_J} {R : g_R} {lb tx : Nat} (hR : g_rf w R lb tx) (hlb : g_life lb) {I2 : g_I} (hI : ∀ k j, g32 (I k j)) (hsI2 : g_off I I2) (hxI2 : ∀ k j, g32 (I2 k j)) (hC : g_cin I lb) (hTb : I 0 12 = -1 ∨ (0 ≤ I 0 12 ∧ I 0 12 ≤ 2)) {s k : Int} (g1 : g32 s) (g2 : g32 k) (hgd : (0 ≤ s ∧ s < I lb 0) ∧ 0 ≤ k ∧ k ≤ 8) :
    gx_Met w g_n I2 J R 5 0 0 [gvr w 0, gvI s, gvI k, gvr w 728] (fun r n' I' J' R' => r = some (gvI 0) ∧ n' = g_n ∧ (∀ k : Nat, ¬ g_sc k → I' k = I2 k) ∧ (∀ k j, g32 (I' k j)) ∧ J' = g_upJ J 728 ((Int32.ofInt (x_slf I lb s k)).toInt) ∧ R' = R) := by
  refine gx_intro [some (gvr w 0), some (gvI s), some (gvI k), some (gvr w 728), none] (by decide) (Nat.le_of_ble_eq_true rfl) rfl (fun i v hv => g_args 1 i v hv rfl) (fun x hc hm hgx htab => ?_)
  refine G_of ?_
  refine gq_aldn hc dL_self_0 rfl ?_
  refine gq_iconst hc dL_self_1 ?_
  refine gq_aldn hc dL_self_2 rfl ?_
  refine gq_iload_n hc dL_self_3 rfl ?_
  refine gq_iload_n hc dL_self_4 rfl ?_
  refine gq_callV (as := [gvI s, gvI k]) hc (c_X12_self w hR hlb hI hsI2 hxI2 hC hTb g1 g2 hgd) my_X12_self mv_X12_self ca_0 rfl rfl lm_L_7 rfl rfl (by omega) (by omega) (Nat.le_of_ble_eq_true rfl) ⟨Nat.zero_le _, Nat.zero_le _⟩ dL_self_5 (fun r9 n9 I9 J9 R9 h9 => ?_)
  obtain ⟨rfl, rfl, h91, h92, h94, h95⟩ := h9
  obtain rfl : J = J9 := h94
  obtain rfl : R = R9 := h95
  refine gq_i2lx hc dL_self_8 ?_
  refine gq_last hc ca_728 dL_self_9 ?_
  refine gq_goto (tgt := 17) hc dL_self_10 (by decide) ?_
  refine gq_iconst hc dL_self_17 ?_
  refine G_to ?_
  refine g_iret hc hm dL_self_18 ?_
  exact ⟨rfl, rfl, h91, h92, rfl, rfl⟩
set_option maxHeartbeats 4000000 in
set_option maxRecDepth 100000 in
/-- .. where it throws -/
theorem cx_L_self (w : g_W) (hl : w.1.stackTraces = false) {I : g_I} {J : g_J} {R : g_R} {lb tx : Nat} (hR : g_rf w R lb tx) (hlb : g_life lb) {I2 : g_I} (hI : ∀ k j, g32 (I k j)) (hsI2 : g_off I I2) (hxI2 : ∀ k j, g32 (I2 k j)) (hC : g_cin I lb) (hTb : I 0 12 = -1 ∨ (0 ≤ I 0 12 ∧ I 0 12 ≤ 2)) {s k : Int} (g1 : g32 s) (g2 : g32 k) (hgd : ¬ ((0 ≤ s ∧ s < I lb 0) ∧ 0 ≤ k ∧ k ≤ 8)) :
    gx_Met w g_n I2 J R 7 1 6 [gvr w 0, gvI s, gvI k, gvr w 728] (g_post (some (gvI 1)) g_n I2 J R) := by
  refine gx_intro [some (gvr w 0), some (gvI s), some (gvI k), some (gvr w 728), none] (by decide) (Nat.le_of_ble_eq_true rfl) rfl (fun i v hv => g_args 1 i v hv rfl) (fun x hc hm hgx htab => ?_)
  refine G_of ?_
  refine gq_aldn hc dL_self_0 rfl ?_
  refine gq_iconst hc dL_self_1 ?_
  refine gq_aldn hc dL_self_2 rfl ?_
  refine gq_iload_n hc dL_self_3 rfl ?_
  refine gq_iload_n hc dL_self_4 rfl ?_
  have k13 : ∀ q : Nat, GQ w x (g_MQ w (g_post (some (gvI 1)) g_n I2 J R) x) 1 6 g_n I2 J R 13 [some (gvr w 0), some (gvI s), some (gvI k), some (gvr w 728), none] [.ref q] := fun q => by
    refine gq_astore_4 hc dL_self_13 rfl ?_
    refine gq_iconst hc dL_self_15 ?_
    refine G_to ?_
    refine g_iret hc hm dL_self_16 ?_
    exact ⟨rfl, rfl, rfl, rfl, rfl⟩
  obtain ⟨p, e, Rm, s0, m, args, below, meth, c, mc, ms⟩ := x
  obtain ⟨hx, hb, hml, hr, hown, hts, hK, hsta, hlk2, hsz, hRm⟩ := hc
  obtain ⟨h1, h2⟩ := hm
  dsimp only at h1 h2
  subst h1
  subst h2
  subst hRm
  intro H locs ls hP hS hll T hT X
  have hT9 : GoodIn g_tb (wsV RL 7 RX12 yX12_self (.code yX12_self cX12_self 3 (some .int) :: g_tb)) := by
    intro z hz
    rcases List.mem_append.mp hz with h | h
    · simp only [List.mem_cons, List.not_mem_nil, or_false] at h
      rcases h with rfl | rfl | rfl | rfl
      · exact ⟨lm_L_7, g_tb_ok lm_L_7⟩
      · exact ⟨mv_X12_self.1, g_tb_ok mv_X12_self.1⟩
      · exact ⟨mv_X12_self.2, g_tb_ok mv_X12_self.2⟩
      · exact ⟨my_X12_self.2.1, g_tb_ok my_X12_self.2.1⟩
    · exact g_good my_X12_self z h
  have run := vx_runV (R := { frames := 7, cells := 1, slots := 6, locals := 40 * 7 }) (C := RX12) (H := H) (locs := locs) (cells := 0) (slots := 0) (As := [gvI s, gvI k]) (rest := [gvI 0, gvr w 728]) (b := w.2.2.2.1 + 0) (g := F0 m 5 ls (gvI k :: gvI s :: gvr w 0 :: [gvI 0, gvr w 728])) (p := p) (l := w.1) (e := e) (below := below) (meth := meth) ⟨hx, hb, hml, hown, hts⟩ (cx_X12_self w hl hR hlb hI hsI2 hxI2 hC hTb g1 g2 hgd) (cwV 2 hts hT9 rfl rfl rfl ⟨rfl, my_X12_self.2.2.1, my_X12_self.2.2.2.1, my_X12_self.2.2.2.2⟩ ⟨by decide, by decide⟩)
    ⟨gx_blind, va_recv hK hP (q := (RX12, TX12, 13)) (ci := 12) rfl (g_at_o ca_0), fun U hU hW => ⟨rfl, (g_pre (as := [gvr w 0, gvI s, gvI k]) hK hsta hP hS U hU hW).2, gx_ok_warm hW hgx⟩⟩ rfl rfl (hll.1.trans rfl) rfl (lv_room (Nat.le_of_ble_eq_true rfl)) dL_self_5 ⟨by decide, by decide⟩
  rcases run T hT X with ⟨v9, st9, t9, T9, L9, h0, X9, hL9, e1, e2, hq, stp⟩ | ⟨q9, st9, t9, T9, L9, E9, ce, h0, X9, hL9, e1, e2, hq, hce, hcv, hcl, stp⟩
  · exact hq.elim
  · obtain ⟨rfl, hP9, hz9, hk9⟩ := hq
    rw [h0] at hz9 hk9
    have kk := k13 q9 T9.heap (locs ++ L9) ls (by rw [e1]; exact hP9) ⟨Nat.le_trans hS.1 (by rw [e1]; exact hz9), fun q h1 h2 => by rw [e1, hk9 q (Nat.lt_of_lt_of_le h1 hS.1) h2]; exact hS.2.1 q h1 h2, fun q hq => by
        rcases List.mem_append.mp hq with h | h
        · exact hS.2.2 q h
        · exact hL9 q h⟩ hll
    have hcatch := vx_catch (pc := 5) (ls := ls) (rest := [gvI 0, gvr w 728]) (own := RL) (name := g_XN) (E := g_XN) hown [] ⟨0, 10, 13, 13⟩ [] htab (fun z hz => absurd hz List.not_mem_nil) (by decide) (by decide) (hts _ cl_L_13) (va_Nw.use rfl hgx.2) (by rw [e1]; exact hce) hcv hcl kk
    obtain ⟨t2, a1, b1⟩ := hcatch T9 rfl X9
    exact ⟨t2, stp.trans a1, b1⟩
/-- the law calls its self -/
theorem gx_callS {w : g_W} {x : g_C} {P : State → Prop} {u v n : Nat} {I : g_I} {J : g_J} {R : g_R} {pc : Nat} {L : List (Option Value)} {st : List Value} {cc : ByteArray} {nL : Nat} {rt : Option FieldType} {d d' mc' ms' idx : Nat} {as : List Value} {P' : g_P} (hc : g_OK w x cc nL rt RL d) (hgx : gx_ok (g_s x)) (hM : gx_Met w n I J R d' mc' ms' as P') (hlk : Cond.methodLink RL idx yL_self ∈ g_tb) (hn : as.length = 4) (hLn : L.length = nL) (hdd : d' + 1 ≤ d) (hlo : 24 + 40 * d' ≤ 40 * d) (hroom : (st.map fun z => z.category).sum ≤ 8) (hmc : u + mc' ≤ x.2.2.2.2.2.2.2.2.2.1 ∧ v + ms' ≤ x.2.2.2.2.2.2.2.2.2.2) (hd : decode cc pc = .ok (.invokestatic idx, 3))
    (kk : ∀ (r : Option Value) (n' : Nat) (I' : g_I) (J' : g_J) (R' : g_R), P' r n' I' J' R' → GQ w x P (u + mc') (v + ms') n' I' J' R' (pc + 3) L (r.toList ++ st)) : GQ w x P u v n I J R pc L (as.reverse ++ st) := by
  obtain ⟨p, e, Rm, s, m, args, below, meth, c, mc, ms⟩ := x
  obtain ⟨hx, hb, hml, hr, hown, hts, hK, hsta, hlk2, hsz, hRm⟩ := hc
  intro H locs ls hP hS hl
  refine gq_run (aa := as.toArray) hsz ?_ hS hl kk
  have hT : GoodIn g_tb (va_wsS RL idx yL_self (.codeWith yL_self cL_self 5 (some .int) [(0, 10, 13, 13)] :: g_tb)) := by
    intro z hz
    rcases List.mem_append.mp hz with h | h
    · simp only [List.mem_cons, List.not_mem_nil, or_false] at h
      rcases h with rfl | rfl | rfl
      · exact ⟨hlk, g_tb_ok hlk⟩
      · exact ⟨ms_L_self, g_tb_ok ms_L_self⟩
      · exact ⟨ni_L, g_tb_ok ni_L⟩
    · rcases List.mem_cons.mp h with rfl | h
      · exact ⟨mw_L_self, g_tb_ok mw_L_self⟩
      · exact ⟨h, g_tb_ok h⟩
  subst hRm
  exact vx_runSW (As := as) (rest := st) ⟨hx, hb, hml, hown, hts⟩ hM (vx_cwSW 4 hts hT rfl rfl rfl ⟨by decide +kernel, by decide +kernel, by decide +kernel⟩ ⟨hdd, by show 8 + (5 + 11) + 40 * d' ≤ 40 * d; omega⟩)
    ⟨gx_blind, fun U hU hW => ⟨rfl, (g_pre (as := as) hK hsta hP hS U hU hW).2, gx_ok_warm hW hgx⟩⟩ rfl hn (hl.1.trans hLn) rfl (lv_room hroom) hd hmc
