/-! ===== an exception whose own constructor names its super's by the constant ix (NoSuchElementException: 13) ===== -/
def vy_at (own : String) (ic : Nat) (X Y : String) (ix : Nat) (rx : ByteArray) (r : List String) : List Cond :=
  Bundle.throwableAtoms ++ (Bundle.throwableSAtoms ++ (Bundle.passSAtoms X Y ix rx ++ (Bundle.chainSAtoms Y r ++
  [Cond.methodLink own ic (Bundle.initS X), .instantiable X 6, .selects X Bundle.tFill0 Bundle.tFill0, .selects X Bundle.tFill Bundle.tFill,
   .lays X Bundle.tN "cause" "Ljava/lang/Throwable;", .lays X Bundle.tN "stackTrace" Bundle.steD, .lays X Bundle.tN "suppressedExceptions" Bundle.listD, .lays X Bundle.tN "detailMessage" "Ljava/lang/String;", .lays X Bundle.tN "backtrace" "Ljava/lang/Object;",
   .isRef (.static Bundle.tN "UNASSIGNED_STACK" Bundle.steD), .isRef (.static Bundle.tN "SUPPRESSED_SENTINEL" Bundle.listD), .fieldLink Bundle.tN 198 Bundle.tN "backtrace" "Ljava/lang/Object;", .lays Bundle.tN Bundle.tN "backtrace" "Ljava/lang/Object;"])))
set_option maxHeartbeats 1000000 in
/-- its constructor called over a fresh cell, then athrow (the way of the kit's row for the constant 7, its library's lemmas called) -/
theorem vy_ctor {p : Program} {l : Launch} {e : Env} {R : Room} {s : State} {m₀ : MethodId} {args : Array Value} {below : List Frame} {meth : Method} {c : Code} {W : State} {locs : List Loc} {cells slots : Nat}
    (X : Stand p l e R s m₀ args below meth c W locs cells slots) (hexec : p.tables.exec = Jvm.exec) (htr : e.platform.stackTraces = false) {own cls Y : String} {r : List String} {ic ix : Nat} {rx : ByteArray}
    (x0 : decode rx 0 = .ok (.aload_n 0, 1)) (x1 : decode rx 1 = .ok (.aload_n 1, 1)) (x2 : decode rx 2 = .ok (.invokespecial ix, 3)) (x5 : decode rx 5 = .ok (.return_, 1))
    (hown : s.vm.findClass own = some m₀.cls) (hcls : Bundle.fit cls = true) (hY : Bundle.fit Y = true) (hr : ∀ n ∈ r, Bundle.fit n = true)
    (h : ∀ a ∈ vy_at own ic cls Y ix rx r, a.before args s = true)
    (hlocs : ∀ x ∈ locs, ∀ cell, s.heap[x.base]? = some cell → cell.vm.isStatics = false)
    {a : Addr} {cX : ClassId} {kX : Class} (hfX : s.vm.findClass cls = some cX) (hkX : s.vm.classes[cX]? = some kX) (hcell : W.heap[a]? = some (freshCell cX kX)) (hnew : s.heap.size ≤ a)
    {msg : Value} (hmsg : msg.isRef = true)
    {g : JFrame} (hg : g.method = m₀) (hsize : g.locals.size = c.maxLocals) (hlocked : g.locked = none) (hentered : g.entered = []) {rest : List Value} (hstack : g.stack = msg :: .ref a :: .ref a :: rest)
    (hd6 : decode c.code g.pc = .ok (.invokespecial ic, 3)) (hd9 : decode c.code (g.pc + 3) = .ok (.athrow, 1)) (hout : ∀ x ∈ c.exceptionTable.toList, covers x (g.pc + 3) = false)
    (hRf : r.length + 4 < R.frames) (hRl : 2 * g.monitorRoom + ((Value.ref a :: rest).map fun v => v.category).sum + (13 * (r.length + 2) + 42) ≤ R.locals) (hlocks : meth.locks = false) :
    ∃ U : State, Steps p.tables e below (W.setTop g) U ∧ U.status = .running ∧ Ended U below (.threw a) ∧ s.WarmedH U.vm ∧ s.sameButNew ({ U with vm := s.vm } : State) locs cells slots ∧ ∃ ce, U.heap[a]? = some ce ∧ ce.cls = cX ∧ ce.vm = .none := by
  have hpl : e.platform.magicAccessors = ({} : Platform).magicAccessors := by rw [X.admits.platform]
  have q1 : ∀ x ∈ Bundle.throwableAtoms, x.before args s = true := fun x hx => h x (List.mem_append_left _ hx)
  have q2 : ∀ x ∈ Bundle.throwableSAtoms, x.before args s = true := fun x hx => h x (List.mem_append_right _ (List.mem_append_left _ hx))
  have q3 : ∀ x ∈ Bundle.passSAtoms cls Y ix rx, x.before args s = true := fun x hx => h x (List.mem_append_right _ (List.mem_append_right _ (List.mem_append_left _ hx)))
  have q4 : ∀ x ∈ Bundle.chainSAtoms Y r, x.before args s = true := fun x hx => h x (List.mem_append_right _ (List.mem_append_right _ (List.mem_append_right _ (List.mem_append_left _ hx))))
  have q5 : ∀ {x : Cond}, x ∈ [Cond.methodLink own ic (Bundle.initS cls), .instantiable cls 6, .selects cls Bundle.tFill0 Bundle.tFill0, .selects cls Bundle.tFill Bundle.tFill,
   .lays cls Bundle.tN "cause" "Ljava/lang/Throwable;", .lays cls Bundle.tN "stackTrace" Bundle.steD, .lays cls Bundle.tN "suppressedExceptions" Bundle.listD, .lays cls Bundle.tN "detailMessage" "Ljava/lang/String;", .lays cls Bundle.tN "backtrace" "Ljava/lang/Object;",
   .isRef (.static Bundle.tN "UNASSIGNED_STACK" Bundle.steD), .isRef (.static Bundle.tN "SUPPRESSED_SENTINEL" Bundle.listD), .fieldLink Bundle.tN 198 Bundle.tN "backtrace" "Ljava/lang/Object;", .lays Bundle.tN Bundle.tN "backtrace" "Ljava/lang/Object;"] → x.holds args s none s [] = true := fun {x} hx => h x (List.mem_append_right _ (List.mem_append_right _ (List.mem_append_right _ (List.mem_append_right _ hx))))
  obtain ⟨T, Z0, L, -, Yt⟩ := ThrowableC.of_atoms (args := args) (by rw [X.admits.platform]) (by rw [X.admits.platform]) hpl q1
  obtain ⟨Z, M, LZ, LM, hnZ⟩ := Init0T.ofS_atoms (args := args) hpl L Yt q2
  obtain ⟨P1, L1, hP1m, hsup⟩ := PassC.ofS_atoms (args := args) (s := s) hpl (Bundle.fit_spec hcls).1 (Bundle.fit_spec hY).2 x0 x1 x2 x5 q3
  obtain ⟨P2, Ps, hlen, L2, hL, hP2m, hlink2, hlink⟩ := Bundle.chainS (args := args) hpl hnZ r Y hY hr q4
  have hlink1 : P1.sup = P2.m := Option.some.inj (hsup.symm.trans hP2m)
  have hfound : s.vm.findClass cls = some P1.m.cls := findClass_of_methodNamed hP1m
  obtain ⟨c1, k1, hc1, hk, hord, -, -, hn6⟩ := Cond.instantiable_spec (q5 (x := .instantiable cls 6) (by simp))
  cases Option.some.inj (hfX.symm.trans hfound)
  cases Option.some.inj (hc1.symm.trans hfound)
  cases Option.some.inj (hkX.symm.trans hk)
  have hsel0 : selectMethod e.platform s.vm P1.m.cls T.fill0 = .method T.fill0 := by
    obtain ⟨c2, r2, m2, z1, z2, z3, z4, -⟩ := Cond.selects_spec (q5 (x := .selects cls Bundle.tFill0 Bundle.tFill0) (by simp))
    cases Option.some.inj (z1.symm.trans hfound)
    cases Option.some.inj (z2.symm.trans (State.methodFound?_of_named Yt.fill0 (by decide)))
    cases Option.some.inj (z3.symm.trans Yt.fill0)
    rw [Launch.admits_selectMethod X.admits]; exact z4
  have hselF : selectMethod e.platform s.vm P1.m.cls T.fill = .method T.fill := by
    obtain ⟨c2, r2, m2, z1, z2, z3, z4, -⟩ := Cond.selects_spec (q5 (x := .selects cls Bundle.tFill Bundle.tFill) (by simp))
    cases Option.some.inj (z1.symm.trans hfound)
    cases Option.some.inj (z2.symm.trans (State.methodFound?_of_named Yt.fill (by decide)))
    cases Option.some.inj (z3.symm.trans Yt.fill)
    rw [Launch.admits_selectMethod X.admits]; exact z4
  obtain ⟨cellS0, hcS0, hiss⟩ := Yt.statics
  obtain ⟨u0, hu0⟩ := Cond.staticRefV Yt.unassigned L.unassignedStatic L.statics hcS0 hiss (q5 (x := .isRef (.static Bundle.tN "UNASSIGNED_STACK" Bundle.steD)) (by simp))
  obtain ⟨sen, hsen⟩ := Cond.staticRefV Yt.sentinel L.sentinelStatic L.statics hcS0 hiss (q5 (x := .isRef (.static Bundle.tN "SUPPRESSED_SENTINEL" Bundle.listD)) (by simp))
  obtain ⟨ci198, i198, fB, hk198, hg198, ha198, hsB, -, hnB, htB, hffB⟩ := Cond.ownField (t := .object "java/lang/Object") Yt.found L.cls (by decide +kernel) (q5 (x := .fieldLink Bundle.tN 198 Bundle.tN "backtrace" "Ljava/lang/Object;") (by simp)) (q5 (x := .lays Bundle.tN Bundle.tN "backtrace" "Ljava/lang/Object;") (by simp)) e.platform hpl
  obtain ⟨cellS, hcellS, heS, -, hkeep⟩ := X.same.2.2.2.2.2 T.aS cellS0 hcS0
  have hin : ∀ i, (⟨T.aS, i⟩ : Loc) ∉ locs := fun i hm => by
    have hz := hlocs _ hm cellS0 hcS0
    rw [hiss] at hz
    cases hz
  have hknown : cellS.vm ≠ .unknown := by
    rw [heS]
    intro hu
    rw [show cellS0.vm = .unknown from hu] at hiss
    cases hiss
  have hneS : T.aS ≠ a := Nat.ne_of_lt (Nat.lt_of_lt_of_le (Array.getElem?_eq_some_iff.mp hcS0).1 hnew)
  obtain ⟨iM, hffM⟩ := Yt.msg
  obtain ⟨tyC, dC, hdC, hdnC⟩ := Cond.laysAt hfound hk Yt.cause (q5 (x := .lays cls Bundle.tN "cause" "Ljava/lang/Throwable;") (by simp))
  obtain ⟨tyS, dS, hdS, hdnS⟩ := Cond.laysAt hfound hk Yt.stack (q5 (x := .lays cls Bundle.tN "stackTrace" Bundle.steD) (by simp))
  obtain ⟨tyP, dP, hdP, hdnP⟩ := Cond.laysAt hfound hk Yt.supp (q5 (x := .lays cls Bundle.tN "suppressedExceptions" Bundle.listD) (by simp))
  obtain ⟨tyM, dM, hdM, hdnM⟩ := Cond.laysAt hfound hk hffM (q5 (x := .lays cls Bundle.tN "detailMessage" "Ljava/lang/String;") (by simp))
  obtain ⟨tyB, dB, hdB, hdnB⟩ := Cond.laysAt hfound hk hffB (q5 (x := .lays cls Bundle.tN "backtrace" "Ljava/lang/Object;") (by simp))
  have bC := Cond.laysApart hdB hdC hdnB hdnC (by rw [hnB, Yt.causeName]; decide)
  have bS := Cond.laysApart hdB hdS hdnB hdnS (by rw [hnB, Yt.stackName]; decide)
  have bP := Cond.laysApart hdB hdP hdnB hdnP (by rw [hnB, Yt.suppName]; decide)
  have hskip : SkipFacts T e.platform s (fun u => u) u0 ((preparedCellV T.toThrowableT (freshCell P1.m.cls kX) a u0 sen).withEntry W.cur) :=
    ⟨{ ci198 := ci198, i198 := i198, fBack := fB }, ⟨hk198, hg198, ha198, hsB⟩, by
      have hz := fresh_default (c := P1.m.cls) tyB
      rw [htB] at hz
      simpa [preparedCellV, Cell.setSlot, Cell.withEntry, Array.getElem?_setIfInBounds, bC, bS, bP, bC.symm, bS.symm, bP.symm, defaultValue] using hz, fun _ _ => rfl⟩
  obtain ⟨tm, methC, cdC, kC, vm₁, hnC, -, -, -, -, -, -, -, hW₁, st1⟩ := Steps.initColdS (tb := p.tables) (e := e) (below := below) (s := s) (U := W) X.here hexec X.warmed hpl hown (t := Bundle.initS cls) rfl rfl (Bundle.fit_spec hcls).2
    (q5 (x := .methodLink own ic (Bundle.initS cls)) (by simp)) (q3 _ (by simp [Bundle.passSAtoms])) (bytes := rx) (maxL := 2) (q3 (.code (Bundle.initS cls) rx 2 none) (by simp [Bundle.passSAtoms]))
    (f := g) hg (a := a) (msg := msg) (rest := .ref a :: rest) hstack hd6
  cases Option.some.inj (hnC.symm.trans hP1m)
  have X₁ := X.noted hW₁
  obtain ⟨vm₂, X₂, st2⟩ := X₁.ctorMessageOffV hexec (g := { g with stack := .ref a :: rest }) hg hsize T L Z LZ M LM (P1 :: P2 :: Ps)
    (fun P hP => by
      rcases List.mem_cons.mp hP with rfl | hP
      · exact L1
      · rcases List.mem_cons.mp hP with rfl | hP
        · exact L2
        · exact hL P hP) ⟨hlink1, hlink2, hlink⟩ (u0 := u0) (sen := sen) (self := a) hmsg (cell := freshCell P1.m.cls kX) (cellS := cellS)
    hcell (fun _ => by simp) (by simp) rfl rfl hsel0 hselF hcellS hneS hknown (by rw [hkeep _ (hin _)]; exact hu0) (by rw [hkeep _ (hin _)]; exact hsen)
    (Takes.of_laid hk hord tyC (by rw [Yt.causeType]; rfl)) (Takes.of_laid hk hord tyS (by rw [Yt.stackType]; exact fits_refV_array _ u0)) (Takes.of_laid hk hord tyP (by rw [Yt.suppType]; exact fits_refV_object _ sen))
    (Takes.of_laid hk hord tyM (by rw [Yt.msgType]; exact fits_refV_object _ ⟨msg, hmsg⟩)) Yt.objLocals hskip htr [] hd6
    (by simp only [List.length_cons, hlen]; omega) (by simp only [List.length_cons, hlen]; exact hRl)
  obtain ⟨hwalk, hrun, hended, hWU, hsame⟩ := X₂.athrowLeaves hexec (g := { g with stack := .ref a :: rest, pc := g.pc + 3 }) hg hlocked hentered hout (a := a) (rest := rest) rfl hd9
  have hlt : a < ((W.setVm vm₁).setVm vm₂).heap.size := (Array.getElem?_eq_some_iff.mp hcell).1
  have hU := heapAt_setCell_self (s := (W.setVm vm₁).setVm vm₂) (plainBareV T.toThrowableT (freshCell P1.m.cls kX) a u0 sen msg) hlt
  refine ⟨_, st1 _ (fun acts => ?_), hrun, hended, hWU, hsame.weaken (fun y hy hlt' => ?_) (Nat.le_refl _) (Nat.le_refl _), _, hU, rfl, rfl⟩
  · rw [doInvoke_state]
    exact st2 _ hwalk
  · rcases List.mem_append.mp hy with h1 | h1
    · exact h1
    · exfalso
      have hb : y.base = a := by
        simp only [List.mem_cons, List.not_mem_nil, or_false] at h1
        rcases h1 with rfl | rfl | rfl | rfl | rfl <;> rfl
      rw [hb] at hlt'
      exact Nat.not_lt.mpr hnew hlt'
def vy_atS (own : String) (ic : Nat) (X Y : String) (ix : Nat) (rx : ByteArray) (r : List String) : List Cond := (vy_at own ic X Y ix rx r).filter vx_no
section VYG
variable {p : Program} {l : Launch} {e : Env} {R : Room} {s : State} {m : MethodId} {args : Array Value} {below : List Frame} {meth : Method} {c : Code} {H : Heap} {locs : List Loc} {cells slots : Nat}
variable {mc ms : Nat} {free : Addr → Prop} {ls : Array Slot} {rest : List Value}
variable {Qc : Array Value → State → Outcome → State → Prop} {XC : String → State → State → Prop}
/-- 'throw new E("text")' for such an exception, the text by a wide index (vx_throwSW with vy_ctor) -/
theorem vy_throwSW {cc : ByteArray} {pc : Nat} (hexec : p.tables.exec = Jvm.exec) (hb : c.code = cc) (hl : l.stackTraces = false) {own cls Y text : String} {r : List String} {ik is ic ix sa : Nat} {rx : ByteArray} {A : Nat → Prop}
    (x0 : decode rx 0 = .ok (.aload_n 0, 1)) (x1 : decode rx 1 = .ok (.aload_n 1, 1)) (x2 : decode rx 2 = .ok (.invokespecial ix, 3)) (x5 : decode rx 5 = .ok (.return_, 1))
    (hown : s.vm.findClass own = some m.cls) (hcls : Bundle.fit cls = true) (hY : Bundle.fit Y = true) (hr : ∀ n ∈ r, Bundle.fit n = true)
    (hk : (Cond.classLink own ik cls).before args s = true) (hini : (Cond.initialized cls).before args s = true) (hstr : vk_R own is text sa s) (hat : ∀ w ∈ vy_atS own ic cls Y ix rx r, w.before args s = true)
    (hgood : ∀ w ∈ Cond.classLink own ik cls :: Cond.initialized cls :: vy_atS own ic cls Y ix rx r, vx_ot w = true)
    (hU : vx_Zq Bundle.tN "UNASSIGNED_STACK" Bundle.steD A s s.heap) (hN : vx_Zq Bundle.tN "SUPPRESSED_SENTINEL" Bundle.listD A s s.heap) (hS : va_S A s.heap H locs) (hsize : ls.size = c.maxLocals)
    (d0 : decode cc pc = .ok (.new ik, 3)) (d3 : decode cc (pc + 3) = .ok (.dup, 1)) (d4 : decode cc (pc + 4) = .ok (.ldc_w is, 3)) (d7 : decode cc (pc + 7) = .ok (.invokespecial ic, 3)) (d10 : decode cc (pc + 10) = .ok (.athrow, 1))
    (hout : ∀ x ∈ c.exceptionTable.toList, covers x (pc + 10) = false)
    (hRf : r.length + 4 < R.frames) (hRl : (rest.map fun v => v.category).sum + (13 * (r.length + 2) + 43) ≤ R.locals) (hRcells : cells + 1 ≤ R.cells) (hRslots : slots + 6 ≤ R.slots) (hlocks : meth.locks = false)
    (hx : ∀ t : State, s.vm.Alike t.vm → H.size ≤ t.heap.size → (∀ q : Nat, q < H.size → t.heap[q]? = H[q]?) → XC cls s t)
    (hf : ∀ z ∈ locs, free z.base) (hc : cells + 1 ≤ mc) (hs : slots + 6 ≤ ms) :
    W p l e R s m args below meth c H locs cells slots (vx_MQ below Qc XC args s mc ms free) (F0 m pc ls rest) := by
  intro T hT X
  have htr : e.platform.stackTraces = false := (show e.platform.stackTraces = l.stackTraces by rw [X.admits.platform]).trans hl
  have Yy := vx_rebase X (R' := { frames := R.frames, locals := R.locals, cells := 1, slots := 6 }) (Nat.le_refl _) (Nat.le_refl _) hRcells hRslots
  obtain ⟨s', hA⟩ : ∃ z, z = (T.setVm s.vm).setFrames (.invoking m args :: below) := ⟨_, rfl⟩
  rw [← hA] at Yy
  have hvm : s'.vm = s.vm := by rw [hA]; rfl
  have hhp : s'.heap = H := by rw [hA]; exact hT
  have hW0 : s.WarmedH s'.vm := by rw [hvm]; exact State.WarmedH.refl s
  have hgo : ∀ {w : Cond}, w ∈ Cond.classLink own ik cls :: Cond.initialized cls :: vy_atS own ic cls Y ix rx r → w.before args s = true → w.before args s' = true := fun hw h9 => vx_ot_at hW0 hvm.symm (hgood _ hw) h9
  have hU' : vx_Zq Bundle.tN "UNASSIGNED_STACK" Bundle.steD A s' s'.heap := by rw [hhp]; exact vx_Zq.moved hW0.alike (hU.kept hS.2.1)
  have hN' : vx_Zq Bundle.tN "SUPPRESSED_SENTINEL" Bundle.listD A s' s'.heap := by rw [hhp]; exact vx_Zq.moved hW0.alike (hN.kept hS.2.1)
  have h : ∀ w ∈ vy_at own ic cls Y ix rx r, w.before args s' = true := vx_own (fun w hw => hgo (List.mem_cons_of_mem _ (List.mem_cons_of_mem _ hw)) (hat w hw)) (vx_isRefq hU'.1) (vx_isRefq hN'.1) hU'.2.word hN'.2.word
  have hown' : s'.vm.findClass own = some m.cls := by rw [hvm]; exact hown
  obtain ⟨vm₁, cX, kX, hfX, hkX, -, -, X₁, st1⟩ := Yy.newCold hexec (own := own) (C := cls) (index := ik) (n := 6) hown' (hgo List.mem_cons_self hk) (h _ (by simp [vy_at])) (hgo (List.mem_cons_of_mem _ List.mem_cons_self) hini)
    (g := F0 m pc ls rest) rfl (by rw [hb]; exact d0) (Nat.le_refl _) (Nat.le_refl _)
  generalize hT1 : (T.setVm vm₁).pushCell { cls := cX, slots := kX.instanceTypes.map defaultValue, vm := .none } = T1 at X₁ st1
  have hcat : (Value.ref T.heap.size).category = 1 := rfl
  have hcellA : T1.heap[T.heap.size]? = some (freshCell cX kX) := by rw [← hT1]; exact State.heap_pushCell_size _ _
  have d3' : decode c.code (pc + 3) = .ok (.dup, 1) := by rw [hb]; exact d3
  have d4' : decode c.code (pc + 4) = .ok (.ldc_w is, 3) := by rw [hb]; exact d4
  have hstr' : vk_R own is text sa s' := vk_R.warm hW0 hstr
  obtain ⟨U, hsteps, hrun, hend, hW, hsame, ce, hce, hO1, hO2⟩ := vy_ctor X₁ hexec htr x0 x1 x2 x5 hown' hcls hY hr h (fun x hx => nomatch hx) hfX hkX hcellA (by rw [hhp, hT]; exact Nat.le_refl _) (msg := .ref sa) rfl
    (g := { method := m, pc := pc + 7, locals := ls, stack := .ref sa :: .ref T.heap.size :: .ref T.heap.size :: rest, locked := none }) rfl hsize rfl rfl (rest := rest) rfl
    (by rw [hb]; exact d7) (by rw [hb]; exact d10) hout hRf (by simp only [List.map_cons, List.sum_cons, hcat]; omega) hlocks
  obtain ⟨f1, f2⟩ := vx_frame hsame
  rw [hhp] at f1 f2
  have hWs : s.WarmedH U.vm := State.WarmedH.trans hW0 hW
  have hcl : s.vm.findClass cls = some ce.cls := by
    rw [hvm] at hfX
    rw [hO1]; exact hfX
  have hall : s.sameButNew ({ U with vm := s.vm } : State) locs mc ms := by
    subst hA
    obtain ⟨e1, e2⟩ := hsame
    rw [State.setFrames_setFrames] at e1
    have h2 : (T.setVm s.vm).sameButNew ({ U with vm := s.vm } : State) [] (0 + 1) (0 + 6) := ⟨e1, e2⟩
    have h3 := X.same.trans h2
    rw [List.append_nil] at h3
    exact h3.mono hc hs
  refine ⟨U, ?_, .threw T.heap.size, hrun, hend, Or.inr ⟨T.heap.size, rfl, cls, ce, locs, hx U hWs.alike f1 (fun q hq => f2 q hq (fun z hz => nomatch hz)), hce, hO2, hcl, hWs, hall, hf⟩⟩
  refine st1 _ ?_
  show Steps p.tables e below (T1.setTop { method := m, pc := pc + 3, locals := ls, stack := .ref T.heap.size :: rest, locked := none }) _
  jvm_step X₁.here [X₁.here.top, hexec, d3', Value.category]
  exact X₁.ldcStringW hexec (own := own) (text := text) (index := is) (a := sa) hown' hstr'.1 hstr'.2
    (g := { method := m, pc := pc + 4, locals := ls, stack := .ref T.heap.size :: .ref T.heap.size :: rest, locked := none }) rfl d4' _ hsteps
end VYG
def vy_rx : ByteArray := ⟨#[0x2a, 0x2b, 0xb7, 0x00, 0x0d, 0xb1]⟩
set_option maxRecDepth 20000 in
theorem xt_NSE : ∀ x ∈ vy_atS "SkiPasses" 259 "java/util/NoSuchElementException" "java/lang/RuntimeException" 13 vy_rx ["java/lang/Exception"], x ∈ g_all ∨ x ∈ g_bads := by decide +kernel
set_option maxRecDepth 20000 in
theorem xg_NSE : ∀ x ∈ vy_atS "SkiPasses" 259 "java/util/NoSuchElementException" "java/lang/RuntimeException" 13 vy_rx ["java/lang/Exception"], vx_ot x = true := by decide +kernel

/-! ===== the throws of the class ===== -/
section GT
variable {E : gE} {d : Nat} {M : gM} {pc : Nat} {lv : List (Nat × Value)} {st : List Value} {w : gW} {im : gIm} {kc ks : Nat} {Q : gQ}
theorem g_throwW {X text : String} {names : List String} {ik is ic : Nat} (hx : M.2.2.2.2.1 = []) (hcls : Bundle.fit X = true) (hnames : ∀ n ∈ names, Bundle.fit n = true) (hlen : names.length ≤ 4)
    (hk : Cond.classLink M.1 ik X ∈ g_all) (hini : Cond.initialized X ∈ g_all) (hstr : (M.1, is, text) ∈ g_strs) (hat : ∀ x ∈ vx_atS M.1 ic X names, x ∈ g_all ∨ x ∈ g_bads) (hgood : ∀ x ∈ vx_atS M.1 ic X names, vx_ot x = true)
    (hcat : (st.map fun v => v.category).sum ≤ 8) (hk1 : 1 ≤ kc) (hk2 : 6 ≤ ks)
    (d0 : decode M.2.1 pc = .ok (.new ik, 3)) (d3 : decode M.2.1 (pc + 3) = .ok (.dup, 1)) (d4 : decode M.2.1 (pc + 4) = .ok (.ldc_w is, 3)) (d7 : decode M.2.1 (pc + 7) = .ok (.invokespecial ic, 3)) (d10 : decode M.2.1 (pc + 10) = .ok (.athrow, 1))
    (hQ : Q (.inr X) w im) : G E d M (pc) (lv) (st) (w) (im) (kc) (ks) Q := by
  intro p e R s m args below meth c H locs ls cells slots MC MS dd hdd hf hR hl hP hS hc hs
  obtain ⟨sa, hsa⟩ := hf.2.2.2.2.2.2.2.2.2.2.2.2.2.1 _ hstr
  have hb0 := hf.2.2.2.2.2.2.2.2.2.2.2.2.2.2.2.2.2.2.2.1
  have hr1 := hR.1
  have hr2 := hR.2.1
  have h13 : 13 * (names.length + 1) ≤ 65 := by omega
  refine vx_throwSW (names := names) (text := text) (sa := sa) hf.1 hf.2.1 (hf.2.2.2.2.2.2.2.2.2.2.2.2.2.2.2.2.2.2.2.2) hf.2.2.2.1 hcls hnames (hf.2.2.2.2.1 _ hk) (hf.2.2.2.2.1 _ hini) hsa (fun x hx9 => (hat x hx9).elim (hf.2.2.2.2.1 x) fun h => va_Nw.use (g_badT (List.mem_filter.mp h).2) (hf.2.2.2.2.2.2.2.2.2.2.2.2.2.2.2.1 x h)) (fun x hx9 => ?_) (hf.2.2.2.2.2.2.2.2.2.2.2.1) (hf.2.2.2.2.2.2.2.2.2.2.2.2.1) hS (by rw [hf.2.2.1]; exact hl.1) d0 d3 d4 d7 d10
    (by rw [hf.2.2.2.2.2.2.2.1, hx]; intro x hx9; simp [tableOf] at hx9) (by omega) (by omega) (by have := hR.2.2.1; omega) (by have := hR.2.2.2; omega) hf.2.2.2.2.2.2.1 (fun t _ hz hq => ⟨w, im, hQ, hP.kept hq, Nat.le_trans hS.1 hz, fun q h => (hq q (Nat.lt_of_lt_of_le h (Nat.le_trans hb0 hS.1))).trans ((g_frame hS hb0).2 q h)⟩) hS.2.2 (by omega) (by omega)
  rcases List.mem_cons.mp hx9 with rfl | hx9
  · rfl
  · rcases List.mem_cons.mp hx9 with rfl | hx9
    · rfl
    · exact hgood x hx9
theorem x_IAE {is : Nat} {text : String} (hk : Cond.classLink M.1 71 "java/lang/IllegalArgumentException" ∈ g_all) (hstr : (M.1, is, text) ∈ g_strs) (hx : M.2.2.2.2.1 = []) (hown : M.1 = "SkiPasses") (hcat : (st.map fun v => v.category).sum ≤ 8) (hk1 : 1 ≤ kc) (hk2 : 6 ≤ ks)
    (d0 : decode M.2.1 pc = .ok (.new 71, 3)) (d3 : decode M.2.1 (pc + 3) = .ok (.dup, 1)) (d4 : decode M.2.1 (pc + 4) = .ok (.ldc is, 2)) (d6 : decode M.2.1 (pc + 6) = .ok (.invokespecial 75, 3)) (d9 : decode M.2.1 (pc + 9) = .ok (.athrow, 1)) (hQ : Q (.inr "java/lang/IllegalArgumentException") w im) : G E d M pc lv st w im kc ks Q := g_throw (names := ["java/lang/RuntimeException", "java/lang/Exception"]) hx (by decide) (by decide) (by decide) hk xi_IAE hstr (by rw [hown]; exact xt_IAE) (by rw [hown]; exact xg_IAE) hcat hk1 hk2 d0 d3 d4 d6 d9 hQ
theorem x_ISE {is : Nat} {text : String} (hk : Cond.classLink M.1 81 "java/lang/IllegalStateException" ∈ g_all) (hstr : (M.1, is, text) ∈ g_strs) (hx : M.2.2.2.2.1 = []) (hown : M.1 = "SkiPasses") (hcat : (st.map fun v => v.category).sum ≤ 8) (hk1 : 1 ≤ kc) (hk2 : 6 ≤ ks)
    (d0 : decode M.2.1 pc = .ok (.new 81, 3)) (d3 : decode M.2.1 (pc + 3) = .ok (.dup, 1)) (d4 : decode M.2.1 (pc + 4) = .ok (.ldc is, 2)) (d6 : decode M.2.1 (pc + 6) = .ok (.invokespecial 85, 3)) (d9 : decode M.2.1 (pc + 9) = .ok (.athrow, 1)) (hQ : Q (.inr "java/lang/IllegalStateException") w im) : G E d M pc lv st w im kc ks Q := g_throw (names := ["java/lang/RuntimeException", "java/lang/Exception"]) hx (by decide) (by decide) (by decide) hk xi_ISE hstr (by rw [hown]; exact xt_ISE) (by rw [hown]; exact xg_ISE) hcat hk1 hk2 d0 d3 d4 d6 d9 hQ
theorem x_IOB {is : Nat} {text : String} (hk : Cond.classLink M.1 444 "java/lang/IndexOutOfBoundsException" ∈ g_all) (hstr : (M.1, is, text) ∈ g_strs) (hx : M.2.2.2.2.1 = []) (hown : M.1 = "SkiPasses") (hcat : (st.map fun v => v.category).sum ≤ 8) (hk1 : 1 ≤ kc) (hk2 : 6 ≤ ks)
    (d0 : decode M.2.1 pc = .ok (.new 444, 3)) (d3 : decode M.2.1 (pc + 3) = .ok (.dup, 1)) (d4 : decode M.2.1 (pc + 4) = .ok (.ldc is, 2)) (d6 : decode M.2.1 (pc + 6) = .ok (.invokespecial 448, 3)) (d9 : decode M.2.1 (pc + 9) = .ok (.athrow, 1)) (hQ : Q (.inr "java/lang/IndexOutOfBoundsException") w im) : G E d M pc lv st w im kc ks Q := g_throw (names := ["java/lang/RuntimeException", "java/lang/Exception"]) hx (by decide) (by decide) (by decide) hk xi_IOB hstr (by rw [hown]; exact xt_IOB) (by rw [hown]; exact xg_IOB) hcat hk1 hk2 d0 d3 d4 d6 d9 hQ
theorem x_UOE {is : Nat} {text : String} (hk : Cond.classLink M.1 237 "java/lang/UnsupportedOperationException" ∈ g_all) (hstr : (M.1, is, text) ∈ g_strs) (hx : M.2.2.2.2.1 = []) (hown : M.1 = "SkiPasses") (hcat : (st.map fun v => v.category).sum ≤ 8) (hk1 : 1 ≤ kc) (hk2 : 6 ≤ ks)
    (d0 : decode M.2.1 pc = .ok (.new 237, 3)) (d3 : decode M.2.1 (pc + 3) = .ok (.dup, 1)) (d4 : decode M.2.1 (pc + 4) = .ok (.ldc is, 2)) (d6 : decode M.2.1 (pc + 6) = .ok (.invokespecial 241, 3)) (d9 : decode M.2.1 (pc + 9) = .ok (.athrow, 1)) (hQ : Q (.inr "java/lang/UnsupportedOperationException") w im) : G E d M pc lv st w im kc ks Q := g_throw (names := ["java/lang/RuntimeException", "java/lang/Exception"]) hx (by decide) (by decide) (by decide) hk xi_UOE hstr (by rw [hown]; exact xt_UOE) (by rw [hown]; exact xg_UOE) hcat hk1 hk2 d0 d3 d4 d6 d9 hQ
theorem x_ARI {is : Nat} {text : String} (hk : Cond.classLink M.1 381 "java/lang/ArithmeticException" ∈ g_all) (hstr : (M.1, is, text) ∈ g_strs) (hx : M.2.2.2.2.1 = []) (hown : M.1 = "SkiPasses") (hcat : (st.map fun v => v.category).sum ≤ 8) (hk1 : 1 ≤ kc) (hk2 : 6 ≤ ks)
    (d0 : decode M.2.1 pc = .ok (.new 381, 3)) (d3 : decode M.2.1 (pc + 3) = .ok (.dup, 1)) (d4 : decode M.2.1 (pc + 4) = .ok (.ldc is, 2)) (d6 : decode M.2.1 (pc + 6) = .ok (.invokespecial 385, 3)) (d9 : decode M.2.1 (pc + 9) = .ok (.athrow, 1)) (hQ : Q (.inr "java/lang/ArithmeticException") w im) : G E d M pc lv st w im kc ks Q := g_throw (names := ["java/lang/RuntimeException", "java/lang/Exception"]) hx (by decide) (by decide) (by decide) hk xi_ARI hstr (by rw [hown]; exact xt_ARI) (by rw [hown]; exact xg_ARI) hcat hk1 hk2 d0 d3 d4 d6 d9 hQ
theorem x_IAEw {is : Nat} {text : String} (hk : Cond.classLink M.1 71 "java/lang/IllegalArgumentException" ∈ g_all) (hstr : (M.1, is, text) ∈ g_strs) (hx : M.2.2.2.2.1 = []) (hown : M.1 = "SkiPasses") (hcat : (st.map fun v => v.category).sum ≤ 8) (hk1 : 1 ≤ kc) (hk2 : 6 ≤ ks)
    (d0 : decode M.2.1 pc = .ok (.new 71, 3)) (d3 : decode M.2.1 (pc + 3) = .ok (.dup, 1)) (d4 : decode M.2.1 (pc + 4) = .ok (.ldc_w is, 3)) (d6 : decode M.2.1 (pc + 7) = .ok (.invokespecial 75, 3)) (d9 : decode M.2.1 (pc + 10) = .ok (.athrow, 1)) (hQ : Q (.inr "java/lang/IllegalArgumentException") w im) : G E d M pc lv st w im kc ks Q := g_throwW (names := ["java/lang/RuntimeException", "java/lang/Exception"]) hx (by decide) (by decide) (by decide) hk xi_IAE hstr (by rw [hown]; exact xt_IAE) (by rw [hown]; exact xg_IAE) hcat hk1 hk2 d0 d3 d4 d6 d9 hQ
theorem x_ISEw {is : Nat} {text : String} (hk : Cond.classLink M.1 81 "java/lang/IllegalStateException" ∈ g_all) (hstr : (M.1, is, text) ∈ g_strs) (hx : M.2.2.2.2.1 = []) (hown : M.1 = "SkiPasses") (hcat : (st.map fun v => v.category).sum ≤ 8) (hk1 : 1 ≤ kc) (hk2 : 6 ≤ ks)
    (d0 : decode M.2.1 pc = .ok (.new 81, 3)) (d3 : decode M.2.1 (pc + 3) = .ok (.dup, 1)) (d4 : decode M.2.1 (pc + 4) = .ok (.ldc_w is, 3)) (d6 : decode M.2.1 (pc + 7) = .ok (.invokespecial 85, 3)) (d9 : decode M.2.1 (pc + 10) = .ok (.athrow, 1)) (hQ : Q (.inr "java/lang/IllegalStateException") w im) : G E d M pc lv st w im kc ks Q := g_throwW (names := ["java/lang/RuntimeException", "java/lang/Exception"]) hx (by decide) (by decide) (by decide) hk xi_ISE hstr (by rw [hown]; exact xt_ISE) (by rw [hown]; exact xg_ISE) hcat hk1 hk2 d0 d3 d4 d6 d9 hQ
theorem x_IOBw {is : Nat} {text : String} (hk : Cond.classLink M.1 444 "java/lang/IndexOutOfBoundsException" ∈ g_all) (hstr : (M.1, is, text) ∈ g_strs) (hx : M.2.2.2.2.1 = []) (hown : M.1 = "SkiPasses") (hcat : (st.map fun v => v.category).sum ≤ 8) (hk1 : 1 ≤ kc) (hk2 : 6 ≤ ks)
    (d0 : decode M.2.1 pc = .ok (.new 444, 3)) (d3 : decode M.2.1 (pc + 3) = .ok (.dup, 1)) (d4 : decode M.2.1 (pc + 4) = .ok (.ldc_w is, 3)) (d6 : decode M.2.1 (pc + 7) = .ok (.invokespecial 448, 3)) (d9 : decode M.2.1 (pc + 10) = .ok (.athrow, 1)) (hQ : Q (.inr "java/lang/IndexOutOfBoundsException") w im) : G E d M pc lv st w im kc ks Q := g_throwW (names := ["java/lang/RuntimeException", "java/lang/Exception"]) hx (by decide) (by decide) (by decide) hk xi_IOB hstr (by rw [hown]; exact xt_IOB) (by rw [hown]; exact xg_IOB) hcat hk1 hk2 d0 d3 d4 d6 d9 hQ
theorem x_UOEw {is : Nat} {text : String} (hk : Cond.classLink M.1 237 "java/lang/UnsupportedOperationException" ∈ g_all) (hstr : (M.1, is, text) ∈ g_strs) (hx : M.2.2.2.2.1 = []) (hown : M.1 = "SkiPasses") (hcat : (st.map fun v => v.category).sum ≤ 8) (hk1 : 1 ≤ kc) (hk2 : 6 ≤ ks)
    (d0 : decode M.2.1 pc = .ok (.new 237, 3)) (d3 : decode M.2.1 (pc + 3) = .ok (.dup, 1)) (d4 : decode M.2.1 (pc + 4) = .ok (.ldc_w is, 3)) (d6 : decode M.2.1 (pc + 7) = .ok (.invokespecial 241, 3)) (d9 : decode M.2.1 (pc + 10) = .ok (.athrow, 1)) (hQ : Q (.inr "java/lang/UnsupportedOperationException") w im) : G E d M pc lv st w im kc ks Q := g_throwW (names := ["java/lang/RuntimeException", "java/lang/Exception"]) hx (by decide) (by decide) (by decide) hk xi_UOE hstr (by rw [hown]; exact xt_UOE) (by rw [hown]; exact xg_UOE) hcat hk1 hk2 d0 d3 d4 d6 d9 hQ
theorem x_ARIw {is : Nat} {text : String} (hk : Cond.classLink M.1 381 "java/lang/ArithmeticException" ∈ g_all) (hstr : (M.1, is, text) ∈ g_strs) (hx : M.2.2.2.2.1 = []) (hown : M.1 = "SkiPasses") (hcat : (st.map fun v => v.category).sum ≤ 8) (hk1 : 1 ≤ kc) (hk2 : 6 ≤ ks)
    (d0 : decode M.2.1 pc = .ok (.new 381, 3)) (d3 : decode M.2.1 (pc + 3) = .ok (.dup, 1)) (d4 : decode M.2.1 (pc + 4) = .ok (.ldc_w is, 3)) (d6 : decode M.2.1 (pc + 7) = .ok (.invokespecial 385, 3)) (d9 : decode M.2.1 (pc + 10) = .ok (.athrow, 1)) (hQ : Q (.inr "java/lang/ArithmeticException") w im) : G E d M pc lv st w im kc ks Q := g_throwW (names := ["java/lang/RuntimeException", "java/lang/Exception"]) hx (by decide) (by decide) (by decide) hk xi_ARI hstr (by rw [hown]; exact xt_ARI) (by rw [hown]; exact xg_ARI) hcat hk1 hk2 d0 d3 d4 d6 d9 hQ
theorem x_NSEw {is : Nat} {text : String} (hk : Cond.classLink M.1 255 "java/util/NoSuchElementException" ∈ g_all) (hstr : (M.1, is, text) ∈ g_strs) (hx : M.2.2.2.2.1 = []) (hown : M.1 = "SkiPasses") (hcat : (st.map fun v => v.category).sum ≤ 8) (hk1 : 1 ≤ kc) (hk2 : 6 ≤ ks)
    (d0 : decode M.2.1 pc = .ok (.new 255, 3)) (d3 : decode M.2.1 (pc + 3) = .ok (.dup, 1)) (d4 : decode M.2.1 (pc + 4) = .ok (.ldc_w is, 3)) (d6 : decode M.2.1 (pc + 7) = .ok (.invokespecial 259, 3)) (d9 : decode M.2.1 (pc + 10) = .ok (.athrow, 1)) (hQ : Q (.inr "java/util/NoSuchElementException") w im) : G E d M pc lv st w im kc ks Q := by
  intro p e R s m args below meth c H locs ls cells slots MC MS dd hdd hf hR hl hP hS hc hs
  obtain ⟨sa, hsa⟩ := hf.2.2.2.2.2.2.2.2.2.2.2.2.2.1 _ hstr
  have hb0 := hf.2.2.2.2.2.2.2.2.2.2.2.2.2.2.2.2.2.2.2.1
  have hr1 := hR.1
  have hr2 := hR.2.1
  refine vy_throwSW (rx := vy_rx) (ix := 13) (Y := "java/lang/RuntimeException") (r := ["java/lang/Exception"]) (text := text) (sa := sa) hf.1 hf.2.1 (hf.2.2.2.2.2.2.2.2.2.2.2.2.2.2.2.2.2.2.2.2) (by decide +kernel) (by decide +kernel) (by decide +kernel) (by decide +kernel) hf.2.2.2.1 (by decide) (by decide) (by decide) (hf.2.2.2.2.1 _ hk) (hf.2.2.2.2.1 _ xi_NSE) hsa (fun x hx9 => (xt_NSE x (by rw [hown] at hx9; exact hx9)).elim (hf.2.2.2.2.1 x) fun h => va_Nw.use (g_badT (List.mem_filter.mp h).2) (hf.2.2.2.2.2.2.2.2.2.2.2.2.2.2.2.1 x h)) (fun x hx9 => ?_) (hf.2.2.2.2.2.2.2.2.2.2.2.1) (hf.2.2.2.2.2.2.2.2.2.2.2.2.1) hS (by rw [hf.2.2.1]; exact hl.1) d0 d3 d4 d6 d9
    (by rw [hf.2.2.2.2.2.2.2.1, hx]; intro x hx9; simp [tableOf] at hx9) (by simp only [List.length_cons, List.length_nil]; omega) (by simp only [List.length_cons, List.length_nil]; omega) (by have := hR.2.2.1; omega) (by have := hR.2.2.2; omega) hf.2.2.2.2.2.2.1 (fun t _ hz hq => ⟨w, im, hQ, hP.kept hq, Nat.le_trans hS.1 hz, fun q h => (hq q (Nat.lt_of_lt_of_le h (Nat.le_trans hb0 hS.1))).trans ((g_frame hS hb0).2 q h)⟩) hS.2.2 (by omega) (by omega)
  rcases List.mem_cons.mp hx9 with rfl | hx9
  · rfl
  · rcases List.mem_cons.mp hx9 with rfl | hx9
    · rfl
    · exact xg_NSE x (by rw [hown] at hx9; exact hx9)
end GT
