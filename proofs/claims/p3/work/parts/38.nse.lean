/-! throws of NoSuchElementException: its constructor's call stands at place 13 of its pool, not at 7; so its first link is taken apart from the chain above it. -/
def tx_own (own : String) (ic : Nat) (X : String) (ix : Nat) (rx : ByteArray) (Y : String) (names : List String) : List Cond :=
  Bundle.throwableAtoms ++ Bundle.throwableSAtoms ++ (Bundle.passSAtoms X Y ix rx ++ Bundle.chainSAtoms Y names) ++
  [.methodLink own ic (Bundle.initS X), .instantiable X 6, .castable X X, .selects X Bundle.tFill0 Bundle.tFill0, .selects X Bundle.tFill Bundle.tFill,
   .lays X Bundle.tN "cause" "Ljava/lang/Throwable;", .lays X Bundle.tN "stackTrace" Bundle.steD, .lays X Bundle.tN "suppressedExceptions" Bundle.listD, .lays X Bundle.tN "detailMessage" "Ljava/lang/String;",
   .isRef (.static Bundle.tN "UNASSIGNED_STACK" Bundle.steD), .isRef (.static Bundle.tN "SUPPRESSED_SENTINEL" Bundle.listD),
   .fieldLink Bundle.tN 198 Bundle.tN "backtrace" "Ljava/lang/Object;", .lays Bundle.tN Bundle.tN "backtrace" "Ljava/lang/Object;", .lays X Bundle.tN "backtrace" "Ljava/lang/Object;"]
def tx_at (own : String) (ic : Nat) (X : String) (ix : Nat) (rx : ByteArray) (Y : String) (names : List String) : List Cond := (tx_own own ic X ix rx Y names).filter vx_no
section TXC
variable {p : Program} {l : Launch} {e : Env} {R : Room} {s : State} {m₀ : MethodId} {args : Array Value} {below : List Frame} {meth : Method} {c : Code} {W : State} {locs : List Loc} {cells slots : Nat}
/-- the constructors from the class up to Throwable: the first link by its own bytes, the others as the library has them -/
theorem tx_chain {pl : Platform} (hpl : pl.magicAccessors = ({} : Platform).magicAccessors) {top : MethodId} (htop : s.methodNamed? (Bundle.initS Bundle.tN) = some top) {cls sup : String} {names : List String} {ix : Nat} {rx : ByteArray}
    (x0 : decode rx 0 = .ok (.aload_n 0, 1)) (x1 : decode rx 1 = .ok (.aload_n 1, 1)) (x2 : decode rx 2 = .ok (.invokespecial ix, 3)) (x5 : decode rx 5 = .ok (.return_, 1)) (hcls : Bundle.fit cls = true) (hsup : Bundle.fit sup = true) (hnames : ∀ n ∈ names, Bundle.fit n = true)
    (hw : ∀ w ∈ Bundle.passSAtoms cls sup ix rx ++ Bundle.chainSAtoms sup names, w.before args s = true) :
    ∃ (P : PassC) (Q : List PassC), Q.length = names.length + 1 ∧ s.methodNamed? (Bundle.initS cls) = some P.m ∧ (∀ K, K ∈ P :: Q → K.LinksS pl s) ∧ PassesOn top ((P :: Q).map (·.toPassT)) := by
  obtain ⟨P, kP, nP, uP⟩ := PassC.ofS_atoms (args := args) (s := s) hpl (X := cls) (Y := sup) (Bundle.fit_spec hcls).1 (Bundle.fit_spec hsup).2 x0 x1 x2 x5 (fun w h => hw w (List.mem_append_left _ h))
  obtain ⟨P2, Q, eQ, kP2, kQ, nP2, uP2, oQ⟩ := Bundle.chainS (args := args) hpl htop names sup hsup hnames (fun w h => hw w (List.mem_append_right _ h))
  refine ⟨P, P2 :: Q, congrArg (· + 1) eQ, nP, fun K hK => ?_, Option.some.inj (uP.symm.trans nP2), uP2, oQ⟩
  rcases List.mem_cons.mp hK with h | hK
  · rw [h]; exact kP
  · rcases List.mem_cons.mp hK with h | hK
    · rw [h]; exact kP2
    · exact kQ K hK
/-- a method of Throwable that the class doesn't override -/
theorem tx_sel (X : Stand p l e R s m₀ args below meth c W locs cells slots) {C : String} {k : ClassId} (hf : s.vm.findClass C = some k) {t : MethodName} {i : MethodId} (hi : s.methodNamed? t = some i) (ht : t.cls ≠ "java/lang/invoke/MethodHandle" ∧ t.cls ≠ "java/lang/invoke/VarHandle")
    (hw : (Cond.selects C t t).before args s = true) : selectMethod e.platform s.vm k i = .method i := by
  rcases Cond.selects_spec (show (Cond.selects C t t).holds args s none s [] = true from hw) with ⟨k', r, n, f1, f2, f3, f4, -⟩
  have e1 : k' = k := Option.some.inj (f1.symm.trans hf)
  have e2 : r = i := Option.some.inj (f2.symm.trans (State.methodFound?_of_named hi ht))
  have e3 : n = i := Option.some.inj (f3.symm.trans hi)
  subst e1 e2 e3
  rw [Launch.admits_selectMethod X.admits]
  exact f4
/-- a cell of static fields is as it was -/
theorem tx_held (X : Stand p l e R s m₀ args below meth c W locs cells slots) (hlocs : ∀ x ∈ locs, ∀ cell, s.heap[x.base]? = some cell → cell.vm.isStatics = false) {b : Addr} {k0 : Cell} (h0 : s.heap[b]? = some k0) (hs : k0.vm.isStatics = true) :
    ∃ k1 : Cell, W.heap[b]? = some k1 ∧ k1.vm ≠ .unknown ∧ ∀ i : Nat, k1.slots[i]? = k0.slots[i]? := by
  obtain ⟨k1, g1, g2, -, g3⟩ := X.same.2.2.2.2.2 b k0 h0
  refine ⟨k1, g1, fun hu => ?_, fun i => g3 i (fun hm => ?_)⟩
  · rw [g2] at hu
    have hu0 : k0.vm = .unknown := hu
    rw [hu0] at hs
    cases hs
  · have h1 := hlocs _ hm k0 h0
    rw [hs] at h1
    cases h1
set_option maxHeartbeats 4000000 in
/-- the constructor called, and the object thrown -/
theorem tx_ctor (X : Stand p l e R s m₀ args below meth c W locs cells slots) (hexec : p.tables.exec = Jvm.exec) (htr : e.platform.stackTraces = false) {own cls sup : String} {names : List String} {ic ix : Nat} {rx : ByteArray}
    (x0 : decode rx 0 = .ok (.aload_n 0, 1)) (x1 : decode rx 1 = .ok (.aload_n 1, 1)) (x2 : decode rx 2 = .ok (.invokespecial ix, 3)) (x5 : decode rx 5 = .ok (.return_, 1))
    (hown : s.vm.findClass own = some m₀.cls) (hcls : Bundle.fit cls = true) (hsup : Bundle.fit sup = true) (hnames : ∀ n ∈ names, Bundle.fit n = true)
    (h : ∀ a ∈ tx_own own ic cls ix rx sup names, a.before args s = true)
    (hlocs : ∀ x ∈ locs, ∀ cell, s.heap[x.base]? = some cell → cell.vm.isStatics = false)
    {a : Addr} {cX : ClassId} {kX : Class} (hfoundX : s.vm.findClass cls = some cX) (hkX : s.vm.classes[cX]? = some kX) (hcell : W.heap[a]? = some (freshCell cX kX)) (hnew : s.heap.size ≤ a)
    {msg : Value} (hmsg : msg.isRef = true)
    {g : JFrame} (hg : g.method = m₀) (hsize : g.locals.size = c.maxLocals) (hlocked : g.locked = none) (hentered : g.entered = []) {rest : List Value} (hstack : g.stack = msg :: .ref a :: .ref a :: rest)
    (hd6 : decode c.code g.pc = .ok (.invokespecial ic, 3)) (hd9 : decode c.code (g.pc + 3) = .ok (.athrow, 1)) (hout : ∀ x ∈ c.exceptionTable.toList, covers x (g.pc + 3) = false)
    (hRframes : names.length + 4 < R.frames) (hRlocals : 2 * g.monitorRoom + ((Value.ref a :: rest).map fun v => v.category).sum + (13 * (names.length + 2) + 42) ≤ R.locals) (hlocks : meth.locks = false) :
    ∃ U : State, Steps p.tables e below (W.setTop g) U ∧ U.status = .running ∧ Ended U below (.threw a) ∧ s.WarmedH U.vm ∧ s.sameButNew ({ U with vm := s.vm } : State) locs cells slots ∧
      ∃ ce, U.heap[a]? = some ce ∧ s.vm.findClass cls = some ce.cls ∧ ce.vm = .none := by
  have pf : e.platform.frameOwnsMonitors = true ∧ e.platform.finalization = false ∧ e.platform.magicAccessors = ({} : Platform).magicAccessors := by rw [X.admits.platform]; exact ⟨rfl, rfl, rfl⟩
  -- what the words say: of Throwable, of its constructors, of the chain
  obtain ⟨T, Z0, L, -, Y⟩ := ThrowableC.of_atoms (args := args) pf.1 pf.2.1 pf.2.2 (fun w hw => h w (by simp [tx_own, hw]))
  obtain ⟨Z, M, LZ, LM, nZ⟩ := Init0T.ofS_atoms (args := args) pf.2.2 L Y (fun w hw => h w (by simp [tx_own, hw]))
  obtain ⟨P, Q, eQ, nP, kPQ, oPQ⟩ := tx_chain (args := args) pf.2.2 nZ x0 x1 x2 x5 hcls hsup hnames (fun w hw => h w (by unfold tx_own; exact List.mem_append_left _ (List.mem_append_right _ hw)))
  have fP : cX = P.m.cls := Option.some.inj (hfoundX.symm.trans (findClass_of_methodNamed nP))
  subst fP
  have hi : (Cond.instantiable cls 6).before args s = true := h _ (by simp [tx_own])
  obtain ⟨cI, kI, fI, gI, ordX, -, -, -⟩ := Cond.instantiable_spec (show (Cond.instantiable cls 6).holds args s none s [] = true from hi)
  have eI : cI = P.m.cls := Option.some.inj (fI.symm.trans hfoundX)
  subst eI
  have eK : kX = kI := Option.some.inj (hkX.symm.trans gI)
  subst eK
  -- the cell of Throwable's static fields
  obtain ⟨kS, atS, isS⟩ := Y.statics
  obtain ⟨w0, ew0⟩ := Cond.staticRefV Y.unassigned L.unassignedStatic L.statics atS isS (show (Cond.isRef (.static Bundle.tN "UNASSIGNED_STACK" Bundle.steD)).holds args s none s [] = true from h _ (by simp [tx_own]))
  obtain ⟨w1, ew1⟩ := Cond.staticRefV Y.sentinel L.sentinelStatic L.statics atS isS (show (Cond.isRef (.static Bundle.tN "SUPPRESSED_SENTINEL" Bundle.listD)).holds args s none s [] = true from h _ (by simp [tx_own]))
  obtain ⟨kS1, atS1, unS1, slS1⟩ := tx_held X hlocs atS isS
  -- the object's fields
  obtain ⟨nB, iB, fB, b1, b2, b3, b4, -, b5, b6, b7⟩ := Cond.ownField (t := .object "java/lang/Object") Y.found L.cls (by decide +kernel) (show (Cond.fieldLink Bundle.tN 198 Bundle.tN "backtrace" "Ljava/lang/Object;").holds args s none s [] = true from h _ (by simp [tx_own])) (show (Cond.lays Bundle.tN Bundle.tN "backtrace" "Ljava/lang/Object;").holds args s none s [] = true from h _ (by simp [tx_own])) e.platform pf.2.2
  obtain ⟨jM, fM⟩ := Y.msg
  obtain ⟨tB, dB, uB, vB⟩ := Cond.laysAt hfoundX gI b7 (show (Cond.lays cls Bundle.tN "backtrace" "Ljava/lang/Object;").holds args s none s [] = true from h _ (by simp [tx_own]))
  obtain ⟨tC, dC, uC, vC⟩ := Cond.laysAt hfoundX gI Y.cause (show (Cond.lays cls Bundle.tN "cause" "Ljava/lang/Throwable;").holds args s none s [] = true from h _ (by simp [tx_own]))
  obtain ⟨tS, dS, uS, vS⟩ := Cond.laysAt hfoundX gI Y.stack (show (Cond.lays cls Bundle.tN "stackTrace" Bundle.steD).holds args s none s [] = true from h _ (by simp [tx_own]))
  obtain ⟨tP, dP, uP, vP⟩ := Cond.laysAt hfoundX gI Y.supp (show (Cond.lays cls Bundle.tN "suppressedExceptions" Bundle.listD).holds args s none s [] = true from h _ (by simp [tx_own]))
  obtain ⟨tM, -, -, -⟩ := Cond.laysAt hfoundX gI fM (show (Cond.lays cls Bundle.tN "detailMessage" "Ljava/lang/String;").holds args s none s [] = true from h _ (by simp [tx_own]))
  have a1 := Cond.laysApart uB uC vB vC (by rw [b5, Y.causeName]; decide)
  have a2 := Cond.laysApart uB uS vB vS (by rw [b5, Y.stackName]; decide)
  have a3 := Cond.laysApart uB uP vB vP (by rw [b5, Y.suppName]; decide)
  have sk : SkipFacts T e.platform s (fun u => u) w0 ((preparedCellV T.toThrowableT (freshCell P.m.cls kX) a w0 w1).withEntry W.cur) := by
    refine ⟨{ ci198 := nB, i198 := iB, fBack := fB }, ⟨b1, b2, b3, b4⟩, ?_, fun _ _ => rfl⟩
    have fd := fresh_default (c := P.m.cls) tB
    rw [b6] at fd
    simpa [preparedCellV, Cell.setSlot, Cell.withEntry, Array.getElem?_setIfInBounds, a1, a2, a3, a1.symm, a2.symm, a3.symm, defaultValue] using fd
  -- the call
  obtain ⟨i1, -, -, -, vm1, n1, -, -, -, -, -, -, -, W1, go1⟩ := Steps.initColdS (tb := p.tables) (e := e) (below := below) (s := s) (U := W) X.here hexec X.warmed pf.2.2 hown (t := Bundle.initS cls) rfl rfl (Bundle.fit_spec hcls).2
    (h (.methodLink own ic (Bundle.initS cls)) (by simp [tx_own])) (h (.instanceMethod (Bundle.initS cls)) (by simp [tx_own, Bundle.passSAtoms])) (bytes := rx) (maxL := 2) (h (.code (Bundle.initS cls) rx 2 none) (by simp [tx_own, Bundle.passSAtoms]))
    (f := g) hg (a := a) (msg := msg) (rest := .ref a :: rest) hstack hd6
  have e1 : i1 = P.m := Option.some.inj (n1.symm.trans nP)
  subst e1
  obtain ⟨vm2, X2, go2⟩ := (X.noted W1).ctorMessageOffV hexec (g := { g with stack := .ref a :: rest }) hg hsize T L Z LZ M LM (P :: Q) kPQ oPQ (u0 := w0) (sen := w1) (self := a) hmsg (cell := freshCell P.m.cls kX) (cellS := kS1)
    hcell (fun _ => by simp) (by simp) rfl rfl (tx_sel X hfoundX Y.fill0 (by decide) (h (.selects cls Bundle.tFill0 Bundle.tFill0) (by simp [tx_own]))) (tx_sel X hfoundX Y.fill (by decide) (h (.selects cls Bundle.tFill Bundle.tFill) (by simp [tx_own])))
    atS1 (Nat.ne_of_lt (Nat.lt_of_lt_of_le (Array.getElem?_eq_some_iff.mp atS).1 hnew)) unS1 ((slS1 _).trans ew0) ((slS1 _).trans ew1)
    (Takes.of_laid gI ordX tC (by rw [Y.causeType]; rfl)) (Takes.of_laid gI ordX tS (by rw [Y.stackType]; exact fits_refV_array _ w0)) (Takes.of_laid gI ordX tP (by rw [Y.suppType]; exact fits_refV_object _ w1))
    (Takes.of_laid gI ordX tM (by rw [Y.msgType]; exact fits_refV_object _ ⟨msg, hmsg⟩)) Y.objLocals sk htr [] hd6 (by rw [List.length_cons, eQ]; omega) (by rw [List.length_cons, eQ]; exact hRlocals)
  -- the throw
  obtain ⟨go3, r3, n3, W3, q3⟩ := X2.athrowLeaves hexec (g := { g with stack := .ref a :: rest, pc := g.pc + 3 }) hg hlocked hentered hout (a := a) (rest := rest) rfl hd9
  have la : a < ((W.setVm vm1).setVm vm2).heap.size := (Array.getElem?_eq_some_iff.mp hcell).1
  refine ⟨_, go1 _ (fun acts => by rw [doInvoke_state]; exact go2 _ go3), r3, n3, W3, q3.weaken (fun y hy hlt => ?_) (Nat.le_refl _) (Nat.le_refl _), _, heapAt_setCell_self (s := (W.setVm vm1).setVm vm2) (plainBareV T.toThrowableT (freshCell P.m.cls kX) a w0 w1 msg) la, hfoundX, rfl⟩
  rcases List.mem_append.mp hy with q | q
  · exact q
  · have ya : y.base = a := by
      simp only [List.mem_cons, List.not_mem_nil, or_false] at q
      rcases q with q | q | q | q | q <;> rw [q]
    exact absurd hlt (by rw [ya]; exact Nat.not_lt.mpr hnew)

end TXC
section TXT
variable {p : Program} {l : Launch} {e : Env} {R : Room} {s : State} {m : MethodId} {args : Array Value} {below : List Frame} {meth : Method} {c : Code} {H : Heap} {locs : List Loc} {cells slots : Nat}
variable {free : Addr → Prop} {ls : Array Slot} {rest : List Value}
variable {Qc : Array Value → State → Outcome → State → Prop} {XC : String → State → State → Prop}
/-- 'throw new E("text")': new; dup; ldc; invokespecial; athrow -/
theorem tx_throw {cc : ByteArray} {pc : Nat} (hexec : p.tables.exec = Jvm.exec) (hb : c.code = cc) (hl : l.stackTraces = false) {own cls sup text : String} {names : List String} {ik is ic ix mc ms sa : Nat} {rx : ByteArray} (x0 : decode rx 0 = .ok (.aload_n 0, 1)) (x1 : decode rx 1 = .ok (.aload_n 1, 1)) (x2 : decode rx 2 = .ok (.invokespecial ix, 3)) (x5 : decode rx 5 = .ok (.return_, 1)) {A : Nat → Prop}
    (hown : s.vm.findClass own = some m.cls) (hcls : Bundle.fit cls = true) (hsup : Bundle.fit sup = true) (hnames : ∀ n ∈ names, Bundle.fit n = true)
    (hk : (Cond.classLink own ik cls).before args s = true) (hini : (Cond.initialized cls).before args s = true) (hstr : vk_R own is text sa s) (hat : ∀ w ∈ tx_at own ic cls ix rx sup names, w.before args s = true)
    (hgood : ∀ w ∈ Cond.classLink own ik cls :: Cond.initialized cls :: tx_at own ic cls ix rx sup names, vx_ot w = true)
    (hU : vx_Zq Bundle.tN "UNASSIGNED_STACK" Bundle.steD A s s.heap) (hN : vx_Zq Bundle.tN "SUPPRESSED_SENTINEL" Bundle.listD A s s.heap) (hS : va_S A s.heap H locs) (hsize : ls.size = c.maxLocals)
    (d0 : decode cc pc = .ok (.new ik, 3)) (d3 : decode cc (pc + 3) = .ok (.dup, 1)) (d4 : decode cc (pc + 4) = .ok (.ldc is, 2)) (d6 : decode cc (pc + 6) = .ok (.invokespecial ic, 3)) (d9 : decode cc (pc + 9) = .ok (.athrow, 1))
    (hout : ∀ x ∈ c.exceptionTable.toList, covers x (pc + 9) = false)
    (hRframes : names.length + 4 < R.frames) (hRlocals : (rest.map fun v => v.category).sum + (13 * (names.length + 2) + 43) ≤ R.locals) (hRcells : cells + 1 ≤ R.cells) (hRslots : slots + 6 ≤ R.slots) (hlocks : meth.locks = false)
    (hx : ∀ t : State, s.vm.Alike t.vm → H.size ≤ t.heap.size → (∀ q : Nat, q < H.size → t.heap[q]? = H[q]?) → XC cls s t)
    (hf : ∀ z ∈ locs, free z.base) (hc : cells + 1 ≤ mc) (hs : slots + 6 ≤ ms) :
    W p l e R s m args below meth c H locs cells slots (vx_MQ below Qc XC args s mc ms free) (F0 m pc ls rest) := by
  intro T hT X
  have htr : e.platform.stackTraces = false := (show e.platform.stackTraces = l.stackTraces by rw [X.admits.platform]).trans hl
  have Y := vx_rebase X (R' := { frames := R.frames, locals := R.locals, cells := 1, slots := 6 }) (Nat.le_refl _) (Nat.le_refl _) hRcells hRslots
  obtain ⟨s', hA⟩ : ∃ z, z = (T.setVm s.vm).setFrames (.invoking m args :: below) := ⟨_, rfl⟩
  rw [← hA] at Y
  have hvm : s'.vm = s.vm := by rw [hA]; rfl
  have hhp : s'.heap = H := by rw [hA]; exact hT
  have hW0 : s.WarmedH s'.vm := by rw [hvm]; exact State.WarmedH.refl s
  have hat' : ∀ w ∈ tx_at own ic cls ix rx sup names, w.before args s' = true := fun w hw => vx_ot_at hW0 hvm.symm (hgood w (List.mem_cons_of_mem _ (List.mem_cons_of_mem _ hw))) (hat w hw)
  have hk' : (Cond.classLink own ik cls).before args s' = true := vx_ot_at hW0 hvm.symm (hgood _ List.mem_cons_self) hk
  have hini' : (Cond.initialized cls).before args s' = true := vx_ot_at hW0 hvm.symm (hgood _ (List.mem_cons_of_mem _ List.mem_cons_self)) hini
  have hU' : vx_Zq Bundle.tN "UNASSIGNED_STACK" Bundle.steD A s' s'.heap := by rw [hhp]; exact vx_Zq.moved hW0.alike (hU.kept hS.2.1)
  have hN' : vx_Zq Bundle.tN "SUPPRESSED_SENTINEL" Bundle.listD A s' s'.heap := by rw [hhp]; exact vx_Zq.moved hW0.alike (hN.kept hS.2.1)
  have h : ∀ w ∈ tx_own own ic cls ix rx sup names, w.before args s' = true := vx_own hat' (vx_isRefq hU'.1) (vx_isRefq hN'.1) hU'.2.word hN'.2.word
  have hown' : s'.vm.findClass own = some m.cls := by rw [hvm]; exact hown
  have hins : (Cond.instantiable cls 6).before args s' = true := h _ (by simp [tx_own])
  obtain ⟨vm₁, cX, kX, hfX, hkX, -, -, X₁, st1⟩ := Y.newCold hexec (own := own) (C := cls) (index := ik) (n := 6) hown' hk' hins hini'
    (g := F0 m pc ls rest) rfl (by rw [hb]; exact d0) (Nat.le_refl _) (Nat.le_refl _)
  generalize hT1 : (T.setVm vm₁).pushCell { cls := cX, slots := kX.instanceTypes.map defaultValue, vm := .none } = T1 at X₁ st1
  have hcat : (Value.ref T.heap.size).category = 1 := rfl
  have hcellA : T1.heap[T.heap.size]? = some (freshCell cX kX) := by rw [← hT1]; exact State.heap_pushCell_size _ _
  have d3' : decode c.code (pc + 3) = .ok (.dup, 1) := by rw [hb]; exact d3
  have d4' : decode c.code (pc + 4) = .ok (.ldc is, 2) := by rw [hb]; exact d4
  have hstr' : vk_R own is text sa s' := vk_R.warm hW0 hstr
  obtain ⟨U, hsteps, hrun, hend, hW, hsame, ce, hce, hOc, hOv⟩ := tx_ctor X₁ hexec htr x0 x1 x2 x5 (own := own) (cls := cls) (sup := sup) (names := names) (ic := ic) hown' hcls hsup hnames h (fun x hx => nomatch hx) hfX hkX hcellA (by rw [hhp, hT]; exact Nat.le_refl _) (msg := .ref sa) rfl
    (g := { method := m, pc := pc + 6, locals := ls, stack := .ref sa :: .ref T.heap.size :: .ref T.heap.size :: rest, locked := none }) rfl hsize rfl rfl (rest := rest) rfl
    (by rw [hb]; exact d6) (by rw [hb]; exact d9) hout hRframes (by simp only [List.map_cons, List.sum_cons, hcat]; omega) hlocks
  obtain ⟨f1, f2⟩ := vx_frame hsame
  rw [hhp] at f1 f2
  have hWs : s.WarmedH U.vm := State.WarmedH.trans hW0 hW
  have hcl : s.vm.findClass cls = some ce.cls := by
    have h9 := hOc
    rw [hvm] at h9
    exact h9
  have hall : s.sameButNew ({ U with vm := s.vm } : State) locs mc ms := by
    subst hA
    obtain ⟨e1, e2⟩ := hsame
    rw [State.setFrames_setFrames] at e1
    have h2 : (T.setVm s.vm).sameButNew ({ U with vm := s.vm } : State) [] (0 + 1) (0 + 6) := ⟨e1, e2⟩
    have h3 := X.same.trans h2
    rw [List.append_nil] at h3
    exact h3.mono hc hs
  refine ⟨U, ?_, .threw T.heap.size, hrun, hend, Or.inr ⟨T.heap.size, rfl, cls, ce, locs, hx U hWs.alike f1 (fun q hq => f2 q hq (fun z hz => nomatch hz)), hce, hOv, hcl, hWs, hall, hf⟩⟩
  refine st1 _ ?_
  show Steps p.tables e below (T1.setTop { method := m, pc := pc + 3, locals := ls, stack := .ref T.heap.size :: rest, locked := none }) _
  jvm_step X₁.here [X₁.here.top, hexec, d3', Value.category]
  exact X₁.ldcString hexec (own := own) (text := text) (index := is) (a := sa) hown' hstr'.1 hstr'.2
    (g := { method := m, pc := pc + 4, locals := ls, stack := .ref T.heap.size :: .ref T.heap.size :: rest, locked := none }) rfl d4' _ hsteps

end TXT
