/-! ===== throws of the class's public methods ===== -/
abbrev sIAE : String := "java/lang/IllegalArgumentException"
abbrev sISE : String := "java/lang/IllegalStateException"
abbrev sUOE : String := "java/lang/UnsupportedOperationException"
abbrev sNSE : String := "java/util/NoSuchElementException"
abbrev sNM : List String := ["java/lang/RuntimeException", "java/lang/Exception"]
/-- what a throw wants of what lies outside -/
def OX (tb : Nat) : OT := fun A U H => OB tb A U H ∧ (vx_Zq Bundle.tN "UNASSIGNED_STACK" Bundle.steD A U H ∧ vx_Zq Bundle.tN "SUPPRESSED_SENTINEL" Bundle.listD A U H) ∧
  (va_Nw (.castable sIAE sIAE) U ∧ va_Nw (.castable sISE sISE) U ∧ va_Nw (.castable sUOE sUOE) U ∧ va_Nw (.castable sNSE sNSE) U ∧ va_Nc sISE sIAE U) ∧ (va_Nw (.declares (Bundle.initS "java/lang/RuntimeException")) U ∧ va_Nw (.declares (Bundle.initS "java/lang/Exception")) U ∧ va_Nw (.declares (Bundle.initS Bundle.tN)) U) ∧
  ((∃ a, vk_R RX8 52 "n is not 1 .. 8" a U) ∧ (∃ a, vk_R RX8 63 "the file would have more than 600 bytes" a U) ∧ (∃ a, vk_R RX8 74 "n is not 0 .. the number of bytes" a U) ∧ (∃ a, vk_R RX8 89 "the file is not right" a U) ∧ (∃ a, vk_R RX8 98 "no such page or part of it" a U) ∧ (∃ a, vk_R RX8 115 "no such item or part of it" a U))
theorem okX (tb : Nat) : Ok (OX tb) := by
  refine ⟨?_, ?_, ?_⟩
  · intro A u U H hW h
    obtain ⟨h0, ⟨h1, h2⟩, ⟨c1, c2, c3, c4, c5⟩, ⟨d1, d2, d3⟩, ⟨a1, s1⟩, ⟨a2, s2⟩, ⟨a3, s3⟩, ⟨a4, s4⟩, ⟨a5, s5⟩, ⟨a6, s6⟩⟩ := h
    exact ⟨(okB tb).1 _ _ _ _ hW h0, ⟨vx_Zq.moved hW.alike h1, vx_Zq.moved hW.alike h2⟩, ⟨va_Nw.warmC hW c1, va_Nw.warmC hW c2, va_Nw.warmC hW c3, va_Nw.warmC hW c4, va_Nc.moved hW.alike c5⟩, ⟨va_Nw.warmD hW d1, va_Nw.warmD hW d2, va_Nw.warmD hW d3⟩, ⟨a1, s1.warm hW⟩, ⟨a2, s2.warm hW⟩, ⟨a3, s3.warm hW⟩, ⟨a4, s4.warm hW⟩, ⟨a5, s5.warm hW⟩, ⟨a6, s6.warm hW⟩⟩
  · intro A U H H1 h hq
    exact ⟨(okB tb).2.1 _ _ _ _ h.1 hq, ⟨vx_Zq.kept h.2.1.1 hq, vx_Zq.kept h.2.1.2 hq⟩, h.2.2⟩
  · intro A B U H h hAB
    exact ⟨(okB tb).2.2 _ _ _ _ h.1 hAB, ⟨vx_Zq.narrow h.2.1.1 hAB, vx_Zq.narrow h.2.1.2 hAB⟩, h.2.2⟩
abbrev CxI (l : Launch) (y : MethodName) (ws : List Cond) (rm : Room) (G : va_G) (tys : List (ClassId × FieldType)) (O : OT) (av : List Value) (WS : va_W) (sz : Nat) {S SX : Type} (post : Int32 → S → Prop) (W1 : S → va_W) (pe : String → SX → Prop) (Wx : SX → va_W) (mc ms : Nat) : Prop :=
  vx_Met l y ws rm (va_Pc av (PC G tys O WS sz)) (va_Qi post (fun u t => PQ G tys (va_A WS sz) (W1 u) t) (va_A WS sz)) (vx_X (fun _ : SX => True) (fun E u t => pe E u ∧ PQ G tys (va_A WS sz) (Wx u) t) (va_A WS sz)) mc ms (va_A WS sz)
section TH
variable {p : Program} {l : Launch} {e : Env} {R : Room} {s : State} {m : MethodId} {args : Array Value} {below : List Frame} {meth : Method} {c : Code} {H : Heap} {locs : List Loc} {cells slots : Nat} {Q : State → Prop}
variable {G : va_G} {tys : List (ClassId × FieldType)} {ws wc wr : va_W} {A : Nat → Prop} {pc : Nat} {ls : Array Slot} {rest st0 : List Value} {mc ms : Nat} {a : Array Value}
theorem thr {cc : ByteArray} {SX : Type} {Qc : Array Value → State → Outcome → State → Prop} {pe : String → SX → Prop} {Wx : SX → va_W} (hexec : p.tables.exec = Jvm.exec) (hb : c.code = cc) (hl : l.stackTraces = false) {cls text : String} {ik is ic sa : Nat}
    (hown : s.vm.findClass RX8 = some m.cls) (hcls : Bundle.fit cls = true) (hk : (Cond.classLink RX8 ik cls).before args s = true) (hini : (Cond.initialized cls).before args s = true) (hstr : vk_R RX8 is text sa s)
    (h1 : ∀ w ∈ (vx_atS RX8 ic cls sNM).filter goodWord, w.before args s = true) (h2 : ∀ w ∈ (vx_atS RX8 ic cls sNM).filter (fun w => !goodWord w), w ∈ [Cond.castable cls cls, Cond.declares (Bundle.initS "java/lang/RuntimeException"), Cond.declares (Bundle.initS "java/lang/Exception"), Cond.declares (Bundle.initS Bundle.tN)]) (hcast : va_Nw (.castable cls cls) s) (hd1 : va_Nw (.declares (Bundle.initS "java/lang/RuntimeException")) s) (hd2 : va_Nw (.declares (Bundle.initS "java/lang/Exception")) s) (hd3 : va_Nw (.declares (Bundle.initS Bundle.tN)) s)
    (hgood : ∀ w ∈ Cond.classLink RX8 ik cls :: Cond.initialized cls :: vx_atS RX8 ic cls sNM, vx_ot w = true)
    (hU : vx_Zq Bundle.tN "UNASSIGNED_STACK" Bundle.steD A s s.heap) (hN : vx_Zq Bundle.tN "SUPPRESSED_SENTINEL" Bundle.listD A s s.heap)
    (hS : va_S A s.heap H locs) (hsize : ls.size = c.maxLocals) (d0 : decode cc pc = .ok (.new ik, 3)) (d3 : decode cc (pc + 3) = .ok (.dup, 1)) (d4 : decode cc (pc + 4) = .ok (.ldc is, 2)) (d6 : decode cc (pc + 6) = .ok (.invokespecial ic, 3)) (d9 : decode cc (pc + 9) = .ok (.athrow, 1))
    (hout : ∀ x ∈ c.exceptionTable.toList, covers x (pc + 9) = false) (hRf : 5 < R.frames) (hRl : 82 ≤ R.locals) (hRc : cells + 1 ≤ R.cells) (hRs : slots + 6 ≤ R.slots) (hlocks : meth.locks = false)
    (hK : va_K G vwCl tys s) (hP : va_P G vwCl ws H) (hD : va_D A ws) (is2 : List Nat) (u : SX) (hs : is2.map (fun i => ws[i]?) = (Wx u).map some) (hnd : va_nd is2 = true) (hpe : pe cls u) (hc : cells + 1 ≤ mc) (hs2 : slots + 6 ≤ ms) :
    W p l e R s m args below meth c H locs cells slots (vx_MQ below Qc (vx_X (fun _ : SX => True) (fun E u t => pe E u ∧ PQ G tys A (Wx u) t) A) args s mc ms A) (F0 m pc ls []) := by
  refine vx_throwS (names := sNM) (mc := mc) (ms := ms) (rest := []) hexec hb hl hown hcls (by decide) hk hini hstr (vx_hat h1 h2 (vx_c (va_Nw.use rfl hcast) (vx_c (va_Nw.use rfl hd1) (vx_c (va_Nw.use rfl hd2) (vx_c (va_Nw.use rfl hd3) vx_n))))) hgood hU hN hS hsize d0 d3 d4 d6 d9 hout hRf hRl hRc hRs hlocks (fun t ht hz hq => ?_) hS.2.2 hc hs2
  refine ⟨u, trivial, ⟨hpe, ?_, va_K.moved ht hK, hD.sub is2 hnd hs⟩, Nat.le_trans hS.1 hz, fun q h0 hA => (hq q (Nat.lt_of_lt_of_le h0 hS.1)).trans (hS.2.1 q h0 hA)⟩
  have hPt : va_P G vwCl ws t.heap := hP.kept (fun k x hx => hq x.1 (hP k x hx).lt)
  exact hPt.sub is2 (fm_of hs)
theorem jX {S SX : Type} {post : Int32 → S → Prop} {W1 : S → va_W} {pe : String → SX → Prop} {Wx : SX → va_W} (hr : vx_Run p l e R s m args below meth c H locs cells slots mc ms (F0 m pc ls st0) rest (va_Qi post (fun u t => PQ G tys (va_A wc H.size) (W1 u) t) (va_A wc H.size) a) (vx_X (fun _ : SX => True) (fun E u t => pe E u ∧ PQ G tys (va_A wc H.size) (Wx u) t) (va_A wc H.size)) (va_A wc H.size))
    (hP : va_P G vwCl ws H) (hD : va_D A ws) (hS : va_S A s.heap H locs) (hA : ∀ q, s.heap.size ≤ q → A q) (isC isR : List Nat) (hC : isC.map (fun i => ws[i]?) = wc.map some) (hR : isR.map (fun i => ws[i]?) = wr.map some) (hn : va_nd isR = true) (hdis : ∀ i ∈ isR, i ∉ isC)
    (kx : ∀ (E : String) (ce : Cell) (q9 : Addr) (u : SX) (H1 : Heap) (locs1 : List Loc), pe E u → va_P G vwCl (wr ++ Wx u) H1 → va_D A (wr ++ Wx u) → va_S A s.heap H1 locs1 → H1[q9]? = some ce → ce.vm = .none → s.vm.findClass E = some ce.cls → vx_W p l e R s m args below meth c H1 locs1 (cells + mc) (slots + ms) Q (F0 m pc ls rest) q9)
    (kk : ∀ (r : Int32) (u : S) (H1 : Heap) (locs1 : List Loc), post r u → va_P G vwCl (wr ++ W1 u) H1 → va_D A (wr ++ W1 u) → va_S A s.heap H1 locs1 → W p l e R s m args below meth c H1 locs1 (cells + mc) (slots + ms) Q (F0 m (pc + 3) ls (.int r :: rest))) : W p l e R s m args below meth c H locs cells slots Q (F0 m pc ls st0) := by
  have hF := va_free hD hS hA isC hC
  refine vx_calli hr hS (fun q _ h => hF q h) hF (fun q _ h => hF q h) (fun E ce q9 u t H1 locs ht hvm _ hB hz1 hk1 hS1 hce hcv hcl => ?_) (fun r u t H1 locs ht hvm hw hB hz1 hk1 hS1 => ?_)
  · obtain ⟨hpe, hP1, hK1, hD1⟩ := hB
    rw [ht] at hP1
    obtain ⟨hP2, hD2⟩ := va_join hP hD isC isR hC hR hn hdis hk1 hF hP1 hD1
    exact kx E ce q9 u H1 locs hpe hP2 hD2 hS1 hce hcv hcl
  · obtain ⟨hP1, hK1, hD1⟩ := hB
    rw [ht] at hP1
    obtain ⟨hP2, hD2⟩ := va_join hP hD isC isR hC hR hn hdis hk1 hF hP1 hD1
    exact kk r u H1 locs hw hP2 hD2 hS1
end TH
