abbrev tx_atN : List Cond := tx_at RX8 100 "java/util/NoSuchElementException" 13 prog_21_method_4_code "java/lang/RuntimeException" ["java/lang/Exception"]
def wsX8_page2 : List Cond := .code yX8_page cX8_page 3 (some .int) :: ((wsX8_page_r1 ++ wsX8_page_r2) ++ wsX80 ++ wsX30 ++ tx_atN.filter goodWord)
def wsX8_item2 : List Cond := .code yX8_item cX8_item 4 (some .int) :: ((wsX8_item_r1 ++ wsX8_item_r2) ++ wsX80 ++ wsX30 ++ wsX40 ++ tx_atN.filter goodWord)
def wsL_page2 : List Cond := .codeWith yL_page cL_page 5 (some .int) [(0, 10, 13, 31)] :: ((wsL_page_r1 ++ wsL_page_r2) ++ wsX80 ++ wsX30 ++ tx_atN.filter goodWord)
def wsL_item2 : List Cond := .codeWith yL_item cL_item 6 (some .int) [(0, 12, 15, 31)] :: ((wsL_item_r1 ++ wsL_item_r2) ++ wsX80 ++ wsX30 ++ wsX40 ++ tx_atN.filter goodWord)
def wsL_law2 : List Cond := wsL_law0 ++ (vx_atS RX8 54 "java/lang/IllegalArgumentException" ["java/lang/RuntimeException", "java/lang/Exception"]).filter goodWord ++ (vx_atS RX8 65 "java/lang/IllegalStateException" ["java/lang/RuntimeException", "java/lang/Exception"]).filter goodWord ++ (vx_atS RX8 91 "java/lang/UnsupportedOperationException" ["java/lang/RuntimeException", "java/lang/Exception"]).filter goodWord ++ tx_atN.filter goodWord
set_option maxRecDepth 20000 in
theorem ggX8_page2_X3_has : GoodIn wsX8_page2 wsX3_has := goodIn_r _ [8, 9, 32, 33, 34, 35, 36, 37, 38] (by decide +kernel) (by decide +kernel)
set_option maxRecDepth 20000 in
theorem gX8_page2_X3_has : GoodIn wsX8_page2 (wsV RX8 93 RX3 yX3_has wsX3_has) := goodIn_app (goodIn_of _ (by decide +kernel)) ggX8_page2_X3_has
set_option maxRecDepth 20000 in
theorem ggX8_page2_X3_numberOf : GoodIn wsX8_page2 wsX3_numberOf := goodIn_r _ [13, 14, 15, 5, 6, 7, 8, 9, 32, 33, 34, 35, 36, 37, 38] (by decide +kernel) (by decide +kernel)
set_option maxRecDepth 20000 in
theorem gX8_page2_X3_numberOf : GoodIn wsX8_page2 (wsV RX8 101 RX3 yX3_numberOf wsX3_numberOf) := goodIn_app (goodIn_of _ (by decide +kernel)) ggX8_page2_X3_numberOf
set_option maxRecDepth 20000 in
theorem ggX8_page2_X3_itemsOf : GoodIn wsX8_page2 wsX3_itemsOf := goodIn_r _ [19, 20, 15, 5, 6, 7, 8, 9, 32, 33, 34, 35, 36, 37, 38] (by decide +kernel) (by decide +kernel)
set_option maxRecDepth 20000 in
theorem gX8_page2_X3_itemsOf : GoodIn wsX8_page2 (wsV RX8 105 RX3 yX3_itemsOf wsX3_itemsOf) := goodIn_app (goodIn_of _ (by decide +kernel)) ggX8_page2_X3_itemsOf
set_option maxRecDepth 20000 in
theorem ggX8_page2_X3_addressOf : GoodIn wsX8_page2 wsX3_addressOf := goodIn_r _ [24, 25, 15, 5, 6, 7, 8, 9, 32, 33, 34, 35, 36, 37, 38] (by decide +kernel) (by decide +kernel)
set_option maxRecDepth 20000 in
theorem gX8_page2_X3_addressOf : GoodIn wsX8_page2 (wsV RX8 108 RX3 yX3_addressOf wsX3_addressOf) := goodIn_app (goodIn_of _ (by decide +kernel)) ggX8_page2_X3_addressOf
set_option maxRecDepth 20000 in
theorem ggX8_item2_X3_hasItem : GoodIn wsX8_item2 wsX3_hasItem := goodIn_r _ [9, 10, 11, 12, 13, 8, 14, 15, 35, 36, 37, 38, 39, 40, 41] (by decide +kernel) (by decide +kernel)
set_option maxRecDepth 20000 in
theorem gX8_item2_X3_hasItem : GoodIn wsX8_item2 (wsV RX8 111 RX3 yX3_hasItem wsX3_hasItem) := goodIn_app (goodIn_of _ (by decide +kernel)) ggX8_item2_X3_hasItem
set_option maxRecDepth 20000 in
theorem ggX8_item2_X3_partOf : GoodIn wsX8_item2 wsX3_partOf := goodIn_r _ [19, 20, 21, 22, 6, 7, 8, 9, 10, 11, 12, 13, 14, 15, 35, 36, 37, 38, 39, 40, 41] (by decide +kernel) (by decide +kernel)
set_option maxRecDepth 20000 in
theorem gX8_item2_X3_partOf : GoodIn wsX8_item2 (wsV RX8 117 RX3 yX3_partOf wsX3_partOf) := goodIn_app (goodIn_of _ (by decide +kernel)) ggX8_item2_X3_partOf
set_option maxRecDepth 20000 in
theorem ggX8_item2_X4_roundedUp : GoodIn wsX8_item2 wsX4_roundedUp := goodIn_r _ [27, 28, 42] (by decide +kernel) (by decide +kernel)
set_option maxRecDepth 20000 in
theorem gX8_item2_X4_roundedUp : GoodIn wsX8_item2 (wsV RX8 121 RX4 yX4_roundedUp wsX4_roundedUp) := goodIn_app (goodIn_of _ (by decide +kernel)) ggX8_item2_X4_roundedUp
section THN
variable {p : Program} {l : Launch} {e : Env} {R : Room} {s : State} {m : MethodId} {args : Array Value} {below : List Frame} {meth : Method} {c : Code} {H : Heap} {locs : List Loc} {cells slots : Nat} {Q : State → Prop}
variable {G : va_G} {tys : List (ClassId × FieldType)} {ws wc wr : va_W} {A : Nat → Prop} {pc : Nat} {ls : Array Slot} {rest st0 : List Value} {mc ms : Nat} {a : Array Value}
theorem thrN {cc : ByteArray} {SX : Type} {Qc : Array Value → State → Outcome → State → Prop} {pe : String → SX → Prop} {Wx : SX → va_W} (hexec : p.tables.exec = Jvm.exec) (hb : c.code = cc) (hl : l.stackTraces = false) {text : String} {is sa : Nat}
    (hown : s.vm.findClass RX8 = some m.cls) (hk : (Cond.classLink RX8 96 sNSE).before args s = true) (hini : (Cond.initialized sNSE).before args s = true) (hstr : vk_R RX8 is text sa s)
    (h1 : ∀ w ∈ tx_atN.filter goodWord, w.before args s = true) (hcast : va_Nw (.castable sNSE sNSE) s) (hd1 : va_Nw (.declares (Bundle.initS "java/lang/RuntimeException")) s) (hd2 : va_Nw (.declares (Bundle.initS "java/lang/Exception")) s) (hd3 : va_Nw (.declares (Bundle.initS Bundle.tN)) s)
    (hU : vx_Zq Bundle.tN "UNASSIGNED_STACK" Bundle.steD A s s.heap) (hN : vx_Zq Bundle.tN "SUPPRESSED_SENTINEL" Bundle.listD A s s.heap)
    (hS : va_S A s.heap H locs) (hsize : ls.size = c.maxLocals) (d0 : decode cc pc = .ok (.new 96, 3)) (d3 : decode cc (pc + 3) = .ok (.dup, 1)) (d4 : decode cc (pc + 4) = .ok (.ldc is, 2)) (d6 : decode cc (pc + 6) = .ok (.invokespecial 100, 3)) (d9 : decode cc (pc + 9) = .ok (.athrow, 1))
    (hout : ∀ x ∈ c.exceptionTable.toList, covers x (pc + 9) = false) (hRf : 5 < R.frames) (hRl : 82 ≤ R.locals) (hRc : cells + 1 ≤ R.cells) (hRs : slots + 6 ≤ R.slots) (hlocks : meth.locks = false)
    (hK : va_K G vwCl tys s) (hP : va_P G vwCl ws H) (hD : va_D A ws) (is2 : List Nat) (u : SX) (hs : is2.map (fun i => ws[i]?) = (Wx u).map some) (hnd : va_nd is2 = true) (hpe : pe sNSE u) (hc : cells + 1 ≤ mc) (hs2 : slots + 6 ≤ ms) :
    W p l e R s m args below meth c H locs cells slots (vx_MQ below Qc (vx_X (fun _ : SX => True) (fun E u t => pe E u ∧ PQ G tys A (Wx u) t) A) args s mc ms A) (F0 m pc ls []) := by
  refine tx_throw (sup := "java/lang/RuntimeException") (names := ["java/lang/Exception"]) (ix := 13) (rx := prog_21_method_4_code) (mc := mc) (ms := ms) (rest := []) hexec hb hl (by decide +kernel) (by decide +kernel) (by decide +kernel) (by decide +kernel) hown (by decide) (by decide) (by decide) hk hini hstr (vx_hat (B := [Cond.castable sNSE sNSE, Cond.declares (Bundle.initS "java/lang/RuntimeException"), Cond.declares (Bundle.initS "java/lang/Exception"), Cond.declares (Bundle.initS Bundle.tN)]) h1 (by decide +kernel) (vx_c (va_Nw.use rfl hcast) (vx_c (va_Nw.use rfl hd1) (vx_c (va_Nw.use rfl hd2) (vx_c (va_Nw.use rfl hd3) vx_n))))) (by decide +kernel) hU hN hS hsize d0 d3 d4 d6 d9 hout hRf hRl hRc hRs hlocks (fun t ht hz hq => ?_) hS.2.2 hc hs2
  refine ⟨u, trivial, ⟨hpe, ?_, va_K.moved ht hK, hD.sub is2 hnd hs⟩, Nat.le_trans hS.1 hz, fun q h0 hA => (hq q (Nat.lt_of_lt_of_le h0 hS.1)).trans (hS.2.1 q h0 hA)⟩
  have hPt : va_P G vwCl ws t.heap := hP.kept (fun k x hx => hq x.1 (hP k x hx).lt)
  exact hPt.sub is2 (fm_of hs)
end THN
