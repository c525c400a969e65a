/-! ===== the shape of the contracts: a world, what lies outside it, what comes back ===== -/
abbrev TY (ci cz cl : ClassId) : List (ClassId × FieldType) := [(ci, .int), (cz, .boolean), (cl, .long)]
abbrev OT : Type := (Nat → Prop) → State → Heap → Prop
def PC (G : va_G) (tys : List (ClassId × FieldType)) (O : OT) (WS : va_W) (sz : Nat) (U : State) : Prop := (U.heap.size = sz ∧ va_P G vwCl WS U.heap ∧ va_K G vwCl tys U ∧ va_D (fun _ => True) WS) ∧ O (va_A WS sz) U U.heap
def PQ (G : va_G) (tys : List (ClassId × FieldType)) (A : Nat → Prop) (WS : va_W) (t : State) : Prop := va_P G vwCl WS t.heap ∧ va_K G vwCl tys t ∧ va_D A WS
def Ok (O : OT) : Prop := (∀ (A : Nat → Prop) (u U : State) (H : Heap), u.WarmedH U.vm → O A u H → O A U H) ∧ (∀ A U H H1, O A U H → (∀ a : Nat, a < H.size → ¬ A a → H1[a]? = H[a]?) → O A U H1) ∧ (∀ A B U H, O A U H → (∀ q, B q → A q) → O B U H)
def O0 : OT := fun _ _ _ => True
theorem ok0 : Ok O0 := ⟨fun _ _ _ _ _ _ => trivial, fun _ _ _ _ _ _ => trivial, fun _ _ _ _ _ _ => trivial⟩
abbrev CtI (l : Launch) (y : MethodName) (ws : List Cond) (rm : Room) (G : va_G) (tys : List (ClassId × FieldType)) (O : OT) (av : List Value) (WS : va_W) (sz : Nat) {S : Type} (post : Int32 → S → Prop) (W1 : S → va_W) (mc ms : Nat) : Prop :=
  Met l y ws rm (va_Pc av (PC G tys O WS sz)) (va_Qi post (fun u t => PQ G tys (va_A WS sz) (W1 u) t) (va_A WS sz)) mc ms (va_A WS sz)
abbrev CtV (l : Launch) (y : MethodName) (ws : List Cond) (rm : Room) (G : va_G) (tys : List (ClassId × FieldType)) (O : OT) (av : List Value) (WS : va_W) (sz : Nat) {S : Type} (post : S → Prop) (W1 : S → va_W) (mc ms : Nat) : Prop :=
  Met l y ws rm (va_Pc av (PC G tys O WS sz)) (va_Qv post (fun u t => PQ G tys (va_A WS sz) (W1 u) t) (va_A WS sz)) mc ms (va_A WS sz)
abbrev CtD (l : Launch) (y : MethodName) (ws : List Cond) (rm : Room) (G : va_G) (tys : List (ClassId × FieldType)) (O : OT) (av : List Value) (WS : va_W) (sz : Nat) {S : Type} (post : UInt64 → S → Prop) (W1 : S → va_W) (mc ms : Nat) : Prop :=
  Met l y ws rm (va_Pc av (PC G tys O WS sz)) (va_Qd post (fun u t => PQ G tys (va_A WS sz) (W1 u) t) (va_A WS sz)) mc ms (va_A WS sz)
theorem fm_of {α : Type} {ws wc : List α} {is : List Nat} (h : is.map (fun i => ws[i]?) = wc.map some) : is.filterMap (fun i => ws[i]?) = wc := by
  have : is.filterMap (fun i => ws[i]?) = (is.map (fun i => ws[i]?)).filterMap id := by rw [List.filterMap_map]; rfl
  rw [this, h, List.filterMap_map]
  induction wc with
  | nil => rfl
  | cons a t _ => simp
theorem pc_blind {G : va_G} {tys : List (ClassId × FieldType)} {O : OT} (ok : Ok O) {av : List Value} {WS : va_W} {sz : Nat} : FrameBlind (va_Pc av (PC G tys O WS sz)) := by
  intro a U g mk h
  obtain ⟨h0, ⟨h1, h2, h3, h4⟩, h5⟩ := h
  exact ⟨h0, ⟨h1, h2, va_K.moved (u := U) (U := U.calling g mk a) (Vm.Alike.refl U.vm) h3, h4⟩, ok.1 _ U (U.calling g mk a) _ (State.WarmedH.refl U) h5⟩
section CL
variable {p : Program} {l : Launch} {e : Env} {R : Room} {s : State} {m : MethodId} {args : Array Value} {below : List Frame} {meth : Method} {c : Code} {H : Heap} {locs : List Loc} {cells slots : Nat} {Q : State → Prop}
variable {G : va_G} {tys : List (ClassId × FieldType)} {O : OT} {ws wc wr : va_W} {A : Nat → Prop} {pc : Nat} {ls : Array Slot} {rest st0 : List Value} {mc ms : Nat} {a : Array Value}
theorem pc_at (ok : Ok O) {av : List Value} (hK : va_K G vwCl tys s) (hP : va_P G vwCl ws H) (hD : va_D A ws) (hS : va_S A s.heap H locs) (hA : ∀ q, s.heap.size ≤ q → A q) (hO : O A s s.heap) (isC : List Nat) (hC : isC.map (fun i => ws[i]?) = wc.map some) (hn : va_nd isC = true) : ∀ U : State, U.heap = H → s.WarmedH U.vm → va_Pc av (PC G tys O wc H.size) av.toArray U := by
  intro U hU hW
  refine ⟨rfl, ⟨by rw [hU], by rw [hU]; exact hP.sub isC (fm_of hC), va_K.moved hW.alike hK, (hD.sub isC hn hC).weaken (fun _ _ _ _ => trivial)⟩, ?_⟩
  rw [hU]
  exact ok.1 _ _ _ _ hW (ok.2.2 A _ _ _ (ok.2.1 _ _ _ _ hO hS.2.1) (va_free hD hS hA isC hC))
theorem pS (ok : Ok O) {av : List Value} (hK : va_K G vwCl tys s) (hP : va_P G vwCl ws H) (hD : va_D A ws) (hS : va_S A s.heap H locs) (hA : ∀ q, s.heap.size ≤ q → A q) (hO : O A s s.heap) (isC : List Nat) (hC : isC.map (fun i => ws[i]?) = wc.map some) (hn : va_nd isC = true) : PreS s H (va_Pc av (PC G tys O wc H.size)) av :=
  ⟨pc_blind ok, pc_at ok hK hP hD hS hA hO isC hC hn⟩
theorem pV (ok : Ok O) {As : List Value} {b : Nat} (hK : va_K G vwCl tys s) (hP : va_P G vwCl ws H) (hD : va_D A ws) (hS : va_S A s.heap H locs) (hA : ∀ q, s.heap.size ≤ q → A q) (hO : O A s s.heap) (isC : List Nat) (hC : isC.map (fun i => ws[i]?) = wc.map some) (hn : va_nd isC = true) (k : Nat) {ci : Nat} {fs : List Value} {C : String} {T : u_T} {N : Nat} (he : ws[k]? = some (b, .inr (ci, fs))) (hc : vwCl[ci]? = some (C, T, N)) : PreV s H C b (va_Pc (.ref b :: As) (PC G tys O wc H.size)) As :=
  ⟨pc_blind ok, va_recv hK hP hc he, pc_at ok hK hP hD hS hA hO isC hC hn⟩
theorem jI {S : Type} {post : Int32 → S → Prop} {W1 : S → va_W} (hr : va_Run p l e R s m args below meth c H locs cells slots mc ms (F0 m pc ls st0) rest (va_Qi post (fun u t => PQ G tys (va_A wc H.size) (W1 u) t) (va_A wc H.size) a) (va_A wc H.size))
    (hP : va_P G vwCl ws H) (hD : va_D A ws) (hS : va_S A s.heap H locs) (hA : ∀ q, s.heap.size ≤ q → A q) (isC isR : List Nat) (hC : isC.map (fun i => ws[i]?) = wc.map some) (hR : isR.map (fun i => ws[i]?) = wr.map some) (hn : va_nd isR = true) (hdis : ∀ i ∈ isR, i ∉ isC)
    (kk : ∀ (r : Int32) (u : S) (H1 : Heap) (locs1 : List Loc), post r u → va_P G vwCl (wr ++ W1 u) H1 → va_D A (wr ++ W1 u) → va_S A s.heap H1 locs1 → W p l e R s m args below meth c H1 locs1 (cells + mc) (slots + ms) Q (F0 m (pc + 3) ls (.int r :: rest))) : W p l e R s m args below meth c H locs cells slots Q (F0 m pc ls st0) := by
  have hF := va_free hD hS hA isC hC
  refine va_calli hr hS (fun q _ h => hF q h) hF (fun r u t H1 locs ht hvm hw hB hz1 hk1 hS1 => ?_)
  obtain ⟨hP1, hK1, hD1⟩ := hB
  rw [ht] at hP1
  obtain ⟨hP2, hD2⟩ := va_join hP hD isC isR hC hR hn hdis hk1 hF hP1 hD1
  exact kk r u H1 locs hw hP2 hD2 hS1
theorem jD {S : Type} {post : UInt64 → S → Prop} {W1 : S → va_W} (hr : va_Run p l e R s m args below meth c H locs cells slots mc ms (F0 m pc ls st0) rest (va_Qd post (fun u t => PQ G tys (va_A wc H.size) (W1 u) t) (va_A wc H.size) a) (va_A wc H.size))
    (hP : va_P G vwCl ws H) (hD : va_D A ws) (hS : va_S A s.heap H locs) (hA : ∀ q, s.heap.size ≤ q → A q) (isC isR : List Nat) (hC : isC.map (fun i => ws[i]?) = wc.map some) (hR : isR.map (fun i => ws[i]?) = wr.map some) (hn : va_nd isR = true) (hdis : ∀ i ∈ isR, i ∉ isC)
    (kk : ∀ (r : UInt64) (u : S) (H1 : Heap) (locs1 : List Loc), post r u → va_P G vwCl (wr ++ W1 u) H1 → va_D A (wr ++ W1 u) → va_S A s.heap H1 locs1 → W p l e R s m args below meth c H1 locs1 (cells + mc) (slots + ms) Q (F0 m (pc + 3) ls (.double r :: rest))) : W p l e R s m args below meth c H locs cells slots Q (F0 m pc ls st0) := by
  have hF := va_free hD hS hA isC hC
  refine va_calld hr hS (fun q _ h => hF q h) hF (fun r u t H1 locs ht hvm hw hB hz1 hk1 hS1 => ?_)
  obtain ⟨hP1, hK1, hD1⟩ := hB
  rw [ht] at hP1
  obtain ⟨hP2, hD2⟩ := va_join hP hD isC isR hC hR hn hdis hk1 hF hP1 hD1
  exact kk r u H1 locs hw hP2 hD2 hS1
theorem jV {S : Type} {post : S → Prop} {W1 : S → va_W} (hr : va_Run p l e R s m args below meth c H locs cells slots mc ms (F0 m pc ls st0) rest (va_Qv post (fun u t => PQ G tys (va_A wc H.size) (W1 u) t) (va_A wc H.size) a) (va_A wc H.size))
    (hP : va_P G vwCl ws H) (hD : va_D A ws) (hS : va_S A s.heap H locs) (hA : ∀ q, s.heap.size ≤ q → A q) (isC isR : List Nat) (hC : isC.map (fun i => ws[i]?) = wc.map some) (hR : isR.map (fun i => ws[i]?) = wr.map some) (hn : va_nd isR = true) (hdis : ∀ i ∈ isR, i ∉ isC)
    (kk : ∀ (u : S) (H1 : Heap) (locs1 : List Loc), post u → va_P G vwCl (wr ++ W1 u) H1 → va_D A (wr ++ W1 u) → va_S A s.heap H1 locs1 → W p l e R s m args below meth c H1 locs1 (cells + mc) (slots + ms) Q (F0 m (pc + 3) ls rest)) : W p l e R s m args below meth c H locs cells slots Q (F0 m pc ls st0) := by
  have hF := va_free hD hS hA isC hC
  refine va_callv hr hS (fun q _ h => hF q h) hF (fun u t H1 locs ht hvm hw hB hz1 hk1 hS1 => ?_)
  obtain ⟨hP1, hK1, hD1⟩ := hB
  rw [ht] at hP1
  obtain ⟨hP2, hD2⟩ := va_join hP hD isC isR hC hR hn hdis hk1 hF hP1 hD1
  exact kk u H1 locs hw hP2 hD2 hS1
theorem rI {cc : ByteArray} {S : Type} {post : Int32 → S → Prop} {W1 : S → va_W} {v : Int32} {ty : FieldType} (hx : p.tables.exec = Jvm.exec) (hb : c.code = cc) (hr : meth.sig.returnType = some ty) (hlocks : meth.locks = false) (hn : narrow ty (.int v) = .int v) (hK : va_K G vwCl tys s) (hP : va_P G vwCl ws H) (hD : va_D A ws) (hS : va_S A s.heap H locs) (is : List Nat) (u : S) (hs : is.map (fun i => ws[i]?) = (W1 u).map some) (hnd : va_nd is = true) (hp : post v u) (hd : decode cc pc = .ok (.ireturn, 1)) :
    W p l e R s m args below meth c H locs cells slots (MQ below (va_Qi post (fun u t => PQ G tys A (W1 u) t) A) args s cells slots A) (F0 m pc ls [.int v]) :=
  W.zret hx hb hr hn (fun t ht hW => ⟨⟨v, u, rfl, hp, by rw [ht]; exact hP.sub is (fm_of hs), va_K.moved hW.alike hK, hD.sub is hnd hs⟩, hS.F ht⟩) hS.2.2 hd hlocks
theorem rD {cc : ByteArray} {S : Type} {post : UInt64 → S → Prop} {W1 : S → va_W} {v : UInt64} (hx : p.tables.exec = Jvm.exec) (hb : c.code = cc) (hr : meth.sig.returnType = some .double) (hlocks : meth.locks = false) (hK : va_K G vwCl tys s) (hP : va_P G vwCl ws H) (hD : va_D A ws) (hS : va_S A s.heap H locs) (is : List Nat) (u : S) (hs : is.map (fun i => ws[i]?) = (W1 u).map some) (hnd : va_nd is = true) (hp : post v u) (hd : decode cc pc = .ok (.dreturn, 1)) :
    W p l e R s m args below meth c H locs cells slots (MQ below (va_Qd post (fun u t => PQ G tys A (W1 u) t) A) args s cells slots A) (F0 m pc ls [.double v]) :=
  W.dret hx hb hr (fun t ht hW => ⟨⟨v, u, rfl, hp, by rw [ht]; exact hP.sub is (fm_of hs), va_K.moved hW.alike hK, hD.sub is hnd hs⟩, hS.F ht⟩) hS.2.2 hd hlocks
theorem rV {cc : ByteArray} {S : Type} {post : S → Prop} {W1 : S → va_W} (hx : p.tables.exec = Jvm.exec) (hb : c.code = cc) (hr : meth.sig.returnType = none) (hlocks : meth.locks = false) (hK : va_K G vwCl tys s) (hP : va_P G vwCl ws H) (hD : va_D A ws) (hS : va_S A s.heap H locs) (is : List Nat) (u : S) (hs : is.map (fun i => ws[i]?) = (W1 u).map some) (hnd : va_nd is = true) (hp : post u) (hd : decode cc pc = .ok (.return_, 1)) :
    W p l e R s m args below meth c H locs cells slots (MQ below (va_Qv post (fun u t => PQ G tys A (W1 u) t) A) args s cells slots A) (F0 m pc ls []) :=
  W.vret hx hb hr (fun t ht hW => ⟨⟨u, rfl, hp, by rw [ht]; exact hP.sub is (fm_of hs), va_K.moved hW.alike hK, hD.sub is hnd hs⟩, hS.F ht⟩) hS.2.2 hd hlocks
theorem startH {g : JFrame} (k : ∀ (H : Heap) (locs : List Loc), va_P G vwCl ws H → va_S A s.heap H locs → W p l e R s m args below meth c H locs 0 0 Q g) (hP : va_P G vwCl ws s.heap) : W p l e R s m args below meth c s.heap [] 0 0 Q g := k _ _ hP va_S.rf
theorem tpl {x y : Int64} (h : x = y) (k : W p l e R s m args below meth c H locs cells slots Q (F0 m pc ls (.long y :: rest))) : W p l e R s m args below meth c H locs cells slots Q (F0 m pc ls (.long x :: rest)) := h ▸ k
theorem tp {x y : Int32} (h : x = y) (k : W p l e R s m args below meth c H locs cells slots Q (F0 m pc ls (.int y :: rest))) : W p l e R s m args below meth c H locs cells slots Q (F0 m pc ls (.int x :: rest)) := h ▸ k
/-- the class of an array that was just made is the one that the world's list has -/
theorem cA_eq {cA cB : ClassId} {ty : FieldType} {tys2 : List (ClassId × FieldType)} (k : Nat) (hK : va_K G vwCl tys s) (h : va_K G vwCl (tys ++ [(cA, ty)]) s) (hk : tys[k]? = some (cB, ty)) (hnr : va_RA s cA ty = (s.vm.findClass ("[" ++ ty.toString) = some cA)) (hnr2 : va_RA s cB ty = (s.vm.findClass ("[" ++ ty.toString) = some cB)) : cA = cB := by
  have h1 := (h.2 tys.length (cA, ty) (by simp)).2
  have h2 := (hK.2 k (cB, ty) hk).2
  dsimp only at h1 h2
  rw [hnr] at h1
  rw [hnr2] at h2
  exact Option.some.inj (h1.symm.trans h2)
end CL
abbrev aI (c : ClassId) (a N : Nat) (f : Nat → Int32) : Nat × va_E := (a, .inl (c, N, .inl f))
abbrev aL (c : ClassId) (a N : Nat) (f : Nat → Int64) : Nat × va_E := (a, .inl (c, N, .inr (.inl f)))
/-! numbers -/
theorem i_lt (x y : Int32) : x < y ↔ x.toInt < y.toInt := Int32.lt_iff_toInt_lt
theorem i_le (x y : Int32) : x ≤ y ↔ x.toInt ≤ y.toInt := Int32.le_iff_toInt_le
theorem i_0 : (0 : Int32).toInt = 0 := by decide
theorem nI_lit (n : Nat) : (OfNat.ofNat n : Int32) = nI n := rfl
theorem i_nonneg {x : Int32} (h : 0 ≤ x.toInt) : ∃ k : Nat, k < 2147483648 ∧ x = nI k ∧ x.toInt = k := by
  obtain ⟨j, hj, e⟩ := nI_of (x := x) (by rw [i_lt, i_0]; omega)
  exact ⟨j, hj, e, by rw [e]; exact nI_toInt hj⟩
theorem nb0 : narrow .boolean (.int (nI 0)) = .int (nI 0) := by decide
theorem nb1 : narrow .boolean (.int (nI 1)) = .int (nI 1) := by decide
theorem nb01 {r : Int32} (h : r = nI 0 ∨ r = nI 1) : narrow .boolean (.int r) = .int r := by rcases h with rfl | rfl <;> decide
theorem vn0 : vp_nar .boolean (nI 0) = nI 0 := by decide
theorem vn1 : vp_nar .boolean (nI 1) = nI 1 := by decide
