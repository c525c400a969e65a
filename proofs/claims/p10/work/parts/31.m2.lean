set_option maxHeartbeats 4000000 in
set_option maxRecDepth 100000 in
theorem c_X9_rounded (l : Launch) (G : va_G) (ci cz cl : ClassId) (q : Nat → Nat) (sz : Nat) (x : Int32) (ref : Int32) (n : Nat) (num : Nat) (den : Nat) (mag : Nat) (fac : UInt64) (who : Nat) (fnd : Int32) (pc : Nat) (ic : Nat) (a : Nat) (sta : Nat) (lb : Nat) (la : Nat) (fo : Int32) (dee : Nat) (kc : Nat) (fl : Nat → Int32) (wd : Nat → Int32) (df : Nat → Int32) (ag : Nat → Int32) (mk : Nat → Int32) (sc : Nat → Int32) (nu : Nat → Int32) (co : Nat → Int32) (fi : Nat → Int32) (ad : Nat → Int32) (it : Nat → Int32) (sp : Nat → Int32) (stk : Nat → Int32) (hf : Fn fac) : CtI l yX9_rounded wsX9_rounded ({ frames := 0, cells := 0, slots := 0, locals := 0 }) G (TY ci cz cl) O0 [.ref (q 0), .int x] [oM q ref n num den mag fac who fnd pc ic a sta lb la fo dee kc, aI ci (q 1) 600 fl, aI ci (q 2) 1024 wd, aI cz (q 3) 8 df, aI cz (q 4) 8 ag, aI ci (q 5) 8 mk, aI ci (q 6) 8 sc, aI ci (q 7) 12 nu, aI ci (q 8) 12 co, aI ci (q 9) 12 fi, aI ci (q 10) 12 ad, aI ci (q 11) 1800 it, aI ci (q 12) 8 sp, aI ci (q 13) 160 stk] sz (fun (r : Int32) (u : Unit) => True) (fun u : Unit => [oM q ref n num den mag fac who fnd pc ic a sta lb la fo dee kc, aI ci (q 1) 600 fl, aI ci (q 2) 1024 wd, aI cz (q 3) 8 df, aI cz (q 4) 8 ag, aI ci (q 5) 8 mk, aI ci (q 6) 8 sc, aI ci (q 7) 12 nu, aI ci (q 8) 12 co, aI ci (q 9) 12 fi, aI ci (q 10) 12 ad, aI ci (q 11) 1800 it, aI ci (q 12) 8 sp, aI ci (q 13) 160 stk]) 0 0 := by
  refine Met.ofW (cc := cX9_rounded) (maxL := 4) (ret := (some .int)) (by decide) rfl ?_
  intro p e s m args below meth c s₁ B hml hv
  obtain ⟨rfl, ⟨hsz, hP, hK, hD0⟩, hO⟩ := hv
  have hx := B.exec
  have hb := B.bytes
  have hr := B.returns
  have hts := atoms_spec (ws := wsX9_rounded) B.pre
  have hown : s.vm.findClass RX9 = some m.cls := findClass_of_methodNamed B.named
  have hlocks := B.notSynchronized
  subst hsz
  have hD := hD0.self (sz := s.heap.size)
  generalize hAe : va_A [oM q ref n num den mag fac who fnd pc ic a sta lb la fo dee kc, aI ci (q 1) 600 fl, aI ci (q 2) 1024 wd, aI cz (q 3) 8 df, aI cz (q 4) 8 ag, aI ci (q 5) 8 mk, aI ci (q 6) 8 sc, aI ci (q 7) 12 nu, aI ci (q 8) 12 co, aI ci (q 9) 12 fi, aI ci (q 10) 12 ad, aI ci (q 11) 1800 it, aI ci (q 12) 8 sp, aI ci (q 13) 160 stk] s.heap.size = A at hD hO ⊢
  have hA : ∀ q : Nat, s.heap.size ≤ q → A q := fun q h => by rw [← hAe]; exact Or.inr h
  have ok := ok0
  refine startH (A := A) (fun H locs hP hS => ?_) hP
  have hi_X9 := (by decide +kernel : ∀ w ∈ wsX90, w ∈ wsX9_rounded)
  have f_73 := hts (.fieldLink RX9 73 "PageReaderModel" "factor" "D") (by decide +kernel)
  have k_77 := hts (.constantDouble RX9 77 (4602678819172646912)) (by decide +kernel)
  have hl := lv_entry ([.ref (q 0), .int x]) (n := 4) (Nat.le_of_ble_eq_true rfl)
  rw [lg_entry_eq]
  generalize (lg_sl ([.ref (q 0), .int x]) ++ List.replicate (4 - (lg_sl ([.ref (q 0), .int x])).length) Slot.unset).toArray = ls at hl ⊢
  have hl : lv_has ls 4 [(0, .ref (q 0)), (1, .int x)] := hl
  refine lv_aload_n hx hb dX9_rounded_0 rfl (lv_at hl 0 rfl) ?_
  refine va_get (D := G) (ci := 8) (v := .double fac) (C := RX9) (T := TX9) (N := 30) hx hb hts hi_X9 hown hK hP 0 rfl rfl 11 (by decide) f_73 (fun _ h9 => h9) rfl dX9_rounded_1 ?_
  refine lv_iload_n hx hb dX9_rounded_4 rfl (lv_at hl 1 rfl) ?_
  refine lv_i2d hx hb dX9_rounded_5 ?_
  refine lv_dmul hx hb dX9_rounded_6 (ne_mulI hf x) ?_
  refine lv_dstore_n (lv' := [(2, .double (FP.dmul fac (FP.i2d x))), (0, .ref (q 0)), (1, .int x)]) hx hb dX9_rounded_7 rfl hl (by decide) rfl (fun ls hl => ?_)
  refine lv_dload_n hx hb dX9_rounded_8 rfl (lv_at hl 0 rfl) ?_
  refine lv_dconst0 hx hb dX9_rounded_9 ?_
  refine lv_dcmp hx hb dX9_rounded_10 ?_
  refine lv_if_ge (tgt := 24) hx hb dX9_rounded_11 (by decide) (fun c_1 => ?_) (fun c_1 => ?_)
  · skip
    refine lv_dload_n hx hb dX9_rounded_24 rfl (lv_at hl 0 rfl) ?_
    refine lv_ldc2d hx hb hown k_77 dX9_rounded_25 ?_
    refine lv_dadd hx hb dX9_rounded_28 (ne_add (nn_mulI hf x)) ?_
    refine lv_d2i hx hb dX9_rounded_29 ?_
    exact rI (v := FP.d2i (FP.dadd (FP.dmul fac (FP.i2d x)) 4602678819172646912)) hx hb hr hlocks rfl hK hP hD hS [0, 1, 2, 3, 4, 5, 6, 7, 8, 9, 10, 11, 12, 13] () rfl (by decide) trivial dX9_rounded_30
  · skip
    refine lv_ldc2d hx hb hown k_77 dX9_rounded_14 ?_
    refine lv_dload_n hx hb dX9_rounded_17 rfl (lv_at hl 0 rfl) ?_
    refine lv_dsub hx hb dX9_rounded_18 (ne_sub (nn_mulI hf x)) ?_
    refine lv_d2i hx hb dX9_rounded_19 ?_
    refine lv_ineg hx hb dX9_rounded_20 ?_
    refine lv_goto (tgt := 30) hx hb dX9_rounded_21 (by decide) ?_
    exact rI (v := -(FP.d2i (FP.dsub 4602678819172646912 (FP.dmul fac (FP.i2d x))))) hx hb hr hlocks rfl hK hP hD hS [0, 1, 2, 3, 4, 5, 6, 7, 8, 9, 10, 11, 12, 13] () rfl (by decide) trivial dX9_rounded_30
set_option maxHeartbeats 4000000 in
set_option maxRecDepth 100000 in
theorem c_X9_upwards (l : Launch) (G : va_G) (ci cz cl : ClassId) (q : Nat → Nat) (sz : Nat) (x : Int32) (ref : Int32) (n : Nat) (num : Nat) (den : Nat) (mag : Nat) (fac : UInt64) (who : Nat) (fnd : Int32) (pc : Nat) (ic : Nat) (a : Nat) (sta : Nat) (lb : Nat) (la : Nat) (fo : Int32) (dee : Nat) (kc : Nat) (fl : Nat → Int32) (wd : Nat → Int32) (df : Nat → Int32) (ag : Nat → Int32) (mk : Nat → Int32) (sc : Nat → Int32) (nu : Nat → Int32) (co : Nat → Int32) (fi : Nat → Int32) (ad : Nat → Int32) (it : Nat → Int32) (sp : Nat → Int32) (stk : Nat → Int32) (hf : Fn fac) : CtI l yX9_upwards wsX9_upwards ({ frames := 0, cells := 0, slots := 0, locals := 0 }) G (TY ci cz cl) O0 [.ref (q 0), .int x] [oM q ref n num den mag fac who fnd pc ic a sta lb la fo dee kc, aI ci (q 1) 600 fl, aI ci (q 2) 1024 wd, aI cz (q 3) 8 df, aI cz (q 4) 8 ag, aI ci (q 5) 8 mk, aI ci (q 6) 8 sc, aI ci (q 7) 12 nu, aI ci (q 8) 12 co, aI ci (q 9) 12 fi, aI ci (q 10) 12 ad, aI ci (q 11) 1800 it, aI ci (q 12) 8 sp, aI ci (q 13) 160 stk] sz (fun (r : Int32) (u : Unit) => True) (fun u : Unit => [oM q ref n num den mag fac who fnd pc ic a sta lb la fo dee kc, aI ci (q 1) 600 fl, aI ci (q 2) 1024 wd, aI cz (q 3) 8 df, aI cz (q 4) 8 ag, aI ci (q 5) 8 mk, aI ci (q 6) 8 sc, aI ci (q 7) 12 nu, aI ci (q 8) 12 co, aI ci (q 9) 12 fi, aI ci (q 10) 12 ad, aI ci (q 11) 1800 it, aI ci (q 12) 8 sp, aI ci (q 13) 160 stk]) 0 0 := by
  refine Met.ofW (cc := cX9_upwards) (maxL := 5) (ret := (some .int)) (by decide) rfl ?_
  intro p e s m args below meth c s₁ B hml hv
  obtain ⟨rfl, ⟨hsz, hP, hK, hD0⟩, hO⟩ := hv
  have hx := B.exec
  have hb := B.bytes
  have hr := B.returns
  have hts := atoms_spec (ws := wsX9_upwards) B.pre
  have hown : s.vm.findClass RX9 = some m.cls := findClass_of_methodNamed B.named
  have hlocks := B.notSynchronized
  subst hsz
  have hD := hD0.self (sz := s.heap.size)
  generalize hAe : va_A [oM q ref n num den mag fac who fnd pc ic a sta lb la fo dee kc, aI ci (q 1) 600 fl, aI ci (q 2) 1024 wd, aI cz (q 3) 8 df, aI cz (q 4) 8 ag, aI ci (q 5) 8 mk, aI ci (q 6) 8 sc, aI ci (q 7) 12 nu, aI ci (q 8) 12 co, aI ci (q 9) 12 fi, aI ci (q 10) 12 ad, aI ci (q 11) 1800 it, aI ci (q 12) 8 sp, aI ci (q 13) 160 stk] s.heap.size = A at hD hO ⊢
  have hA : ∀ q : Nat, s.heap.size ≤ q → A q := fun q h => by rw [← hAe]; exact Or.inr h
  have ok := ok0
  refine startH (A := A) (fun H locs hP hS => ?_) hP
  have hi_X9 := (by decide +kernel : ∀ w ∈ wsX90, w ∈ wsX9_upwards)
  have f_73 := hts (.fieldLink RX9 73 "PageReaderModel" "factor" "D") (by decide +kernel)
  have hl := lv_entry ([.ref (q 0), .int x]) (n := 5) (Nat.le_of_ble_eq_true rfl)
  rw [lg_entry_eq]
  generalize (lg_sl ([.ref (q 0), .int x]) ++ List.replicate (5 - (lg_sl ([.ref (q 0), .int x])).length) Slot.unset).toArray = ls at hl ⊢
  have hl : lv_has ls 5 [(0, .ref (q 0)), (1, .int x)] := hl
  refine lv_aload_n hx hb dX9_upwards_0 rfl (lv_at hl 0 rfl) ?_
  refine va_get (D := G) (ci := 8) (v := .double fac) (C := RX9) (T := TX9) (N := 30) hx hb hts hi_X9 hown hK hP 0 rfl rfl 11 (by decide) f_73 (fun _ h9 => h9) rfl dX9_upwards_1 ?_
  refine lv_iload_n hx hb dX9_upwards_4 rfl (lv_at hl 1 rfl) ?_
  refine lv_i2d hx hb dX9_upwards_5 ?_
  refine lv_dmul hx hb dX9_upwards_6 (ne_mulI hf x) ?_
  refine lv_dstore_n (lv' := [(2, .double (FP.dmul fac (FP.i2d x))), (0, .ref (q 0)), (1, .int x)]) hx hb dX9_upwards_7 rfl hl (by decide) rfl (fun ls hl => ?_)
  refine lv_dload_n hx hb dX9_upwards_8 rfl (lv_at hl 0 rfl) ?_
  refine lv_d2i hx hb dX9_upwards_9 ?_
  refine lv_istore (lv' := [(4, .int (FP.d2i (FP.dmul fac (FP.i2d x)))), (2, .double (FP.dmul fac (FP.i2d x))), (0, .ref (q 0)), (1, .int x)]) hx hb dX9_upwards_10 hl (by decide) rfl (fun ls hl => ?_)
  refine lv_iload hx hb dX9_upwards_12 (lv_at hl 0 rfl) ?_
  refine lv_i2d hx hb dX9_upwards_14 ?_
  refine lv_dload_n hx hb dX9_upwards_15 rfl (lv_at hl 1 rfl) ?_
  refine lv_dcmp hx hb dX9_upwards_16 ?_
  refine lv_if_ge (tgt := 27) hx hb dX9_upwards_17 (by decide) (fun c_1 => ?_) (fun c_1 => ?_)
  · skip
    refine lv_iload hx hb dX9_upwards_27 (lv_at hl 0 rfl) ?_
    exact rI (v := FP.d2i (FP.dmul fac (FP.i2d x))) hx hb hr hlocks rfl hK hP hD hS [0, 1, 2, 3, 4, 5, 6, 7, 8, 9, 10, 11, 12, 13] () rfl (by decide) trivial dX9_upwards_29
  · skip
    refine lv_iload hx hb dX9_upwards_20 (lv_at hl 0 rfl) ?_
    refine lv_iconst (v := nI 1) hx hb dX9_upwards_22 (by decide) ?_
    refine lv_iadd hx hb dX9_upwards_23 ?_
    refine lv_goto (tgt := 29) hx hb dX9_upwards_24 (by decide) ?_
    exact rI (v := (FP.d2i (FP.dmul fac (FP.i2d x))) + (nI 1)) hx hb hr hlocks rfl hK hP hD hS [0, 1, 2, 3, 4, 5, 6, 7, 8, 9, 10, 11, 12, 13] () rfl (by decide) trivial dX9_upwards_29
set_option maxHeartbeats 4000000 in
set_option maxRecDepth 100000 in
theorem c_X9_hold (l : Launch) (G : va_G) (ci cz cl : ClassId) (q : Nat → Nat) (sz : Nat) (aa : Nat) (k : Nat) (ref : Int32) (n : Nat) (num : Nat) (den : Nat) (mag : Nat) (fac : UInt64) (who : Nat) (fnd : Int32) (pc : Nat) (ic : Nat) (a : Nat) (sta : Nat) (lb : Nat) (la : Nat) (fo : Int32) (dee : Nat) (kc : Nat) (fl : Nat → Int32) (wd : Nat → Int32) (df : Nat → Int32) (ag : Nat → Int32) (mk : Nat → Int32) (sc : Nat → Int32) (nu : Nat → Int32) (co : Nat → Int32) (fi : Nat → Int32) (ad : Nat → Int32) (it : Nat → Int32) (sp : Nat → Int32) (stk : Nat → Int32) (haa : aa ≤ 7) (hk : k ≤ 7) (hf : Fn fac) : CtV l yX9_hold wsX9_hold ({ frames := 1, cells := 0, slots := 0, locals := 23 }) G (TY ci cz cl) O0 [.ref (q 0), .int (nI aa), .int (nI k)] [oM q ref n num den mag fac who fnd pc ic a sta lb la fo dee kc, aI ci (q 1) 600 fl, aI ci (q 2) 1024 wd, aI cz (q 3) 8 df, aI cz (q 4) 8 ag, aI ci (q 5) 8 mk, aI ci (q 6) 8 sc, aI ci (q 7) 12 nu, aI ci (q 8) 12 co, aI ci (q 9) 12 fi, aI ci (q 10) 12 ad, aI ci (q 11) 1800 it, aI ci (q 12) 8 sp, aI ci (q 13) 160 stk] sz (fun (u : Nat → Int32) => Hld aa sp u) (fun u : Nat → Int32 => [oM q ref n num den mag fac who fnd pc ic a sta lb la fo dee kc, aI ci (q 1) 600 fl, aI ci (q 2) 1024 wd, aI cz (q 3) 8 df, aI cz (q 4) 8 ag, aI ci (q 5) 8 mk, aI ci (q 6) 8 sc, aI ci (q 7) 12 nu, aI ci (q 8) 12 co, aI ci (q 9) 12 fi, aI ci (q 10) 12 ad, aI ci (q 11) 1800 it, aI ci (q 12) 8 u, aI ci (q 13) 160 stk]) 0 0 := by
  refine Met.ofW (cc := cX9_hold) (maxL := 4) (ret := none) (by decide) rfl ?_
  intro p e s m args below meth c s₁ B hml hv
  obtain ⟨rfl, ⟨hsz, hP, hK, hD0⟩, hO⟩ := hv
  have hx := B.exec
  have hb := B.bytes
  have hr := B.returns
  have hts := atoms_spec (ws := wsX9_hold) B.pre
  have hown : s.vm.findClass RX9 = some m.cls := findClass_of_methodNamed B.named
  have hlocks := B.notSynchronized
  subst hsz
  have hD := hD0.self (sz := s.heap.size)
  generalize hAe : va_A [oM q ref n num den mag fac who fnd pc ic a sta lb la fo dee kc, aI ci (q 1) 600 fl, aI ci (q 2) 1024 wd, aI cz (q 3) 8 df, aI cz (q 4) 8 ag, aI ci (q 5) 8 mk, aI ci (q 6) 8 sc, aI ci (q 7) 12 nu, aI ci (q 8) 12 co, aI ci (q 9) 12 fi, aI ci (q 10) 12 ad, aI ci (q 11) 1800 it, aI ci (q 12) 8 sp, aI ci (q 13) 160 stk] s.heap.size = A at hD hO ⊢
  have hA : ∀ q : Nat, s.heap.size ≤ q → A q := fun q h => by rw [← hAe]; exact Or.inr h
  have ok := ok0
  refine startH (A := A) (fun H locs hP hS => ?_) hP
  have hi_X9 := (by decide +kernel : ∀ w ∈ wsX90, w ∈ wsX9_hold)
  have f_48 := hts (.fieldLink RX9 48 "PageReaderModel" "spot" "[I") (by decide +kernel)
  have hl := lv_entry ([.ref (q 0), .int (nI aa), .int (nI k)]) (n := 4) (Nat.le_of_ble_eq_true rfl)
  rw [lg_entry_eq]
  generalize (lg_sl ([.ref (q 0), .int (nI aa), .int (nI k)]) ++ List.replicate (4 - (lg_sl ([.ref (q 0), .int (nI aa), .int (nI k)])).length) Slot.unset).toArray = ls at hl ⊢
  have hl : lv_has ls 4 [(0, .ref (q 0)), (1, .int (nI aa)), (2, .int (nI k))] := hl
  refine lv_aload_n hx hb dX9_hold_0 rfl (lv_at hl 0 rfl) ?_
  refine lv_aload_n hx hb dX9_hold_1 rfl (lv_at hl 0 rfl) ?_
  refine va_get (D := G) (ci := 8) (v := .ref (q 12)) (C := RX9) (T := TX9) (N := 30) hx hb hts hi_X9 hown hK hP 0 rfl rfl 28 (by decide) f_48 (fun _ h9 => h9) rfl dX9_hold_2 ?_
  refine lv_iload_n hx hb dX9_hold_5 rfl (lv_at hl 2 rfl) ?_
  refine va_iald hx hb hK hP 12 0 rfl rfl (vp_in_nI (by omega) (by omega)) dX9_hold_6 ?_
  refine tp (y := sp k) (congrArg sp (nI_clamp (by omega))) ?_
  refine jI (va_runV (As := [.int (sp k)]) (rest := []) ⟨hx, hb, hml, hown, hts⟩ (c_X9_rounded l G ci cz cl q H.size (sp k) ref n num den mag fac who fnd pc ic a sta lb la fo dee kc fl wd df ag mk sc nu co fi ad it sp stk (by assumption)) (cwV 1 hts gX9_hold_X9_rounded rfl rfl rfl (by decide +kernel) ⟨(Nat.le_of_ble_eq_true rfl), (Nat.le_of_ble_eq_true rfl)⟩) (pV (wc := [oM q ref n num den mag fac who fnd pc ic a sta lb la fo dee kc, aI ci (q 1) 600 fl, aI ci (q 2) 1024 wd, aI cz (q 3) 8 df, aI cz (q 4) 8 ag, aI ci (q 5) 8 mk, aI ci (q 6) 8 sc, aI ci (q 7) 12 nu, aI ci (q 8) 12 co, aI ci (q 9) 12 fi, aI ci (q 10) 12 ad, aI ci (q 11) 1800 it, aI ci (q 12) 8 sp, aI ci (q 13) 160 stk]) ok hK hP hD hS hA hO [0, 1, 2, 3, 4, 5, 6, 7, 8, 9, 10, 11, 12, 13] rfl (by decide) 0 rfl rfl) rfl rfl hl.1 rfl (lv_room (Nat.le_of_ble_eq_true rfl)) dX9_hold_7 ⟨(Nat.le_of_ble_eq_true rfl), (Nat.le_of_ble_eq_true rfl)⟩) (wr := []) hP hD hS hA [0, 1, 2, 3, 4, 5, 6, 7, 8, 9, 10, 11, 12, 13] [] rfl rfl (by decide) (by decide) (fun r_1 u H locs hw_1 hP hD hS => ?_)
  try dsimp only at hw_1
  have hP : va_P G vwCl [oM q ref n num den mag fac who fnd pc ic a sta lb la fo dee kc, aI ci (q 1) 600 fl, aI ci (q 2) 1024 wd, aI cz (q 3) 8 df, aI cz (q 4) 8 ag, aI ci (q 5) 8 mk, aI ci (q 6) 8 sc, aI ci (q 7) 12 nu, aI ci (q 8) 12 co, aI ci (q 9) 12 fi, aI ci (q 10) 12 ad, aI ci (q 11) 1800 it, aI ci (q 12) 8 sp, aI ci (q 13) 160 stk] H := hP
  have hD : va_D A [oM q ref n num den mag fac who fnd pc ic a sta lb la fo dee kc, aI ci (q 1) 600 fl, aI ci (q 2) 1024 wd, aI cz (q 3) 8 df, aI cz (q 4) 8 ag, aI ci (q 5) 8 mk, aI ci (q 6) 8 sc, aI ci (q 7) 12 nu, aI ci (q 8) 12 co, aI ci (q 9) 12 fi, aI ci (q 10) 12 ad, aI ci (q 11) 1800 it, aI ci (q 12) 8 sp, aI ci (q 13) 160 stk] := hD
  refine lv_istore_n (lv' := [(3, .int r_1), (0, .ref (q 0)), (1, .int (nI aa)), (2, .int (nI k))]) hx hb dX9_hold_10 rfl hl (by decide) rfl (fun ls hl => ?_)
  refine lv_aload_n hx hb dX9_hold_11 rfl (lv_at hl 1 rfl) ?_
  refine va_get (D := G) (ci := 8) (v := .ref (q 12)) (C := RX9) (T := TX9) (N := 30) hx hb hts hi_X9 hown hK hP 0 rfl rfl 28 (by decide) f_48 (fun _ h9 => h9) rfl dX9_hold_12 ?_
  refine lv_iload_n hx hb dX9_hold_15 rfl (lv_at hl 2 rfl) ?_
  refine va_iald hx hb hK hP 12 0 rfl rfl (vp_in_nI (by omega) (by omega)) dX9_hold_16 ?_
  refine tp (y := sp aa) (congrArg sp (nI_clamp (by omega))) ?_
  refine lv_iload_n hx hb dX9_hold_17 rfl (lv_at hl 0 rfl) ?_
  refine lv_iconst (v := nI 2) hx hb dX9_hold_18 (by decide) ?_
  refine lv_iadd hx hb dX9_hold_19 ?_
  refine lv_icmp_le (tgt := 35) hx hb dX9_hold_20 (by decide) (fun c_2 => ?_) (fun c_2 => ?_)
  · skip
    have z_2 := (i_le (sp aa) (r_1 + (nI 2))).mp c_2
    refine lv_aload_n hx hb dX9_hold_35 rfl (lv_at hl 1 rfl) ?_
    refine va_get (D := G) (ci := 8) (v := .ref (q 12)) (C := RX9) (T := TX9) (N := 30) hx hb hts hi_X9 hown hK hP 0 rfl rfl 28 (by decide) f_48 (fun _ h9 => h9) rfl dX9_hold_36 ?_
    refine lv_iload_n hx hb dX9_hold_39 rfl (lv_at hl 2 rfl) ?_
    refine va_iald hx hb hK hP 12 0 rfl rfl (vp_in_nI (by omega) (by omega)) dX9_hold_40 ?_
    refine tp (y := sp aa) (congrArg sp (nI_clamp (by omega))) ?_
    refine lv_iload_n hx hb dX9_hold_41 rfl (lv_at hl 0 rfl) ?_
    refine lv_iconst (v := nI 2) hx hb dX9_hold_42 (by decide) ?_
    refine lv_isub hx hb dX9_hold_43 ?_
    refine lv_icmp_ge (tgt := 56) hx hb dX9_hold_44 (by decide) (fun c_3 => ?_) (fun c_3 => ?_)
    · skip
      have z_3 := (i_le (r_1 - (nI 2)) (sp aa)).mp c_3
      exact rV hx hb hr hlocks hK hP hD hS [0, 1, 2, 3, 4, 5, 6, 7, 8, 9, 10, 11, 12, 13] sp rfl (by decide) (by first | exact Hld_r | exact Hld_u) dX9_hold_56
    · skip
      have z_3 := mt (i_le (r_1 - (nI 2)) (sp aa)).mpr c_3
      refine lv_aload_n hx hb dX9_hold_47 rfl (lv_at hl 1 rfl) ?_
      refine va_get (D := G) (ci := 8) (v := .ref (q 12)) (C := RX9) (T := TX9) (N := 30) hx hb hts hi_X9 hown hK hP 0 rfl rfl 28 (by decide) f_48 (fun _ h9 => h9) rfl dX9_hold_48 ?_
      refine lv_iload_n hx hb dX9_hold_51 rfl (lv_at hl 2 rfl) ?_
      refine lv_iload_n hx hb dX9_hold_52 rfl (lv_at hl 0 rfl) ?_
      refine lv_iconst (v := nI 2) hx hb dX9_hold_53 (by decide) ?_
      refine lv_isub hx hb dX9_hold_54 ?_
      refine va_iast hx hb hK hP hD hS 12 0 rfl rfl (vp_in_nI (by omega) (by omega)) dX9_hold_55 (fun H locs hP hD hS => ?_)
      rw [nI_clamp (by omega)] at hP hD
      have hP : va_P G vwCl [oM q ref n num den mag fac who fnd pc ic a sta lb la fo dee kc, aI ci (q 1) 600 fl, aI ci (q 2) 1024 wd, aI cz (q 3) 8 df, aI cz (q 4) 8 ag, aI ci (q 5) 8 mk, aI ci (q 6) 8 sc, aI ci (q 7) 12 nu, aI ci (q 8) 12 co, aI ci (q 9) 12 fi, aI ci (q 10) 12 ad, aI ci (q 11) 1800 it, aI ci (q 12) 8 (upd sp aa (r_1 - (nI 2))), aI ci (q 13) 160 stk] H := hP
      have hD : va_D A [oM q ref n num den mag fac who fnd pc ic a sta lb la fo dee kc, aI ci (q 1) 600 fl, aI ci (q 2) 1024 wd, aI cz (q 3) 8 df, aI cz (q 4) 8 ag, aI ci (q 5) 8 mk, aI ci (q 6) 8 sc, aI ci (q 7) 12 nu, aI ci (q 8) 12 co, aI ci (q 9) 12 fi, aI ci (q 10) 12 ad, aI ci (q 11) 1800 it, aI ci (q 12) 8 (upd sp aa (r_1 - (nI 2))), aI ci (q 13) 160 stk] := hD
      exact rV hx hb hr hlocks hK hP hD hS [0, 1, 2, 3, 4, 5, 6, 7, 8, 9, 10, 11, 12, 13] (upd sp aa (r_1 - (nI 2))) rfl (by decide) (by first | exact Hld_r | exact Hld_u) dX9_hold_56
  · skip
    have z_2 := mt (i_le (sp aa) (r_1 + (nI 2))).mpr c_2
    refine lv_aload_n hx hb dX9_hold_23 rfl (lv_at hl 1 rfl) ?_
    refine va_get (D := G) (ci := 8) (v := .ref (q 12)) (C := RX9) (T := TX9) (N := 30) hx hb hts hi_X9 hown hK hP 0 rfl rfl 28 (by decide) f_48 (fun _ h9 => h9) rfl dX9_hold_24 ?_
    refine lv_iload_n hx hb dX9_hold_27 rfl (lv_at hl 2 rfl) ?_
    refine lv_iload_n hx hb dX9_hold_28 rfl (lv_at hl 0 rfl) ?_
    refine lv_iconst (v := nI 2) hx hb dX9_hold_29 (by decide) ?_
    refine lv_iadd hx hb dX9_hold_30 ?_
    refine va_iast hx hb hK hP hD hS 12 0 rfl rfl (vp_in_nI (by omega) (by omega)) dX9_hold_31 (fun H locs hP hD hS => ?_)
    rw [nI_clamp (by omega)] at hP hD
    have hP : va_P G vwCl [oM q ref n num den mag fac who fnd pc ic a sta lb la fo dee kc, aI ci (q 1) 600 fl, aI ci (q 2) 1024 wd, aI cz (q 3) 8 df, aI cz (q 4) 8 ag, aI ci (q 5) 8 mk, aI ci (q 6) 8 sc, aI ci (q 7) 12 nu, aI ci (q 8) 12 co, aI ci (q 9) 12 fi, aI ci (q 10) 12 ad, aI ci (q 11) 1800 it, aI ci (q 12) 8 (upd sp aa (r_1 + (nI 2))), aI ci (q 13) 160 stk] H := hP
    have hD : va_D A [oM q ref n num den mag fac who fnd pc ic a sta lb la fo dee kc, aI ci (q 1) 600 fl, aI ci (q 2) 1024 wd, aI cz (q 3) 8 df, aI cz (q 4) 8 ag, aI ci (q 5) 8 mk, aI ci (q 6) 8 sc, aI ci (q 7) 12 nu, aI ci (q 8) 12 co, aI ci (q 9) 12 fi, aI ci (q 10) 12 ad, aI ci (q 11) 1800 it, aI ci (q 12) 8 (upd sp aa (r_1 + (nI 2))), aI ci (q 13) 160 stk] := hD
    refine lv_goto (tgt := 56) hx hb dX9_hold_32 (by decide) ?_
    exact rV hx hb hr hlocks hK hP hD hS [0, 1, 2, 3, 4, 5, 6, 7, 8, 9, 10, 11, 12, 13] (upd sp aa (r_1 + (nI 2))) rfl (by decide) (by first | exact Hld_r | exact Hld_u) dX9_hold_56
set_option maxHeartbeats 4000000 in
set_option maxRecDepth 100000 in
theorem c_X9_right (l : Launch) (G : va_G) (ci cz cl : ClassId) (q : Nat → Nat) (sz : Nat) (x : Int32) (ref : Int32) (n : Nat) (num : Nat) (den : Nat) (mag : Nat) (fac : UInt64) (who : Nat) (fnd : Int32) (pc : Nat) (ic : Nat) (a : Nat) (sta : Nat) (lb : Nat) (la : Nat) (fo : Int32) (dee : Nat) (kc : Nat) (fl : Nat → Int32) (wd : Nat → Int32) (df : Nat → Int32) (ag : Nat → Int32) (mk : Nat → Int32) (sc : Nat → Int32) (nu : Nat → Int32) (co : Nat → Int32) (fi : Nat → Int32) (ad : Nat → Int32) (it : Nat → Int32) (sp : Nat → Int32) (stk : Nat → Int32) (hf : Fn fac) (hFO : FO fo) : CtV l yX9_right wsX9_right ({ frames := 2, cells := 0, slots := 0, locals := 46 }) G (TY ci cz cl) O0 [.ref (q 0), .int x] [oM q ref n num den mag fac who fnd pc ic a sta lb la fo dee kc, aI ci (q 1) 600 fl, aI ci (q 2) 1024 wd, aI cz (q 3) 8 df, aI cz (q 4) 8 ag, aI ci (q 5) 8 mk, aI ci (q 6) 8 sc, aI ci (q 7) 12 nu, aI ci (q 8) 12 co, aI ci (q 9) 12 fi, aI ci (q 10) 12 ad, aI ci (q 11) 1800 it, aI ci (q 12) 8 sp, aI ci (q 13) 160 stk] sz (fun (u : Nat → Int32) => RMh sp u x) (fun u : Nat → Int32 => [oM q ref n num den mag fac who fnd pc ic a sta lb la fo dee kc, aI ci (q 1) 600 fl, aI ci (q 2) 1024 wd, aI cz (q 3) 8 df, aI cz (q 4) 8 ag, aI ci (q 5) 8 mk, aI ci (q 6) 8 sc, aI ci (q 7) 12 nu, aI ci (q 8) 12 co, aI ci (q 9) 12 fi, aI ci (q 10) 12 ad, aI ci (q 11) 1800 it, aI ci (q 12) 8 u, aI ci (q 13) 160 stk]) 0 0 := by
  refine Met.ofW (cc := cX9_right) (maxL := 4) (ret := none) (by decide) rfl ?_
  intro p e s m args below meth c s₁ B hml hv
  obtain ⟨rfl, ⟨hsz, hP, hK, hD0⟩, hO⟩ := hv
  have hx := B.exec
  have hb := B.bytes
  have hr := B.returns
  have hts := atoms_spec (ws := wsX9_right) B.pre
  have hown : s.vm.findClass RX9 = some m.cls := findClass_of_methodNamed B.named
  have hlocks := B.notSynchronized
  subst hsz
  have hD := hD0.self (sz := s.heap.size)
  generalize hAe : va_A [oM q ref n num den mag fac who fnd pc ic a sta lb la fo dee kc, aI ci (q 1) 600 fl, aI ci (q 2) 1024 wd, aI cz (q 3) 8 df, aI cz (q 4) 8 ag, aI ci (q 5) 8 mk, aI ci (q 6) 8 sc, aI ci (q 7) 12 nu, aI ci (q 8) 12 co, aI ci (q 9) 12 fi, aI ci (q 10) 12 ad, aI ci (q 11) 1800 it, aI ci (q 12) 8 sp, aI ci (q 13) 160 stk] s.heap.size = A at hD hO ⊢
  have hA : ∀ q : Nat, s.heap.size ≤ q → A q := fun q h => by rw [← hAe]; exact Or.inr h
  have ok := ok0
  refine startH (A := A) (fun H locs hP hS => ?_) hP
  have hi_X9 := (by decide +kernel : ∀ w ∈ wsX90, w ∈ wsX9_right)
  have f_82 := hts (.fieldLink RX9 82 "PageReaderModel" "font" "I") (by decide +kernel)
  have f_26 := hts (.fieldLink RX9 26 "PageReaderModel" "scales" "[I") (by decide +kernel)
  have f_48 := hts (.fieldLink RX9 48 "PageReaderModel" "spot" "[I") (by decide +kernel)
  have hl := lv_entry ([.ref (q 0), .int x]) (n := 4) (Nat.le_of_ble_eq_true rfl)
  rw [lg_entry_eq]
  generalize (lg_sl ([.ref (q 0), .int x]) ++ List.replicate (4 - (lg_sl ([.ref (q 0), .int x])).length) Slot.unset).toArray = ls at hl ⊢
  have hl : lv_has ls 4 [(0, .ref (q 0)), (1, .int x)] := hl
  have hfo := FO_int hFO
  refine lv_aload_n hx hb dX9_right_0 rfl (lv_at hl 0 rfl) ?_
  refine va_get (D := G) (ci := 8) (v := .int fo) (C := RX9) (T := TX9) (N := 30) hx hb hts hi_X9 hown hK hP 0 rfl rfl 25 (by decide) f_82 (fun _ h9 => h9) rfl dX9_right_1 ?_
  refine lv_if_ge (tgt := 11) hx hb dX9_right_4 (by decide) (fun c_1 => ?_) (fun c_1 => ?_)
  · skip
    have z_1 := (i_le (nI 0) fo).mp c_1
    rw [nI_toInt (n := 0) (by omega)] at z_1
    refine lv_aload_n hx hb dX9_right_11 rfl (lv_at hl 0 rfl) ?_
    refine va_get (D := G) (ci := 8) (v := .ref (q 6)) (C := RX9) (T := TX9) (N := 30) hx hb hts hi_X9 hown hK hP 0 rfl rfl 7 (by decide) f_26 (fun _ h9 => h9) rfl dX9_right_12 ?_
    refine lv_aload_n hx hb dX9_right_15 rfl (lv_at hl 0 rfl) ?_
    refine va_get (D := G) (ci := 8) (v := .int fo) (C := RX9) (T := TX9) (N := 30) hx hb hts hi_X9 hown hK hP 0 rfl rfl 25 (by decide) f_82 (fun _ h9 => h9) rfl dX9_right_16 ?_
    refine va_iald hx hb hK hP 6 0 rfl rfl (vp_in_iff.mpr ⟨by omega, by omega⟩) dX9_right_19 ?_
    refine lv_bipush (v := nI 6) hx hb dX9_right_20 (by decide) ?_
    refine lv_idiv hx hb dX9_right_22 (by decide) ?_
    refine lv_istore_n (lv' := [(2, .int ((sc (fo).toNatClampNeg) / (nI 6))), (0, .ref (q 0)), (1, .int x)]) hx hb dX9_right_23 rfl hl (by decide) rfl (fun ls hl => ?_)
    refine lv_aload_n hx hb dX9_right_24 rfl (lv_at hl 1 rfl) ?_
    refine va_get (D := G) (ci := 8) (v := .int fo) (C := RX9) (T := TX9) (N := 30) hx hb hts hi_X9 hown hK hP 0 rfl rfl 25 (by decide) f_82 (fun _ h9 => h9) rfl dX9_right_25 ?_
    refine lv_if_lt (tgt := 48) hx hb dX9_right_28 (by decide) (fun c_2 => ?_) (fun c_2 => ?_)
    · skip
      have z_2 := (i_lt fo (nI 0)).mp c_2
      rw [nI_toInt (n := 0) (by omega)] at z_2
      refine lv_iconst (v := nI 0) hx hb dX9_right_48 (by decide) ?_
      refine lv_istore_n (lv' := [(3, .int (nI 0)), (2, .int ((sc (fo).toNatClampNeg) / (nI 6))), (0, .ref (q 0)), (1, .int x)]) hx hb dX9_right_49 rfl hl (by decide) rfl (fun ls hl => ?_)
      refine lv_aload_n hx hb dX9_right_50 rfl (lv_at hl 2 rfl) ?_
      refine va_get (D := G) (ci := 8) (v := .ref (q 12)) (C := RX9) (T := TX9) (N := 30) hx hb hts hi_X9 hown hK hP 0 rfl rfl 28 (by decide) f_48 (fun _ h9 => h9) rfl dX9_right_51 ?_
      refine lv_bipush (v := nI 6) hx hb dX9_right_54 (by decide) ?_
      refine lv_iload_n hx hb dX9_right_56 rfl (lv_at hl 0 rfl) ?_
      refine lv_if_eq (tgt := 76) hx hb dX9_right_57 (by decide) (fun _ => ?_) (fun c => absurd c (by decide))
      refine lv_aload_n hx hb dX9_right_76 rfl (lv_at hl 2 rfl) ?_
      refine lv_aload_n hx hb dX9_right_77 rfl (lv_at hl 2 rfl) ?_
      refine va_get (D := G) (ci := 8) (v := .ref (q 12)) (C := RX9) (T := TX9) (N := 30) hx hb hts hi_X9 hown hK hP 0 rfl rfl 28 (by decide) f_48 (fun _ h9 => h9) rfl dX9_right_78 ?_
      refine lv_iconst (v := nI 0) hx hb dX9_right_81 (by decide) ?_
      refine va_iald hx hb hK hP 12 0 rfl rfl (vp_in_nI (by omega) (by omega)) dX9_right_82 ?_
      refine tp (y := sp 0) (congrArg sp (nI_clamp (by omega))) ?_
      refine lv_iload_n hx hb dX9_right_83 rfl (lv_at hl 3 rfl) ?_
      refine lv_iadd hx hb dX9_right_84 ?_
      refine jI (va_runV (As := [.int ((sp 0) + x)]) (rest := [.int (nI 6), .ref (q 12)]) ⟨hx, hb, hml, hown, hts⟩ (c_X9_rounded l G ci cz cl q H.size ((sp 0) + x) ref n num den mag fac who fnd pc ic a sta lb la fo dee kc fl wd df ag mk sc nu co fi ad it sp stk (by assumption)) (cwV 1 hts gX9_right_X9_rounded rfl rfl rfl (by decide +kernel) ⟨(Nat.le_of_ble_eq_true rfl), (Nat.le_of_ble_eq_true rfl)⟩) (pV (wc := [oM q ref n num den mag fac who fnd pc ic a sta lb la fo dee kc, aI ci (q 1) 600 fl, aI ci (q 2) 1024 wd, aI cz (q 3) 8 df, aI cz (q 4) 8 ag, aI ci (q 5) 8 mk, aI ci (q 6) 8 sc, aI ci (q 7) 12 nu, aI ci (q 8) 12 co, aI ci (q 9) 12 fi, aI ci (q 10) 12 ad, aI ci (q 11) 1800 it, aI ci (q 12) 8 sp, aI ci (q 13) 160 stk]) ok hK hP hD hS hA hO [0, 1, 2, 3, 4, 5, 6, 7, 8, 9, 10, 11, 12, 13] rfl (by decide) 0 rfl rfl) rfl rfl hl.1 rfl (lv_room (Nat.le_of_ble_eq_true rfl)) dX9_right_85 ⟨(Nat.le_of_ble_eq_true rfl), (Nat.le_of_ble_eq_true rfl)⟩) (wr := []) hP hD hS hA [0, 1, 2, 3, 4, 5, 6, 7, 8, 9, 10, 11, 12, 13] [] rfl rfl (by decide) (by decide) (fun r_3 u H locs hw_3 hP hD hS => ?_)
      try dsimp only at hw_3
      have hP : va_P G vwCl [oM q ref n num den mag fac who fnd pc ic a sta lb la fo dee kc, aI ci (q 1) 600 fl, aI ci (q 2) 1024 wd, aI cz (q 3) 8 df, aI cz (q 4) 8 ag, aI ci (q 5) 8 mk, aI ci (q 6) 8 sc, aI ci (q 7) 12 nu, aI ci (q 8) 12 co, aI ci (q 9) 12 fi, aI ci (q 10) 12 ad, aI ci (q 11) 1800 it, aI ci (q 12) 8 sp, aI ci (q 13) 160 stk] H := hP
      have hD : va_D A [oM q ref n num den mag fac who fnd pc ic a sta lb la fo dee kc, aI ci (q 1) 600 fl, aI ci (q 2) 1024 wd, aI cz (q 3) 8 df, aI cz (q 4) 8 ag, aI ci (q 5) 8 mk, aI ci (q 6) 8 sc, aI ci (q 7) 12 nu, aI ci (q 8) 12 co, aI ci (q 9) 12 fi, aI ci (q 10) 12 ad, aI ci (q 11) 1800 it, aI ci (q 12) 8 sp, aI ci (q 13) 160 stk] := hD
      refine va_iast hx hb hK hP hD hS 12 0 rfl rfl (vp_in_nI (by omega) (by omega)) dX9_right_88 (fun H locs hP hD hS => ?_)
      rw [nI_clamp (by omega)] at hP hD
      have hP : va_P G vwCl [oM q ref n num den mag fac who fnd pc ic a sta lb la fo dee kc, aI ci (q 1) 600 fl, aI ci (q 2) 1024 wd, aI cz (q 3) 8 df, aI cz (q 4) 8 ag, aI ci (q 5) 8 mk, aI ci (q 6) 8 sc, aI ci (q 7) 12 nu, aI ci (q 8) 12 co, aI ci (q 9) 12 fi, aI ci (q 10) 12 ad, aI ci (q 11) 1800 it, aI ci (q 12) 8 (upd sp 6 r_3), aI ci (q 13) 160 stk] H := hP
      have hD : va_D A [oM q ref n num den mag fac who fnd pc ic a sta lb la fo dee kc, aI ci (q 1) 600 fl, aI ci (q 2) 1024 wd, aI cz (q 3) 8 df, aI cz (q 4) 8 ag, aI ci (q 5) 8 mk, aI ci (q 6) 8 sc, aI ci (q 7) 12 nu, aI ci (q 8) 12 co, aI ci (q 9) 12 fi, aI ci (q 10) 12 ad, aI ci (q 11) 1800 it, aI ci (q 12) 8 (upd sp 6 r_3), aI ci (q 13) 160 stk] := hD
      refine lv_aload_n hx hb dX9_right_89 rfl (lv_at hl 2 rfl) ?_
      refine va_get (D := G) (ci := 8) (v := .ref (q 12)) (C := RX9) (T := TX9) (N := 30) hx hb hts hi_X9 hown hK hP 0 rfl rfl 28 (by decide) f_48 (fun _ h9 => h9) rfl dX9_right_90 ?_
      refine lv_iconst (v := nI 0) hx hb dX9_right_93 (by decide) ?_
      refine lv_dup2_11 hx hb dX9_right_94 rfl rfl ?_
      refine va_iald hx hb hK hP 12 0 rfl rfl (vp_in_nI (by omega) (by omega)) dX9_right_95 ?_
      refine tp (y := (upd sp 6 r_3) 0) (congrArg (upd sp 6 r_3) (nI_clamp (by omega))) ?_
      refine lv_iload_n hx hb dX9_right_96 rfl (lv_at hl 3 rfl) ?_
      refine lv_iadd hx hb dX9_right_97 ?_
      refine va_iast hx hb hK hP hD hS 12 0 rfl rfl (vp_in_nI (by omega) (by omega)) dX9_right_98 (fun H locs hP hD hS => ?_)
      rw [nI_clamp (by omega)] at hP hD
      have hP : va_P G vwCl [oM q ref n num den mag fac who fnd pc ic a sta lb la fo dee kc, aI ci (q 1) 600 fl, aI ci (q 2) 1024 wd, aI cz (q 3) 8 df, aI cz (q 4) 8 ag, aI ci (q 5) 8 mk, aI ci (q 6) 8 sc, aI ci (q 7) 12 nu, aI ci (q 8) 12 co, aI ci (q 9) 12 fi, aI ci (q 10) 12 ad, aI ci (q 11) 1800 it, aI ci (q 12) 8 (upd (upd sp 6 r_3) 0 (((upd sp 6 r_3) 0) + x)), aI ci (q 13) 160 stk] H := hP
      have hD : va_D A [oM q ref n num den mag fac who fnd pc ic a sta lb la fo dee kc, aI ci (q 1) 600 fl, aI ci (q 2) 1024 wd, aI cz (q 3) 8 df, aI cz (q 4) 8 ag, aI ci (q 5) 8 mk, aI ci (q 6) 8 sc, aI ci (q 7) 12 nu, aI ci (q 8) 12 co, aI ci (q 9) 12 fi, aI ci (q 10) 12 ad, aI ci (q 11) 1800 it, aI ci (q 12) 8 (upd (upd sp 6 r_3) 0 (((upd sp 6 r_3) 0) + x)), aI ci (q 13) 160 stk] := hD
      refine lv_aload_n hx hb dX9_right_99 rfl (lv_at hl 2 rfl) ?_
      refine lv_bipush (v := nI 6) hx hb dX9_right_100 (by decide) ?_
      refine lv_iconst (v := nI 0) hx hb dX9_right_102 (by decide) ?_
      refine jV (va_runV (As := [.int (nI 6), .int (nI 0)]) (rest := []) ⟨hx, hb, hml, hown, hts⟩ (c_X9_hold l G ci cz cl q H.size 6 0 ref n num den mag fac who fnd pc ic a sta lb la fo dee kc fl wd df ag mk sc nu co fi ad it (upd (upd sp 6 r_3) 0 (((upd sp 6 r_3) 0) + x)) stk (by omega) (by omega) (by assumption)) (cwV 2 hts gX9_right_X9_hold rfl rfl rfl (by decide +kernel) ⟨(Nat.le_of_ble_eq_true rfl), (Nat.le_of_ble_eq_true rfl)⟩) (pV (wc := [oM q ref n num den mag fac who fnd pc ic a sta lb la fo dee kc, aI ci (q 1) 600 fl, aI ci (q 2) 1024 wd, aI cz (q 3) 8 df, aI cz (q 4) 8 ag, aI ci (q 5) 8 mk, aI ci (q 6) 8 sc, aI ci (q 7) 12 nu, aI ci (q 8) 12 co, aI ci (q 9) 12 fi, aI ci (q 10) 12 ad, aI ci (q 11) 1800 it, aI ci (q 12) 8 (upd (upd sp 6 r_3) 0 (((upd sp 6 r_3) 0) + x)), aI ci (q 13) 160 stk]) ok hK hP hD hS hA hO [0, 1, 2, 3, 4, 5, 6, 7, 8, 9, 10, 11, 12, 13] rfl (by decide) 0 rfl rfl) rfl rfl hl.1 rfl (lv_room (Nat.le_of_ble_eq_true rfl)) dX9_right_103 ⟨(Nat.le_of_ble_eq_true rfl), (Nat.le_of_ble_eq_true rfl)⟩) (wr := []) hP hD hS hA [0, 1, 2, 3, 4, 5, 6, 7, 8, 9, 10, 11, 12, 13] [] rfl rfl (by decide) (by decide) (fun u H locs hw_4 hP hD hS => ?_)
      obtain ⟨sp2_4, rfl⟩ : ∃ z, z = u := ⟨_, rfl⟩
      try dsimp only at hw_4
      have h_4 := hw_4
      have hP : va_P G vwCl [oM q ref n num den mag fac who fnd pc ic a sta lb la fo dee kc, aI ci (q 1) 600 fl, aI ci (q 2) 1024 wd, aI cz (q 3) 8 df, aI cz (q 4) 8 ag, aI ci (q 5) 8 mk, aI ci (q 6) 8 sc, aI ci (q 7) 12 nu, aI ci (q 8) 12 co, aI ci (q 9) 12 fi, aI ci (q 10) 12 ad, aI ci (q 11) 1800 it, aI ci (q 12) 8 sp2_4, aI ci (q 13) 160 stk] H := hP
      have hD : va_D A [oM q ref n num den mag fac who fnd pc ic a sta lb la fo dee kc, aI ci (q 1) 600 fl, aI ci (q 2) 1024 wd, aI cz (q 3) 8 df, aI cz (q 4) 8 ag, aI ci (q 5) 8 mk, aI ci (q 6) 8 sc, aI ci (q 7) 12 nu, aI ci (q 8) 12 co, aI ci (q 9) 12 fi, aI ci (q 10) 12 ad, aI ci (q 11) 1800 it, aI ci (q 12) 8 sp2_4, aI ci (q 13) 160 stk] := hD
      exact rV hx hb hr hlocks hK hP hD hS [0, 1, 2, 3, 4, 5, 6, 7, 8, 9, 10, 11, 12, 13] sp2_4 rfl (by decide) (RMh_u h_4) dX9_right_106
    · skip
      have z_2 := mt (i_lt fo (nI 0)).mpr c_2
      rw [nI_toInt (n := 0) (by omega)] at z_2
      refine lv_iload_n hx hb dX9_right_31 rfl (lv_at hl 2 rfl) ?_
      refine lv_iload_n hx hb dX9_right_32 rfl (lv_at hl 0 rfl) ?_
      refine lv_icmp_ge (tgt := 48) hx hb dX9_right_33 (by decide) (fun c_5 => ?_) (fun c_5 => ?_)
      · skip
        have z_5 := (i_le ((sc (fo).toNatClampNeg) / (nI 6)) x).mp c_5
        refine lv_iconst (v := nI 0) hx hb dX9_right_48 (by decide) ?_
        refine lv_istore_n (lv' := [(3, .int (nI 0)), (2, .int ((sc (fo).toNatClampNeg) / (nI 6))), (0, .ref (q 0)), (1, .int x)]) hx hb dX9_right_49 rfl hl (by decide) rfl (fun ls hl => ?_)
        refine lv_aload_n hx hb dX9_right_50 rfl (lv_at hl 2 rfl) ?_
        refine va_get (D := G) (ci := 8) (v := .ref (q 12)) (C := RX9) (T := TX9) (N := 30) hx hb hts hi_X9 hown hK hP 0 rfl rfl 28 (by decide) f_48 (fun _ h9 => h9) rfl dX9_right_51 ?_
        refine lv_bipush (v := nI 6) hx hb dX9_right_54 (by decide) ?_
        refine lv_iload_n hx hb dX9_right_56 rfl (lv_at hl 0 rfl) ?_
        refine lv_if_eq (tgt := 76) hx hb dX9_right_57 (by decide) (fun _ => ?_) (fun c => absurd c (by decide))
        refine lv_aload_n hx hb dX9_right_76 rfl (lv_at hl 2 rfl) ?_
        refine lv_aload_n hx hb dX9_right_77 rfl (lv_at hl 2 rfl) ?_
        refine va_get (D := G) (ci := 8) (v := .ref (q 12)) (C := RX9) (T := TX9) (N := 30) hx hb hts hi_X9 hown hK hP 0 rfl rfl 28 (by decide) f_48 (fun _ h9 => h9) rfl dX9_right_78 ?_
        refine lv_iconst (v := nI 0) hx hb dX9_right_81 (by decide) ?_
        refine va_iald hx hb hK hP 12 0 rfl rfl (vp_in_nI (by omega) (by omega)) dX9_right_82 ?_
        refine tp (y := sp 0) (congrArg sp (nI_clamp (by omega))) ?_
        refine lv_iload_n hx hb dX9_right_83 rfl (lv_at hl 3 rfl) ?_
        refine lv_iadd hx hb dX9_right_84 ?_
        refine jI (va_runV (As := [.int ((sp 0) + x)]) (rest := [.int (nI 6), .ref (q 12)]) ⟨hx, hb, hml, hown, hts⟩ (c_X9_rounded l G ci cz cl q H.size ((sp 0) + x) ref n num den mag fac who fnd pc ic a sta lb la fo dee kc fl wd df ag mk sc nu co fi ad it sp stk (by assumption)) (cwV 1 hts gX9_right_X9_rounded rfl rfl rfl (by decide +kernel) ⟨(Nat.le_of_ble_eq_true rfl), (Nat.le_of_ble_eq_true rfl)⟩) (pV (wc := [oM q ref n num den mag fac who fnd pc ic a sta lb la fo dee kc, aI ci (q 1) 600 fl, aI ci (q 2) 1024 wd, aI cz (q 3) 8 df, aI cz (q 4) 8 ag, aI ci (q 5) 8 mk, aI ci (q 6) 8 sc, aI ci (q 7) 12 nu, aI ci (q 8) 12 co, aI ci (q 9) 12 fi, aI ci (q 10) 12 ad, aI ci (q 11) 1800 it, aI ci (q 12) 8 sp, aI ci (q 13) 160 stk]) ok hK hP hD hS hA hO [0, 1, 2, 3, 4, 5, 6, 7, 8, 9, 10, 11, 12, 13] rfl (by decide) 0 rfl rfl) rfl rfl hl.1 rfl (lv_room (Nat.le_of_ble_eq_true rfl)) dX9_right_85 ⟨(Nat.le_of_ble_eq_true rfl), (Nat.le_of_ble_eq_true rfl)⟩) (wr := []) hP hD hS hA [0, 1, 2, 3, 4, 5, 6, 7, 8, 9, 10, 11, 12, 13] [] rfl rfl (by decide) (by decide) (fun r_6 u H locs hw_6 hP hD hS => ?_)
        try dsimp only at hw_6
        have hP : va_P G vwCl [oM q ref n num den mag fac who fnd pc ic a sta lb la fo dee kc, aI ci (q 1) 600 fl, aI ci (q 2) 1024 wd, aI cz (q 3) 8 df, aI cz (q 4) 8 ag, aI ci (q 5) 8 mk, aI ci (q 6) 8 sc, aI ci (q 7) 12 nu, aI ci (q 8) 12 co, aI ci (q 9) 12 fi, aI ci (q 10) 12 ad, aI ci (q 11) 1800 it, aI ci (q 12) 8 sp, aI ci (q 13) 160 stk] H := hP
        have hD : va_D A [oM q ref n num den mag fac who fnd pc ic a sta lb la fo dee kc, aI ci (q 1) 600 fl, aI ci (q 2) 1024 wd, aI cz (q 3) 8 df, aI cz (q 4) 8 ag, aI ci (q 5) 8 mk, aI ci (q 6) 8 sc, aI ci (q 7) 12 nu, aI ci (q 8) 12 co, aI ci (q 9) 12 fi, aI ci (q 10) 12 ad, aI ci (q 11) 1800 it, aI ci (q 12) 8 sp, aI ci (q 13) 160 stk] := hD
        refine va_iast hx hb hK hP hD hS 12 0 rfl rfl (vp_in_nI (by omega) (by omega)) dX9_right_88 (fun H locs hP hD hS => ?_)
        rw [nI_clamp (by omega)] at hP hD
        have hP : va_P G vwCl [oM q ref n num den mag fac who fnd pc ic a sta lb la fo dee kc, aI ci (q 1) 600 fl, aI ci (q 2) 1024 wd, aI cz (q 3) 8 df, aI cz (q 4) 8 ag, aI ci (q 5) 8 mk, aI ci (q 6) 8 sc, aI ci (q 7) 12 nu, aI ci (q 8) 12 co, aI ci (q 9) 12 fi, aI ci (q 10) 12 ad, aI ci (q 11) 1800 it, aI ci (q 12) 8 (upd sp 6 r_6), aI ci (q 13) 160 stk] H := hP
        have hD : va_D A [oM q ref n num den mag fac who fnd pc ic a sta lb la fo dee kc, aI ci (q 1) 600 fl, aI ci (q 2) 1024 wd, aI cz (q 3) 8 df, aI cz (q 4) 8 ag, aI ci (q 5) 8 mk, aI ci (q 6) 8 sc, aI ci (q 7) 12 nu, aI ci (q 8) 12 co, aI ci (q 9) 12 fi, aI ci (q 10) 12 ad, aI ci (q 11) 1800 it, aI ci (q 12) 8 (upd sp 6 r_6), aI ci (q 13) 160 stk] := hD
        refine lv_aload_n hx hb dX9_right_89 rfl (lv_at hl 2 rfl) ?_
        refine va_get (D := G) (ci := 8) (v := .ref (q 12)) (C := RX9) (T := TX9) (N := 30) hx hb hts hi_X9 hown hK hP 0 rfl rfl 28 (by decide) f_48 (fun _ h9 => h9) rfl dX9_right_90 ?_
        refine lv_iconst (v := nI 0) hx hb dX9_right_93 (by decide) ?_
        refine lv_dup2_11 hx hb dX9_right_94 rfl rfl ?_
        refine va_iald hx hb hK hP 12 0 rfl rfl (vp_in_nI (by omega) (by omega)) dX9_right_95 ?_
        refine tp (y := (upd sp 6 r_6) 0) (congrArg (upd sp 6 r_6) (nI_clamp (by omega))) ?_
        refine lv_iload_n hx hb dX9_right_96 rfl (lv_at hl 3 rfl) ?_
        refine lv_iadd hx hb dX9_right_97 ?_
        refine va_iast hx hb hK hP hD hS 12 0 rfl rfl (vp_in_nI (by omega) (by omega)) dX9_right_98 (fun H locs hP hD hS => ?_)
        rw [nI_clamp (by omega)] at hP hD
        have hP : va_P G vwCl [oM q ref n num den mag fac who fnd pc ic a sta lb la fo dee kc, aI ci (q 1) 600 fl, aI ci (q 2) 1024 wd, aI cz (q 3) 8 df, aI cz (q 4) 8 ag, aI ci (q 5) 8 mk, aI ci (q 6) 8 sc, aI ci (q 7) 12 nu, aI ci (q 8) 12 co, aI ci (q 9) 12 fi, aI ci (q 10) 12 ad, aI ci (q 11) 1800 it, aI ci (q 12) 8 (upd (upd sp 6 r_6) 0 (((upd sp 6 r_6) 0) + x)), aI ci (q 13) 160 stk] H := hP
        have hD : va_D A [oM q ref n num den mag fac who fnd pc ic a sta lb la fo dee kc, aI ci (q 1) 600 fl, aI ci (q 2) 1024 wd, aI cz (q 3) 8 df, aI cz (q 4) 8 ag, aI ci (q 5) 8 mk, aI ci (q 6) 8 sc, aI ci (q 7) 12 nu, aI ci (q 8) 12 co, aI ci (q 9) 12 fi, aI ci (q 10) 12 ad, aI ci (q 11) 1800 it, aI ci (q 12) 8 (upd (upd sp 6 r_6) 0 (((upd sp 6 r_6) 0) + x)), aI ci (q 13) 160 stk] := hD
        refine lv_aload_n hx hb dX9_right_99 rfl (lv_at hl 2 rfl) ?_
        refine lv_bipush (v := nI 6) hx hb dX9_right_100 (by decide) ?_
        refine lv_iconst (v := nI 0) hx hb dX9_right_102 (by decide) ?_
        refine jV (va_runV (As := [.int (nI 6), .int (nI 0)]) (rest := []) ⟨hx, hb, hml, hown, hts⟩ (c_X9_hold l G ci cz cl q H.size 6 0 ref n num den mag fac who fnd pc ic a sta lb la fo dee kc fl wd df ag mk sc nu co fi ad it (upd (upd sp 6 r_6) 0 (((upd sp 6 r_6) 0) + x)) stk (by omega) (by omega) (by assumption)) (cwV 2 hts gX9_right_X9_hold rfl rfl rfl (by decide +kernel) ⟨(Nat.le_of_ble_eq_true rfl), (Nat.le_of_ble_eq_true rfl)⟩) (pV (wc := [oM q ref n num den mag fac who fnd pc ic a sta lb la fo dee kc, aI ci (q 1) 600 fl, aI ci (q 2) 1024 wd, aI cz (q 3) 8 df, aI cz (q 4) 8 ag, aI ci (q 5) 8 mk, aI ci (q 6) 8 sc, aI ci (q 7) 12 nu, aI ci (q 8) 12 co, aI ci (q 9) 12 fi, aI ci (q 10) 12 ad, aI ci (q 11) 1800 it, aI ci (q 12) 8 (upd (upd sp 6 r_6) 0 (((upd sp 6 r_6) 0) + x)), aI ci (q 13) 160 stk]) ok hK hP hD hS hA hO [0, 1, 2, 3, 4, 5, 6, 7, 8, 9, 10, 11, 12, 13] rfl (by decide) 0 rfl rfl) rfl rfl hl.1 rfl (lv_room (Nat.le_of_ble_eq_true rfl)) dX9_right_103 ⟨(Nat.le_of_ble_eq_true rfl), (Nat.le_of_ble_eq_true rfl)⟩) (wr := []) hP hD hS hA [0, 1, 2, 3, 4, 5, 6, 7, 8, 9, 10, 11, 12, 13] [] rfl rfl (by decide) (by decide) (fun u H locs hw_7 hP hD hS => ?_)
        obtain ⟨sp2_7, rfl⟩ : ∃ z, z = u := ⟨_, rfl⟩
        try dsimp only at hw_7
        have h_7 := hw_7
        have hP : va_P G vwCl [oM q ref n num den mag fac who fnd pc ic a sta lb la fo dee kc, aI ci (q 1) 600 fl, aI ci (q 2) 1024 wd, aI cz (q 3) 8 df, aI cz (q 4) 8 ag, aI ci (q 5) 8 mk, aI ci (q 6) 8 sc, aI ci (q 7) 12 nu, aI ci (q 8) 12 co, aI ci (q 9) 12 fi, aI ci (q 10) 12 ad, aI ci (q 11) 1800 it, aI ci (q 12) 8 sp2_7, aI ci (q 13) 160 stk] H := hP
        have hD : va_D A [oM q ref n num den mag fac who fnd pc ic a sta lb la fo dee kc, aI ci (q 1) 600 fl, aI ci (q 2) 1024 wd, aI cz (q 3) 8 df, aI cz (q 4) 8 ag, aI ci (q 5) 8 mk, aI ci (q 6) 8 sc, aI ci (q 7) 12 nu, aI ci (q 8) 12 co, aI ci (q 9) 12 fi, aI ci (q 10) 12 ad, aI ci (q 11) 1800 it, aI ci (q 12) 8 sp2_7, aI ci (q 13) 160 stk] := hD
        exact rV hx hb hr hlocks hK hP hD hS [0, 1, 2, 3, 4, 5, 6, 7, 8, 9, 10, 11, 12, 13] sp2_7 rfl (by decide) (RMh_u h_7) dX9_right_106
      · skip
        have z_5 := mt (i_le ((sc (fo).toNatClampNeg) / (nI 6)) x).mpr c_5
        refine lv_iload_n hx hb dX9_right_36 rfl (lv_at hl 2 rfl) ?_
        refine lv_bipush (v := (-4)) hx hb dX9_right_37 (by decide) ?_
        refine lv_iload_n hx hb dX9_right_39 rfl (lv_at hl 0 rfl) ?_
        refine lv_imul hx hb dX9_right_40 ?_
        refine lv_icmp_le (tgt := 48) hx hb dX9_right_41 (by decide) (fun c_8 => ?_) (fun c_8 => ?_)
        · skip
          have z_8 := (i_le x ((-4) * ((sc (fo).toNatClampNeg) / (nI 6)))).mp c_8
          refine lv_iconst (v := nI 0) hx hb dX9_right_48 (by decide) ?_
          refine lv_istore_n (lv' := [(3, .int (nI 0)), (2, .int ((sc (fo).toNatClampNeg) / (nI 6))), (0, .ref (q 0)), (1, .int x)]) hx hb dX9_right_49 rfl hl (by decide) rfl (fun ls hl => ?_)
          refine lv_aload_n hx hb dX9_right_50 rfl (lv_at hl 2 rfl) ?_
          refine va_get (D := G) (ci := 8) (v := .ref (q 12)) (C := RX9) (T := TX9) (N := 30) hx hb hts hi_X9 hown hK hP 0 rfl rfl 28 (by decide) f_48 (fun _ h9 => h9) rfl dX9_right_51 ?_
          refine lv_bipush (v := nI 6) hx hb dX9_right_54 (by decide) ?_
          refine lv_iload_n hx hb dX9_right_56 rfl (lv_at hl 0 rfl) ?_
          refine lv_if_eq (tgt := 76) hx hb dX9_right_57 (by decide) (fun _ => ?_) (fun c => absurd c (by decide))
          refine lv_aload_n hx hb dX9_right_76 rfl (lv_at hl 2 rfl) ?_
          refine lv_aload_n hx hb dX9_right_77 rfl (lv_at hl 2 rfl) ?_
          refine va_get (D := G) (ci := 8) (v := .ref (q 12)) (C := RX9) (T := TX9) (N := 30) hx hb hts hi_X9 hown hK hP 0 rfl rfl 28 (by decide) f_48 (fun _ h9 => h9) rfl dX9_right_78 ?_
          refine lv_iconst (v := nI 0) hx hb dX9_right_81 (by decide) ?_
          refine va_iald hx hb hK hP 12 0 rfl rfl (vp_in_nI (by omega) (by omega)) dX9_right_82 ?_
          refine tp (y := sp 0) (congrArg sp (nI_clamp (by omega))) ?_
          refine lv_iload_n hx hb dX9_right_83 rfl (lv_at hl 3 rfl) ?_
          refine lv_iadd hx hb dX9_right_84 ?_
          refine jI (va_runV (As := [.int ((sp 0) + x)]) (rest := [.int (nI 6), .ref (q 12)]) ⟨hx, hb, hml, hown, hts⟩ (c_X9_rounded l G ci cz cl q H.size ((sp 0) + x) ref n num den mag fac who fnd pc ic a sta lb la fo dee kc fl wd df ag mk sc nu co fi ad it sp stk (by assumption)) (cwV 1 hts gX9_right_X9_rounded rfl rfl rfl (by decide +kernel) ⟨(Nat.le_of_ble_eq_true rfl), (Nat.le_of_ble_eq_true rfl)⟩) (pV (wc := [oM q ref n num den mag fac who fnd pc ic a sta lb la fo dee kc, aI ci (q 1) 600 fl, aI ci (q 2) 1024 wd, aI cz (q 3) 8 df, aI cz (q 4) 8 ag, aI ci (q 5) 8 mk, aI ci (q 6) 8 sc, aI ci (q 7) 12 nu, aI ci (q 8) 12 co, aI ci (q 9) 12 fi, aI ci (q 10) 12 ad, aI ci (q 11) 1800 it, aI ci (q 12) 8 sp, aI ci (q 13) 160 stk]) ok hK hP hD hS hA hO [0, 1, 2, 3, 4, 5, 6, 7, 8, 9, 10, 11, 12, 13] rfl (by decide) 0 rfl rfl) rfl rfl hl.1 rfl (lv_room (Nat.le_of_ble_eq_true rfl)) dX9_right_85 ⟨(Nat.le_of_ble_eq_true rfl), (Nat.le_of_ble_eq_true rfl)⟩) (wr := []) hP hD hS hA [0, 1, 2, 3, 4, 5, 6, 7, 8, 9, 10, 11, 12, 13] [] rfl rfl (by decide) (by decide) (fun r_9 u H locs hw_9 hP hD hS => ?_)
          try dsimp only at hw_9
          have hP : va_P G vwCl [oM q ref n num den mag fac who fnd pc ic a sta lb la fo dee kc, aI ci (q 1) 600 fl, aI ci (q 2) 1024 wd, aI cz (q 3) 8 df, aI cz (q 4) 8 ag, aI ci (q 5) 8 mk, aI ci (q 6) 8 sc, aI ci (q 7) 12 nu, aI ci (q 8) 12 co, aI ci (q 9) 12 fi, aI ci (q 10) 12 ad, aI ci (q 11) 1800 it, aI ci (q 12) 8 sp, aI ci (q 13) 160 stk] H := hP
          have hD : va_D A [oM q ref n num den mag fac who fnd pc ic a sta lb la fo dee kc, aI ci (q 1) 600 fl, aI ci (q 2) 1024 wd, aI cz (q 3) 8 df, aI cz (q 4) 8 ag, aI ci (q 5) 8 mk, aI ci (q 6) 8 sc, aI ci (q 7) 12 nu, aI ci (q 8) 12 co, aI ci (q 9) 12 fi, aI ci (q 10) 12 ad, aI ci (q 11) 1800 it, aI ci (q 12) 8 sp, aI ci (q 13) 160 stk] := hD
          refine va_iast hx hb hK hP hD hS 12 0 rfl rfl (vp_in_nI (by omega) (by omega)) dX9_right_88 (fun H locs hP hD hS => ?_)
          rw [nI_clamp (by omega)] at hP hD
          have hP : va_P G vwCl [oM q ref n num den mag fac who fnd pc ic a sta lb la fo dee kc, aI ci (q 1) 600 fl, aI ci (q 2) 1024 wd, aI cz (q 3) 8 df, aI cz (q 4) 8 ag, aI ci (q 5) 8 mk, aI ci (q 6) 8 sc, aI ci (q 7) 12 nu, aI ci (q 8) 12 co, aI ci (q 9) 12 fi, aI ci (q 10) 12 ad, aI ci (q 11) 1800 it, aI ci (q 12) 8 (upd sp 6 r_9), aI ci (q 13) 160 stk] H := hP
          have hD : va_D A [oM q ref n num den mag fac who fnd pc ic a sta lb la fo dee kc, aI ci (q 1) 600 fl, aI ci (q 2) 1024 wd, aI cz (q 3) 8 df, aI cz (q 4) 8 ag, aI ci (q 5) 8 mk, aI ci (q 6) 8 sc, aI ci (q 7) 12 nu, aI ci (q 8) 12 co, aI ci (q 9) 12 fi, aI ci (q 10) 12 ad, aI ci (q 11) 1800 it, aI ci (q 12) 8 (upd sp 6 r_9), aI ci (q 13) 160 stk] := hD
          refine lv_aload_n hx hb dX9_right_89 rfl (lv_at hl 2 rfl) ?_
          refine va_get (D := G) (ci := 8) (v := .ref (q 12)) (C := RX9) (T := TX9) (N := 30) hx hb hts hi_X9 hown hK hP 0 rfl rfl 28 (by decide) f_48 (fun _ h9 => h9) rfl dX9_right_90 ?_
          refine lv_iconst (v := nI 0) hx hb dX9_right_93 (by decide) ?_
          refine lv_dup2_11 hx hb dX9_right_94 rfl rfl ?_
          refine va_iald hx hb hK hP 12 0 rfl rfl (vp_in_nI (by omega) (by omega)) dX9_right_95 ?_
          refine tp (y := (upd sp 6 r_9) 0) (congrArg (upd sp 6 r_9) (nI_clamp (by omega))) ?_
          refine lv_iload_n hx hb dX9_right_96 rfl (lv_at hl 3 rfl) ?_
          refine lv_iadd hx hb dX9_right_97 ?_
          refine va_iast hx hb hK hP hD hS 12 0 rfl rfl (vp_in_nI (by omega) (by omega)) dX9_right_98 (fun H locs hP hD hS => ?_)
          rw [nI_clamp (by omega)] at hP hD
          have hP : va_P G vwCl [oM q ref n num den mag fac who fnd pc ic a sta lb la fo dee kc, aI ci (q 1) 600 fl, aI ci (q 2) 1024 wd, aI cz (q 3) 8 df, aI cz (q 4) 8 ag, aI ci (q 5) 8 mk, aI ci (q 6) 8 sc, aI ci (q 7) 12 nu, aI ci (q 8) 12 co, aI ci (q 9) 12 fi, aI ci (q 10) 12 ad, aI ci (q 11) 1800 it, aI ci (q 12) 8 (upd (upd sp 6 r_9) 0 (((upd sp 6 r_9) 0) + x)), aI ci (q 13) 160 stk] H := hP
          have hD : va_D A [oM q ref n num den mag fac who fnd pc ic a sta lb la fo dee kc, aI ci (q 1) 600 fl, aI ci (q 2) 1024 wd, aI cz (q 3) 8 df, aI cz (q 4) 8 ag, aI ci (q 5) 8 mk, aI ci (q 6) 8 sc, aI ci (q 7) 12 nu, aI ci (q 8) 12 co, aI ci (q 9) 12 fi, aI ci (q 10) 12 ad, aI ci (q 11) 1800 it, aI ci (q 12) 8 (upd (upd sp 6 r_9) 0 (((upd sp 6 r_9) 0) + x)), aI ci (q 13) 160 stk] := hD
          refine lv_aload_n hx hb dX9_right_99 rfl (lv_at hl 2 rfl) ?_
          refine lv_bipush (v := nI 6) hx hb dX9_right_100 (by decide) ?_
          refine lv_iconst (v := nI 0) hx hb dX9_right_102 (by decide) ?_
          refine jV (va_runV (As := [.int (nI 6), .int (nI 0)]) (rest := []) ⟨hx, hb, hml, hown, hts⟩ (c_X9_hold l G ci cz cl q H.size 6 0 ref n num den mag fac who fnd pc ic a sta lb la fo dee kc fl wd df ag mk sc nu co fi ad it (upd (upd sp 6 r_9) 0 (((upd sp 6 r_9) 0) + x)) stk (by omega) (by omega) (by assumption)) (cwV 2 hts gX9_right_X9_hold rfl rfl rfl (by decide +kernel) ⟨(Nat.le_of_ble_eq_true rfl), (Nat.le_of_ble_eq_true rfl)⟩) (pV (wc := [oM q ref n num den mag fac who fnd pc ic a sta lb la fo dee kc, aI ci (q 1) 600 fl, aI ci (q 2) 1024 wd, aI cz (q 3) 8 df, aI cz (q 4) 8 ag, aI ci (q 5) 8 mk, aI ci (q 6) 8 sc, aI ci (q 7) 12 nu, aI ci (q 8) 12 co, aI ci (q 9) 12 fi, aI ci (q 10) 12 ad, aI ci (q 11) 1800 it, aI ci (q 12) 8 (upd (upd sp 6 r_9) 0 (((upd sp 6 r_9) 0) + x)), aI ci (q 13) 160 stk]) ok hK hP hD hS hA hO [0, 1, 2, 3, 4, 5, 6, 7, 8, 9, 10, 11, 12, 13] rfl (by decide) 0 rfl rfl) rfl rfl hl.1 rfl (lv_room (Nat.le_of_ble_eq_true rfl)) dX9_right_103 ⟨(Nat.le_of_ble_eq_true rfl), (Nat.le_of_ble_eq_true rfl)⟩) (wr := []) hP hD hS hA [0, 1, 2, 3, 4, 5, 6, 7, 8, 9, 10, 11, 12, 13] [] rfl rfl (by decide) (by decide) (fun u H locs hw_10 hP hD hS => ?_)
          obtain ⟨sp2_10, rfl⟩ : ∃ z, z = u := ⟨_, rfl⟩
          try dsimp only at hw_10
          have h_10 := hw_10
          have hP : va_P G vwCl [oM q ref n num den mag fac who fnd pc ic a sta lb la fo dee kc, aI ci (q 1) 600 fl, aI ci (q 2) 1024 wd, aI cz (q 3) 8 df, aI cz (q 4) 8 ag, aI ci (q 5) 8 mk, aI ci (q 6) 8 sc, aI ci (q 7) 12 nu, aI ci (q 8) 12 co, aI ci (q 9) 12 fi, aI ci (q 10) 12 ad, aI ci (q 11) 1800 it, aI ci (q 12) 8 sp2_10, aI ci (q 13) 160 stk] H := hP
          have hD : va_D A [oM q ref n num den mag fac who fnd pc ic a sta lb la fo dee kc, aI ci (q 1) 600 fl, aI ci (q 2) 1024 wd, aI cz (q 3) 8 df, aI cz (q 4) 8 ag, aI ci (q 5) 8 mk, aI ci (q 6) 8 sc, aI ci (q 7) 12 nu, aI ci (q 8) 12 co, aI ci (q 9) 12 fi, aI ci (q 10) 12 ad, aI ci (q 11) 1800 it, aI ci (q 12) 8 sp2_10, aI ci (q 13) 160 stk] := hD
          exact rV hx hb hr hlocks hK hP hD hS [0, 1, 2, 3, 4, 5, 6, 7, 8, 9, 10, 11, 12, 13] sp2_10 rfl (by decide) (RMh_u h_10) dX9_right_106
        · skip
          have z_8 := mt (i_le x ((-4) * ((sc (fo).toNatClampNeg) / (nI 6)))).mpr c_8
          refine lv_iconst (v := nI 1) hx hb dX9_right_44 (by decide) ?_
          refine lv_goto (tgt := 49) hx hb dX9_right_45 (by decide) ?_
          refine lv_istore_n (lv' := [(3, .int (nI 1)), (2, .int ((sc (fo).toNatClampNeg) / (nI 6))), (0, .ref (q 0)), (1, .int x)]) hx hb dX9_right_49 rfl hl (by decide) rfl (fun ls hl => ?_)
          refine lv_aload_n hx hb dX9_right_50 rfl (lv_at hl 2 rfl) ?_
          refine va_get (D := G) (ci := 8) (v := .ref (q 12)) (C := RX9) (T := TX9) (N := 30) hx hb hts hi_X9 hown hK hP 0 rfl rfl 28 (by decide) f_48 (fun _ h9 => h9) rfl dX9_right_51 ?_
          refine lv_bipush (v := nI 6) hx hb dX9_right_54 (by decide) ?_
          refine lv_iload_n hx hb dX9_right_56 rfl (lv_at hl 0 rfl) ?_
          refine lv_if_eq (tgt := 76) hx hb dX9_right_57 (by decide) (fun c => absurd c (by decide)) (fun _ => ?_)
          refine lv_aload_n hx hb dX9_right_60 rfl (lv_at hl 2 rfl) ?_
          refine va_get (D := G) (ci := 8) (v := .ref (q 12)) (C := RX9) (T := TX9) (N := 30) hx hb hts hi_X9 hown hK hP 0 rfl rfl 28 (by decide) f_48 (fun _ h9 => h9) rfl dX9_right_61 ?_
          refine lv_bipush (v := nI 6) hx hb dX9_right_64 (by decide) ?_
          refine va_iald hx hb hK hP 12 0 rfl rfl (vp_in_nI (by omega) (by omega)) dX9_right_66 ?_
          refine tp (y := sp 6) (congrArg sp (nI_clamp (by omega))) ?_
          refine lv_aload_n hx hb dX9_right_67 rfl (lv_at hl 2 rfl) ?_
          refine lv_iload_n hx hb dX9_right_68 rfl (lv_at hl 3 rfl) ?_
          refine jI (va_runV (As := [.int x]) (rest := [.int (sp 6), .int (nI 6), .ref (q 12)]) ⟨hx, hb, hml, hown, hts⟩ (c_X9_rounded l G ci cz cl q H.size x ref n num den mag fac who fnd pc ic a sta lb la fo dee kc fl wd df ag mk sc nu co fi ad it sp stk (by assumption)) (cwV 1 hts gX9_right_X9_rounded rfl rfl rfl (by decide +kernel) ⟨(Nat.le_of_ble_eq_true rfl), (Nat.le_of_ble_eq_true rfl)⟩) (pV (wc := [oM q ref n num den mag fac who fnd pc ic a sta lb la fo dee kc, aI ci (q 1) 600 fl, aI ci (q 2) 1024 wd, aI cz (q 3) 8 df, aI cz (q 4) 8 ag, aI ci (q 5) 8 mk, aI ci (q 6) 8 sc, aI ci (q 7) 12 nu, aI ci (q 8) 12 co, aI ci (q 9) 12 fi, aI ci (q 10) 12 ad, aI ci (q 11) 1800 it, aI ci (q 12) 8 sp, aI ci (q 13) 160 stk]) ok hK hP hD hS hA hO [0, 1, 2, 3, 4, 5, 6, 7, 8, 9, 10, 11, 12, 13] rfl (by decide) 0 rfl rfl) rfl rfl hl.1 rfl (lv_room (Nat.le_of_ble_eq_true rfl)) dX9_right_69 ⟨(Nat.le_of_ble_eq_true rfl), (Nat.le_of_ble_eq_true rfl)⟩) (wr := []) hP hD hS hA [0, 1, 2, 3, 4, 5, 6, 7, 8, 9, 10, 11, 12, 13] [] rfl rfl (by decide) (by decide) (fun r_11 u H locs hw_11 hP hD hS => ?_)
          try dsimp only at hw_11
          have hP : va_P G vwCl [oM q ref n num den mag fac who fnd pc ic a sta lb la fo dee kc, aI ci (q 1) 600 fl, aI ci (q 2) 1024 wd, aI cz (q 3) 8 df, aI cz (q 4) 8 ag, aI ci (q 5) 8 mk, aI ci (q 6) 8 sc, aI ci (q 7) 12 nu, aI ci (q 8) 12 co, aI ci (q 9) 12 fi, aI ci (q 10) 12 ad, aI ci (q 11) 1800 it, aI ci (q 12) 8 sp, aI ci (q 13) 160 stk] H := hP
          have hD : va_D A [oM q ref n num den mag fac who fnd pc ic a sta lb la fo dee kc, aI ci (q 1) 600 fl, aI ci (q 2) 1024 wd, aI cz (q 3) 8 df, aI cz (q 4) 8 ag, aI ci (q 5) 8 mk, aI ci (q 6) 8 sc, aI ci (q 7) 12 nu, aI ci (q 8) 12 co, aI ci (q 9) 12 fi, aI ci (q 10) 12 ad, aI ci (q 11) 1800 it, aI ci (q 12) 8 sp, aI ci (q 13) 160 stk] := hD
          refine lv_iadd hx hb dX9_right_72 ?_
          refine lv_goto (tgt := 88) hx hb dX9_right_73 (by decide) ?_
          refine va_iast hx hb hK hP hD hS 12 0 rfl rfl (vp_in_nI (by omega) (by omega)) dX9_right_88 (fun H locs hP hD hS => ?_)
          rw [nI_clamp (by omega)] at hP hD
          have hP : va_P G vwCl [oM q ref n num den mag fac who fnd pc ic a sta lb la fo dee kc, aI ci (q 1) 600 fl, aI ci (q 2) 1024 wd, aI cz (q 3) 8 df, aI cz (q 4) 8 ag, aI ci (q 5) 8 mk, aI ci (q 6) 8 sc, aI ci (q 7) 12 nu, aI ci (q 8) 12 co, aI ci (q 9) 12 fi, aI ci (q 10) 12 ad, aI ci (q 11) 1800 it, aI ci (q 12) 8 (upd sp 6 ((sp 6) + r_11)), aI ci (q 13) 160 stk] H := hP
          have hD : va_D A [oM q ref n num den mag fac who fnd pc ic a sta lb la fo dee kc, aI ci (q 1) 600 fl, aI ci (q 2) 1024 wd, aI cz (q 3) 8 df, aI cz (q 4) 8 ag, aI ci (q 5) 8 mk, aI ci (q 6) 8 sc, aI ci (q 7) 12 nu, aI ci (q 8) 12 co, aI ci (q 9) 12 fi, aI ci (q 10) 12 ad, aI ci (q 11) 1800 it, aI ci (q 12) 8 (upd sp 6 ((sp 6) + r_11)), aI ci (q 13) 160 stk] := hD
          refine lv_aload_n hx hb dX9_right_89 rfl (lv_at hl 2 rfl) ?_
          refine va_get (D := G) (ci := 8) (v := .ref (q 12)) (C := RX9) (T := TX9) (N := 30) hx hb hts hi_X9 hown hK hP 0 rfl rfl 28 (by decide) f_48 (fun _ h9 => h9) rfl dX9_right_90 ?_
          refine lv_iconst (v := nI 0) hx hb dX9_right_93 (by decide) ?_
          refine lv_dup2_11 hx hb dX9_right_94 rfl rfl ?_
          refine va_iald hx hb hK hP 12 0 rfl rfl (vp_in_nI (by omega) (by omega)) dX9_right_95 ?_
          refine tp (y := (upd sp 6 ((sp 6) + r_11)) 0) (congrArg (upd sp 6 ((sp 6) + r_11)) (nI_clamp (by omega))) ?_
          refine lv_iload_n hx hb dX9_right_96 rfl (lv_at hl 3 rfl) ?_
          refine lv_iadd hx hb dX9_right_97 ?_
          refine va_iast hx hb hK hP hD hS 12 0 rfl rfl (vp_in_nI (by omega) (by omega)) dX9_right_98 (fun H locs hP hD hS => ?_)
          rw [nI_clamp (by omega)] at hP hD
          have hP : va_P G vwCl [oM q ref n num den mag fac who fnd pc ic a sta lb la fo dee kc, aI ci (q 1) 600 fl, aI ci (q 2) 1024 wd, aI cz (q 3) 8 df, aI cz (q 4) 8 ag, aI ci (q 5) 8 mk, aI ci (q 6) 8 sc, aI ci (q 7) 12 nu, aI ci (q 8) 12 co, aI ci (q 9) 12 fi, aI ci (q 10) 12 ad, aI ci (q 11) 1800 it, aI ci (q 12) 8 (upd (upd sp 6 ((sp 6) + r_11)) 0 (((upd sp 6 ((sp 6) + r_11)) 0) + x)), aI ci (q 13) 160 stk] H := hP
          have hD : va_D A [oM q ref n num den mag fac who fnd pc ic a sta lb la fo dee kc, aI ci (q 1) 600 fl, aI ci (q 2) 1024 wd, aI cz (q 3) 8 df, aI cz (q 4) 8 ag, aI ci (q 5) 8 mk, aI ci (q 6) 8 sc, aI ci (q 7) 12 nu, aI ci (q 8) 12 co, aI ci (q 9) 12 fi, aI ci (q 10) 12 ad, aI ci (q 11) 1800 it, aI ci (q 12) 8 (upd (upd sp 6 ((sp 6) + r_11)) 0 (((upd sp 6 ((sp 6) + r_11)) 0) + x)), aI ci (q 13) 160 stk] := hD
          refine lv_aload_n hx hb dX9_right_99 rfl (lv_at hl 2 rfl) ?_
          refine lv_bipush (v := nI 6) hx hb dX9_right_100 (by decide) ?_
          refine lv_iconst (v := nI 0) hx hb dX9_right_102 (by decide) ?_
          refine jV (va_runV (As := [.int (nI 6), .int (nI 0)]) (rest := []) ⟨hx, hb, hml, hown, hts⟩ (c_X9_hold l G ci cz cl q H.size 6 0 ref n num den mag fac who fnd pc ic a sta lb la fo dee kc fl wd df ag mk sc nu co fi ad it (upd (upd sp 6 ((sp 6) + r_11)) 0 (((upd sp 6 ((sp 6) + r_11)) 0) + x)) stk (by omega) (by omega) (by assumption)) (cwV 2 hts gX9_right_X9_hold rfl rfl rfl (by decide +kernel) ⟨(Nat.le_of_ble_eq_true rfl), (Nat.le_of_ble_eq_true rfl)⟩) (pV (wc := [oM q ref n num den mag fac who fnd pc ic a sta lb la fo dee kc, aI ci (q 1) 600 fl, aI ci (q 2) 1024 wd, aI cz (q 3) 8 df, aI cz (q 4) 8 ag, aI ci (q 5) 8 mk, aI ci (q 6) 8 sc, aI ci (q 7) 12 nu, aI ci (q 8) 12 co, aI ci (q 9) 12 fi, aI ci (q 10) 12 ad, aI ci (q 11) 1800 it, aI ci (q 12) 8 (upd (upd sp 6 ((sp 6) + r_11)) 0 (((upd sp 6 ((sp 6) + r_11)) 0) + x)), aI ci (q 13) 160 stk]) ok hK hP hD hS hA hO [0, 1, 2, 3, 4, 5, 6, 7, 8, 9, 10, 11, 12, 13] rfl (by decide) 0 rfl rfl) rfl rfl hl.1 rfl (lv_room (Nat.le_of_ble_eq_true rfl)) dX9_right_103 ⟨(Nat.le_of_ble_eq_true rfl), (Nat.le_of_ble_eq_true rfl)⟩) (wr := []) hP hD hS hA [0, 1, 2, 3, 4, 5, 6, 7, 8, 9, 10, 11, 12, 13] [] rfl rfl (by decide) (by decide) (fun u H locs hw_12 hP hD hS => ?_)
          obtain ⟨sp2_12, rfl⟩ : ∃ z, z = u := ⟨_, rfl⟩
          try dsimp only at hw_12
          have h_12 := hw_12
          have hP : va_P G vwCl [oM q ref n num den mag fac who fnd pc ic a sta lb la fo dee kc, aI ci (q 1) 600 fl, aI ci (q 2) 1024 wd, aI cz (q 3) 8 df, aI cz (q 4) 8 ag, aI ci (q 5) 8 mk, aI ci (q 6) 8 sc, aI ci (q 7) 12 nu, aI ci (q 8) 12 co, aI ci (q 9) 12 fi, aI ci (q 10) 12 ad, aI ci (q 11) 1800 it, aI ci (q 12) 8 sp2_12, aI ci (q 13) 160 stk] H := hP
          have hD : va_D A [oM q ref n num den mag fac who fnd pc ic a sta lb la fo dee kc, aI ci (q 1) 600 fl, aI ci (q 2) 1024 wd, aI cz (q 3) 8 df, aI cz (q 4) 8 ag, aI ci (q 5) 8 mk, aI ci (q 6) 8 sc, aI ci (q 7) 12 nu, aI ci (q 8) 12 co, aI ci (q 9) 12 fi, aI ci (q 10) 12 ad, aI ci (q 11) 1800 it, aI ci (q 12) 8 sp2_12, aI ci (q 13) 160 stk] := hD
          exact rV hx hb hr hlocks hK hP hD hS [0, 1, 2, 3, 4, 5, 6, 7, 8, 9, 10, 11, 12, 13] sp2_12 rfl (by decide) (RMh_u h_12) dX9_right_106
  · skip
    have z_1 := mt (i_le (nI 0) fo).mpr c_1
    rw [nI_toInt (n := 0) (by omega)] at z_1
    refine lv_iconst (v := nI 0) hx hb dX9_right_7 (by decide) ?_
    refine lv_goto (tgt := 23) hx hb dX9_right_8 (by decide) ?_
    refine lv_istore_n (lv' := [(2, .int (nI 0)), (0, .ref (q 0)), (1, .int x)]) hx hb dX9_right_23 rfl hl (by decide) rfl (fun ls hl => ?_)
    refine lv_aload_n hx hb dX9_right_24 rfl (lv_at hl 1 rfl) ?_
    refine va_get (D := G) (ci := 8) (v := .int fo) (C := RX9) (T := TX9) (N := 30) hx hb hts hi_X9 hown hK hP 0 rfl rfl 25 (by decide) f_82 (fun _ h9 => h9) rfl dX9_right_25 ?_
    refine lv_if_lt (tgt := 48) hx hb dX9_right_28 (by decide) (fun c_13 => ?_) (fun c_13 => ?_)
    · skip
      have z_13 := (i_lt fo (nI 0)).mp c_13
      rw [nI_toInt (n := 0) (by omega)] at z_13
      refine lv_iconst (v := nI 0) hx hb dX9_right_48 (by decide) ?_
      refine lv_istore_n (lv' := [(3, .int (nI 0)), (2, .int (nI 0)), (0, .ref (q 0)), (1, .int x)]) hx hb dX9_right_49 rfl hl (by decide) rfl (fun ls hl => ?_)
      refine lv_aload_n hx hb dX9_right_50 rfl (lv_at hl 2 rfl) ?_
      refine va_get (D := G) (ci := 8) (v := .ref (q 12)) (C := RX9) (T := TX9) (N := 30) hx hb hts hi_X9 hown hK hP 0 rfl rfl 28 (by decide) f_48 (fun _ h9 => h9) rfl dX9_right_51 ?_
      refine lv_bipush (v := nI 6) hx hb dX9_right_54 (by decide) ?_
      refine lv_iload_n hx hb dX9_right_56 rfl (lv_at hl 0 rfl) ?_
      refine lv_if_eq (tgt := 76) hx hb dX9_right_57 (by decide) (fun _ => ?_) (fun c => absurd c (by decide))
      refine lv_aload_n hx hb dX9_right_76 rfl (lv_at hl 2 rfl) ?_
      refine lv_aload_n hx hb dX9_right_77 rfl (lv_at hl 2 rfl) ?_
      refine va_get (D := G) (ci := 8) (v := .ref (q 12)) (C := RX9) (T := TX9) (N := 30) hx hb hts hi_X9 hown hK hP 0 rfl rfl 28 (by decide) f_48 (fun _ h9 => h9) rfl dX9_right_78 ?_
      refine lv_iconst (v := nI 0) hx hb dX9_right_81 (by decide) ?_
      refine va_iald hx hb hK hP 12 0 rfl rfl (vp_in_nI (by omega) (by omega)) dX9_right_82 ?_
      refine tp (y := sp 0) (congrArg sp (nI_clamp (by omega))) ?_
      refine lv_iload_n hx hb dX9_right_83 rfl (lv_at hl 3 rfl) ?_
      refine lv_iadd hx hb dX9_right_84 ?_
      refine jI (va_runV (As := [.int ((sp 0) + x)]) (rest := [.int (nI 6), .ref (q 12)]) ⟨hx, hb, hml, hown, hts⟩ (c_X9_rounded l G ci cz cl q H.size ((sp 0) + x) ref n num den mag fac who fnd pc ic a sta lb la fo dee kc fl wd df ag mk sc nu co fi ad it sp stk (by assumption)) (cwV 1 hts gX9_right_X9_rounded rfl rfl rfl (by decide +kernel) ⟨(Nat.le_of_ble_eq_true rfl), (Nat.le_of_ble_eq_true rfl)⟩) (pV (wc := [oM q ref n num den mag fac who fnd pc ic a sta lb la fo dee kc, aI ci (q 1) 600 fl, aI ci (q 2) 1024 wd, aI cz (q 3) 8 df, aI cz (q 4) 8 ag, aI ci (q 5) 8 mk, aI ci (q 6) 8 sc, aI ci (q 7) 12 nu, aI ci (q 8) 12 co, aI ci (q 9) 12 fi, aI ci (q 10) 12 ad, aI ci (q 11) 1800 it, aI ci (q 12) 8 sp, aI ci (q 13) 160 stk]) ok hK hP hD hS hA hO [0, 1, 2, 3, 4, 5, 6, 7, 8, 9, 10, 11, 12, 13] rfl (by decide) 0 rfl rfl) rfl rfl hl.1 rfl (lv_room (Nat.le_of_ble_eq_true rfl)) dX9_right_85 ⟨(Nat.le_of_ble_eq_true rfl), (Nat.le_of_ble_eq_true rfl)⟩) (wr := []) hP hD hS hA [0, 1, 2, 3, 4, 5, 6, 7, 8, 9, 10, 11, 12, 13] [] rfl rfl (by decide) (by decide) (fun r_14 u H locs hw_14 hP hD hS => ?_)
      try dsimp only at hw_14
      have hP : va_P G vwCl [oM q ref n num den mag fac who fnd pc ic a sta lb la fo dee kc, aI ci (q 1) 600 fl, aI ci (q 2) 1024 wd, aI cz (q 3) 8 df, aI cz (q 4) 8 ag, aI ci (q 5) 8 mk, aI ci (q 6) 8 sc, aI ci (q 7) 12 nu, aI ci (q 8) 12 co, aI ci (q 9) 12 fi, aI ci (q 10) 12 ad, aI ci (q 11) 1800 it, aI ci (q 12) 8 sp, aI ci (q 13) 160 stk] H := hP
      have hD : va_D A [oM q ref n num den mag fac who fnd pc ic a sta lb la fo dee kc, aI ci (q 1) 600 fl, aI ci (q 2) 1024 wd, aI cz (q 3) 8 df, aI cz (q 4) 8 ag, aI ci (q 5) 8 mk, aI ci (q 6) 8 sc, aI ci (q 7) 12 nu, aI ci (q 8) 12 co, aI ci (q 9) 12 fi, aI ci (q 10) 12 ad, aI ci (q 11) 1800 it, aI ci (q 12) 8 sp, aI ci (q 13) 160 stk] := hD
      refine va_iast hx hb hK hP hD hS 12 0 rfl rfl (vp_in_nI (by omega) (by omega)) dX9_right_88 (fun H locs hP hD hS => ?_)
      rw [nI_clamp (by omega)] at hP hD
      have hP : va_P G vwCl [oM q ref n num den mag fac who fnd pc ic a sta lb la fo dee kc, aI ci (q 1) 600 fl, aI ci (q 2) 1024 wd, aI cz (q 3) 8 df, aI cz (q 4) 8 ag, aI ci (q 5) 8 mk, aI ci (q 6) 8 sc, aI ci (q 7) 12 nu, aI ci (q 8) 12 co, aI ci (q 9) 12 fi, aI ci (q 10) 12 ad, aI ci (q 11) 1800 it, aI ci (q 12) 8 (upd sp 6 r_14), aI ci (q 13) 160 stk] H := hP
      have hD : va_D A [oM q ref n num den mag fac who fnd pc ic a sta lb la fo dee kc, aI ci (q 1) 600 fl, aI ci (q 2) 1024 wd, aI cz (q 3) 8 df, aI cz (q 4) 8 ag, aI ci (q 5) 8 mk, aI ci (q 6) 8 sc, aI ci (q 7) 12 nu, aI ci (q 8) 12 co, aI ci (q 9) 12 fi, aI ci (q 10) 12 ad, aI ci (q 11) 1800 it, aI ci (q 12) 8 (upd sp 6 r_14), aI ci (q 13) 160 stk] := hD
      refine lv_aload_n hx hb dX9_right_89 rfl (lv_at hl 2 rfl) ?_
      refine va_get (D := G) (ci := 8) (v := .ref (q 12)) (C := RX9) (T := TX9) (N := 30) hx hb hts hi_X9 hown hK hP 0 rfl rfl 28 (by decide) f_48 (fun _ h9 => h9) rfl dX9_right_90 ?_
      refine lv_iconst (v := nI 0) hx hb dX9_right_93 (by decide) ?_
      refine lv_dup2_11 hx hb dX9_right_94 rfl rfl ?_
      refine va_iald hx hb hK hP 12 0 rfl rfl (vp_in_nI (by omega) (by omega)) dX9_right_95 ?_
      refine tp (y := (upd sp 6 r_14) 0) (congrArg (upd sp 6 r_14) (nI_clamp (by omega))) ?_
      refine lv_iload_n hx hb dX9_right_96 rfl (lv_at hl 3 rfl) ?_
      refine lv_iadd hx hb dX9_right_97 ?_
      refine va_iast hx hb hK hP hD hS 12 0 rfl rfl (vp_in_nI (by omega) (by omega)) dX9_right_98 (fun H locs hP hD hS => ?_)
      rw [nI_clamp (by omega)] at hP hD
      have hP : va_P G vwCl [oM q ref n num den mag fac who fnd pc ic a sta lb la fo dee kc, aI ci (q 1) 600 fl, aI ci (q 2) 1024 wd, aI cz (q 3) 8 df, aI cz (q 4) 8 ag, aI ci (q 5) 8 mk, aI ci (q 6) 8 sc, aI ci (q 7) 12 nu, aI ci (q 8) 12 co, aI ci (q 9) 12 fi, aI ci (q 10) 12 ad, aI ci (q 11) 1800 it, aI ci (q 12) 8 (upd (upd sp 6 r_14) 0 (((upd sp 6 r_14) 0) + x)), aI ci (q 13) 160 stk] H := hP
      have hD : va_D A [oM q ref n num den mag fac who fnd pc ic a sta lb la fo dee kc, aI ci (q 1) 600 fl, aI ci (q 2) 1024 wd, aI cz (q 3) 8 df, aI cz (q 4) 8 ag, aI ci (q 5) 8 mk, aI ci (q 6) 8 sc, aI ci (q 7) 12 nu, aI ci (q 8) 12 co, aI ci (q 9) 12 fi, aI ci (q 10) 12 ad, aI ci (q 11) 1800 it, aI ci (q 12) 8 (upd (upd sp 6 r_14) 0 (((upd sp 6 r_14) 0) + x)), aI ci (q 13) 160 stk] := hD
      refine lv_aload_n hx hb dX9_right_99 rfl (lv_at hl 2 rfl) ?_
      refine lv_bipush (v := nI 6) hx hb dX9_right_100 (by decide) ?_
      refine lv_iconst (v := nI 0) hx hb dX9_right_102 (by decide) ?_
      refine jV (va_runV (As := [.int (nI 6), .int (nI 0)]) (rest := []) ⟨hx, hb, hml, hown, hts⟩ (c_X9_hold l G ci cz cl q H.size 6 0 ref n num den mag fac who fnd pc ic a sta lb la fo dee kc fl wd df ag mk sc nu co fi ad it (upd (upd sp 6 r_14) 0 (((upd sp 6 r_14) 0) + x)) stk (by omega) (by omega) (by assumption)) (cwV 2 hts gX9_right_X9_hold rfl rfl rfl (by decide +kernel) ⟨(Nat.le_of_ble_eq_true rfl), (Nat.le_of_ble_eq_true rfl)⟩) (pV (wc := [oM q ref n num den mag fac who fnd pc ic a sta lb la fo dee kc, aI ci (q 1) 600 fl, aI ci (q 2) 1024 wd, aI cz (q 3) 8 df, aI cz (q 4) 8 ag, aI ci (q 5) 8 mk, aI ci (q 6) 8 sc, aI ci (q 7) 12 nu, aI ci (q 8) 12 co, aI ci (q 9) 12 fi, aI ci (q 10) 12 ad, aI ci (q 11) 1800 it, aI ci (q 12) 8 (upd (upd sp 6 r_14) 0 (((upd sp 6 r_14) 0) + x)), aI ci (q 13) 160 stk]) ok hK hP hD hS hA hO [0, 1, 2, 3, 4, 5, 6, 7, 8, 9, 10, 11, 12, 13] rfl (by decide) 0 rfl rfl) rfl rfl hl.1 rfl (lv_room (Nat.le_of_ble_eq_true rfl)) dX9_right_103 ⟨(Nat.le_of_ble_eq_true rfl), (Nat.le_of_ble_eq_true rfl)⟩) (wr := []) hP hD hS hA [0, 1, 2, 3, 4, 5, 6, 7, 8, 9, 10, 11, 12, 13] [] rfl rfl (by decide) (by decide) (fun u H locs hw_15 hP hD hS => ?_)
      obtain ⟨sp2_15, rfl⟩ : ∃ z, z = u := ⟨_, rfl⟩
      try dsimp only at hw_15
      have h_15 := hw_15
      have hP : va_P G vwCl [oM q ref n num den mag fac who fnd pc ic a sta lb la fo dee kc, aI ci (q 1) 600 fl, aI ci (q 2) 1024 wd, aI cz (q 3) 8 df, aI cz (q 4) 8 ag, aI ci (q 5) 8 mk, aI ci (q 6) 8 sc, aI ci (q 7) 12 nu, aI ci (q 8) 12 co, aI ci (q 9) 12 fi, aI ci (q 10) 12 ad, aI ci (q 11) 1800 it, aI ci (q 12) 8 sp2_15, aI ci (q 13) 160 stk] H := hP
      have hD : va_D A [oM q ref n num den mag fac who fnd pc ic a sta lb la fo dee kc, aI ci (q 1) 600 fl, aI ci (q 2) 1024 wd, aI cz (q 3) 8 df, aI cz (q 4) 8 ag, aI ci (q 5) 8 mk, aI ci (q 6) 8 sc, aI ci (q 7) 12 nu, aI ci (q 8) 12 co, aI ci (q 9) 12 fi, aI ci (q 10) 12 ad, aI ci (q 11) 1800 it, aI ci (q 12) 8 sp2_15, aI ci (q 13) 160 stk] := hD
      exact rV hx hb hr hlocks hK hP hD hS [0, 1, 2, 3, 4, 5, 6, 7, 8, 9, 10, 11, 12, 13] sp2_15 rfl (by decide) (RMh_u h_15) dX9_right_106
    · skip
      have z_13 := mt (i_lt fo (nI 0)).mpr c_13
      rw [nI_toInt (n := 0) (by omega)] at z_13
      refine lv_iload_n hx hb dX9_right_31 rfl (lv_at hl 2 rfl) ?_
      refine lv_iload_n hx hb dX9_right_32 rfl (lv_at hl 0 rfl) ?_
      refine lv_icmp_ge (tgt := 48) hx hb dX9_right_33 (by decide) (fun c_16 => ?_) (fun c_16 => ?_)
      · skip
        have z_16 := (i_le (nI 0) x).mp c_16
        rw [nI_toInt (n := 0) (by omega)] at z_16
        refine lv_iconst (v := nI 0) hx hb dX9_right_48 (by decide) ?_
        refine lv_istore_n (lv' := [(3, .int (nI 0)), (2, .int (nI 0)), (0, .ref (q 0)), (1, .int x)]) hx hb dX9_right_49 rfl hl (by decide) rfl (fun ls hl => ?_)
        refine lv_aload_n hx hb dX9_right_50 rfl (lv_at hl 2 rfl) ?_
        refine va_get (D := G) (ci := 8) (v := .ref (q 12)) (C := RX9) (T := TX9) (N := 30) hx hb hts hi_X9 hown hK hP 0 rfl rfl 28 (by decide) f_48 (fun _ h9 => h9) rfl dX9_right_51 ?_
        refine lv_bipush (v := nI 6) hx hb dX9_right_54 (by decide) ?_
        refine lv_iload_n hx hb dX9_right_56 rfl (lv_at hl 0 rfl) ?_
        refine lv_if_eq (tgt := 76) hx hb dX9_right_57 (by decide) (fun _ => ?_) (fun c => absurd c (by decide))
        refine lv_aload_n hx hb dX9_right_76 rfl (lv_at hl 2 rfl) ?_
        refine lv_aload_n hx hb dX9_right_77 rfl (lv_at hl 2 rfl) ?_
        refine va_get (D := G) (ci := 8) (v := .ref (q 12)) (C := RX9) (T := TX9) (N := 30) hx hb hts hi_X9 hown hK hP 0 rfl rfl 28 (by decide) f_48 (fun _ h9 => h9) rfl dX9_right_78 ?_
        refine lv_iconst (v := nI 0) hx hb dX9_right_81 (by decide) ?_
        refine va_iald hx hb hK hP 12 0 rfl rfl (vp_in_nI (by omega) (by omega)) dX9_right_82 ?_
        refine tp (y := sp 0) (congrArg sp (nI_clamp (by omega))) ?_
        refine lv_iload_n hx hb dX9_right_83 rfl (lv_at hl 3 rfl) ?_
        refine lv_iadd hx hb dX9_right_84 ?_
        refine jI (va_runV (As := [.int ((sp 0) + x)]) (rest := [.int (nI 6), .ref (q 12)]) ⟨hx, hb, hml, hown, hts⟩ (c_X9_rounded l G ci cz cl q H.size ((sp 0) + x) ref n num den mag fac who fnd pc ic a sta lb la fo dee kc fl wd df ag mk sc nu co fi ad it sp stk (by assumption)) (cwV 1 hts gX9_right_X9_rounded rfl rfl rfl (by decide +kernel) ⟨(Nat.le_of_ble_eq_true rfl), (Nat.le_of_ble_eq_true rfl)⟩) (pV (wc := [oM q ref n num den mag fac who fnd pc ic a sta lb la fo dee kc, aI ci (q 1) 600 fl, aI ci (q 2) 1024 wd, aI cz (q 3) 8 df, aI cz (q 4) 8 ag, aI ci (q 5) 8 mk, aI ci (q 6) 8 sc, aI ci (q 7) 12 nu, aI ci (q 8) 12 co, aI ci (q 9) 12 fi, aI ci (q 10) 12 ad, aI ci (q 11) 1800 it, aI ci (q 12) 8 sp, aI ci (q 13) 160 stk]) ok hK hP hD hS hA hO [0, 1, 2, 3, 4, 5, 6, 7, 8, 9, 10, 11, 12, 13] rfl (by decide) 0 rfl rfl) rfl rfl hl.1 rfl (lv_room (Nat.le_of_ble_eq_true rfl)) dX9_right_85 ⟨(Nat.le_of_ble_eq_true rfl), (Nat.le_of_ble_eq_true rfl)⟩) (wr := []) hP hD hS hA [0, 1, 2, 3, 4, 5, 6, 7, 8, 9, 10, 11, 12, 13] [] rfl rfl (by decide) (by decide) (fun r_17 u H locs hw_17 hP hD hS => ?_)
        try dsimp only at hw_17
        have hP : va_P G vwCl [oM q ref n num den mag fac who fnd pc ic a sta lb la fo dee kc, aI ci (q 1) 600 fl, aI ci (q 2) 1024 wd, aI cz (q 3) 8 df, aI cz (q 4) 8 ag, aI ci (q 5) 8 mk, aI ci (q 6) 8 sc, aI ci (q 7) 12 nu, aI ci (q 8) 12 co, aI ci (q 9) 12 fi, aI ci (q 10) 12 ad, aI ci (q 11) 1800 it, aI ci (q 12) 8 sp, aI ci (q 13) 160 stk] H := hP
        have hD : va_D A [oM q ref n num den mag fac who fnd pc ic a sta lb la fo dee kc, aI ci (q 1) 600 fl, aI ci (q 2) 1024 wd, aI cz (q 3) 8 df, aI cz (q 4) 8 ag, aI ci (q 5) 8 mk, aI ci (q 6) 8 sc, aI ci (q 7) 12 nu, aI ci (q 8) 12 co, aI ci (q 9) 12 fi, aI ci (q 10) 12 ad, aI ci (q 11) 1800 it, aI ci (q 12) 8 sp, aI ci (q 13) 160 stk] := hD
        refine va_iast hx hb hK hP hD hS 12 0 rfl rfl (vp_in_nI (by omega) (by omega)) dX9_right_88 (fun H locs hP hD hS => ?_)
        rw [nI_clamp (by omega)] at hP hD
        have hP : va_P G vwCl [oM q ref n num den mag fac who fnd pc ic a sta lb la fo dee kc, aI ci (q 1) 600 fl, aI ci (q 2) 1024 wd, aI cz (q 3) 8 df, aI cz (q 4) 8 ag, aI ci (q 5) 8 mk, aI ci (q 6) 8 sc, aI ci (q 7) 12 nu, aI ci (q 8) 12 co, aI ci (q 9) 12 fi, aI ci (q 10) 12 ad, aI ci (q 11) 1800 it, aI ci (q 12) 8 (upd sp 6 r_17), aI ci (q 13) 160 stk] H := hP
        have hD : va_D A [oM q ref n num den mag fac who fnd pc ic a sta lb la fo dee kc, aI ci (q 1) 600 fl, aI ci (q 2) 1024 wd, aI cz (q 3) 8 df, aI cz (q 4) 8 ag, aI ci (q 5) 8 mk, aI ci (q 6) 8 sc, aI ci (q 7) 12 nu, aI ci (q 8) 12 co, aI ci (q 9) 12 fi, aI ci (q 10) 12 ad, aI ci (q 11) 1800 it, aI ci (q 12) 8 (upd sp 6 r_17), aI ci (q 13) 160 stk] := hD
        refine lv_aload_n hx hb dX9_right_89 rfl (lv_at hl 2 rfl) ?_
        refine va_get (D := G) (ci := 8) (v := .ref (q 12)) (C := RX9) (T := TX9) (N := 30) hx hb hts hi_X9 hown hK hP 0 rfl rfl 28 (by decide) f_48 (fun _ h9 => h9) rfl dX9_right_90 ?_
        refine lv_iconst (v := nI 0) hx hb dX9_right_93 (by decide) ?_
        refine lv_dup2_11 hx hb dX9_right_94 rfl rfl ?_
        refine va_iald hx hb hK hP 12 0 rfl rfl (vp_in_nI (by omega) (by omega)) dX9_right_95 ?_
        refine tp (y := (upd sp 6 r_17) 0) (congrArg (upd sp 6 r_17) (nI_clamp (by omega))) ?_
        refine lv_iload_n hx hb dX9_right_96 rfl (lv_at hl 3 rfl) ?_
        refine lv_iadd hx hb dX9_right_97 ?_
        refine va_iast hx hb hK hP hD hS 12 0 rfl rfl (vp_in_nI (by omega) (by omega)) dX9_right_98 (fun H locs hP hD hS => ?_)
        rw [nI_clamp (by omega)] at hP hD
        have hP : va_P G vwCl [oM q ref n num den mag fac who fnd pc ic a sta lb la fo dee kc, aI ci (q 1) 600 fl, aI ci (q 2) 1024 wd, aI cz (q 3) 8 df, aI cz (q 4) 8 ag, aI ci (q 5) 8 mk, aI ci (q 6) 8 sc, aI ci (q 7) 12 nu, aI ci (q 8) 12 co, aI ci (q 9) 12 fi, aI ci (q 10) 12 ad, aI ci (q 11) 1800 it, aI ci (q 12) 8 (upd (upd sp 6 r_17) 0 (((upd sp 6 r_17) 0) + x)), aI ci (q 13) 160 stk] H := hP
        have hD : va_D A [oM q ref n num den mag fac who fnd pc ic a sta lb la fo dee kc, aI ci (q 1) 600 fl, aI ci (q 2) 1024 wd, aI cz (q 3) 8 df, aI cz (q 4) 8 ag, aI ci (q 5) 8 mk, aI ci (q 6) 8 sc, aI ci (q 7) 12 nu, aI ci (q 8) 12 co, aI ci (q 9) 12 fi, aI ci (q 10) 12 ad, aI ci (q 11) 1800 it, aI ci (q 12) 8 (upd (upd sp 6 r_17) 0 (((upd sp 6 r_17) 0) + x)), aI ci (q 13) 160 stk] := hD
        refine lv_aload_n hx hb dX9_right_99 rfl (lv_at hl 2 rfl) ?_
        refine lv_bipush (v := nI 6) hx hb dX9_right_100 (by decide) ?_
        refine lv_iconst (v := nI 0) hx hb dX9_right_102 (by decide) ?_
        refine jV (va_runV (As := [.int (nI 6), .int (nI 0)]) (rest := []) ⟨hx, hb, hml, hown, hts⟩ (c_X9_hold l G ci cz cl q H.size 6 0 ref n num den mag fac who fnd pc ic a sta lb la fo dee kc fl wd df ag mk sc nu co fi ad it (upd (upd sp 6 r_17) 0 (((upd sp 6 r_17) 0) + x)) stk (by omega) (by omega) (by assumption)) (cwV 2 hts gX9_right_X9_hold rfl rfl rfl (by decide +kernel) ⟨(Nat.le_of_ble_eq_true rfl), (Nat.le_of_ble_eq_true rfl)⟩) (pV (wc := [oM q ref n num den mag fac who fnd pc ic a sta lb la fo dee kc, aI ci (q 1) 600 fl, aI ci (q 2) 1024 wd, aI cz (q 3) 8 df, aI cz (q 4) 8 ag, aI ci (q 5) 8 mk, aI ci (q 6) 8 sc, aI ci (q 7) 12 nu, aI ci (q 8) 12 co, aI ci (q 9) 12 fi, aI ci (q 10) 12 ad, aI ci (q 11) 1800 it, aI ci (q 12) 8 (upd (upd sp 6 r_17) 0 (((upd sp 6 r_17) 0) + x)), aI ci (q 13) 160 stk]) ok hK hP hD hS hA hO [0, 1, 2, 3, 4, 5, 6, 7, 8, 9, 10, 11, 12, 13] rfl (by decide) 0 rfl rfl) rfl rfl hl.1 rfl (lv_room (Nat.le_of_ble_eq_true rfl)) dX9_right_103 ⟨(Nat.le_of_ble_eq_true rfl), (Nat.le_of_ble_eq_true rfl)⟩) (wr := []) hP hD hS hA [0, 1, 2, 3, 4, 5, 6, 7, 8, 9, 10, 11, 12, 13] [] rfl rfl (by decide) (by decide) (fun u H locs hw_18 hP hD hS => ?_)
        obtain ⟨sp2_18, rfl⟩ : ∃ z, z = u := ⟨_, rfl⟩
        try dsimp only at hw_18
        have h_18 := hw_18
        have hP : va_P G vwCl [oM q ref n num den mag fac who fnd pc ic a sta lb la fo dee kc, aI ci (q 1) 600 fl, aI ci (q 2) 1024 wd, aI cz (q 3) 8 df, aI cz (q 4) 8 ag, aI ci (q 5) 8 mk, aI ci (q 6) 8 sc, aI ci (q 7) 12 nu, aI ci (q 8) 12 co, aI ci (q 9) 12 fi, aI ci (q 10) 12 ad, aI ci (q 11) 1800 it, aI ci (q 12) 8 sp2_18, aI ci (q 13) 160 stk] H := hP
        have hD : va_D A [oM q ref n num den mag fac who fnd pc ic a sta lb la fo dee kc, aI ci (q 1) 600 fl, aI ci (q 2) 1024 wd, aI cz (q 3) 8 df, aI cz (q 4) 8 ag, aI ci (q 5) 8 mk, aI ci (q 6) 8 sc, aI ci (q 7) 12 nu, aI ci (q 8) 12 co, aI ci (q 9) 12 fi, aI ci (q 10) 12 ad, aI ci (q 11) 1800 it, aI ci (q 12) 8 sp2_18, aI ci (q 13) 160 stk] := hD
        exact rV hx hb hr hlocks hK hP hD hS [0, 1, 2, 3, 4, 5, 6, 7, 8, 9, 10, 11, 12, 13] sp2_18 rfl (by decide) (RMh_u h_18) dX9_right_106
      · skip
        have z_16 := mt (i_le (nI 0) x).mpr c_16
        rw [nI_toInt (n := 0) (by omega)] at z_16
        refine lv_iload_n hx hb dX9_right_36 rfl (lv_at hl 2 rfl) ?_
        refine lv_bipush (v := (-4)) hx hb dX9_right_37 (by decide) ?_
        refine lv_iload_n hx hb dX9_right_39 rfl (lv_at hl 0 rfl) ?_
        refine lv_imul hx hb dX9_right_40 ?_
        refine lv_icmp_le (tgt := 48) hx hb dX9_right_41 (by decide) (fun c_19 => ?_) (fun c_19 => ?_)
        · skip
          have z_19 := (i_le x ((-4) * (nI 0))).mp c_19
          refine lv_iconst (v := nI 0) hx hb dX9_right_48 (by decide) ?_
          refine lv_istore_n (lv' := [(3, .int (nI 0)), (2, .int (nI 0)), (0, .ref (q 0)), (1, .int x)]) hx hb dX9_right_49 rfl hl (by decide) rfl (fun ls hl => ?_)
          refine lv_aload_n hx hb dX9_right_50 rfl (lv_at hl 2 rfl) ?_
          refine va_get (D := G) (ci := 8) (v := .ref (q 12)) (C := RX9) (T := TX9) (N := 30) hx hb hts hi_X9 hown hK hP 0 rfl rfl 28 (by decide) f_48 (fun _ h9 => h9) rfl dX9_right_51 ?_
          refine lv_bipush (v := nI 6) hx hb dX9_right_54 (by decide) ?_
          refine lv_iload_n hx hb dX9_right_56 rfl (lv_at hl 0 rfl) ?_
          refine lv_if_eq (tgt := 76) hx hb dX9_right_57 (by decide) (fun _ => ?_) (fun c => absurd c (by decide))
          refine lv_aload_n hx hb dX9_right_76 rfl (lv_at hl 2 rfl) ?_
          refine lv_aload_n hx hb dX9_right_77 rfl (lv_at hl 2 rfl) ?_
          refine va_get (D := G) (ci := 8) (v := .ref (q 12)) (C := RX9) (T := TX9) (N := 30) hx hb hts hi_X9 hown hK hP 0 rfl rfl 28 (by decide) f_48 (fun _ h9 => h9) rfl dX9_right_78 ?_
          refine lv_iconst (v := nI 0) hx hb dX9_right_81 (by decide) ?_
          refine va_iald hx hb hK hP 12 0 rfl rfl (vp_in_nI (by omega) (by omega)) dX9_right_82 ?_
          refine tp (y := sp 0) (congrArg sp (nI_clamp (by omega))) ?_
          refine lv_iload_n hx hb dX9_right_83 rfl (lv_at hl 3 rfl) ?_
          refine lv_iadd hx hb dX9_right_84 ?_
          refine jI (va_runV (As := [.int ((sp 0) + x)]) (rest := [.int (nI 6), .ref (q 12)]) ⟨hx, hb, hml, hown, hts⟩ (c_X9_rounded l G ci cz cl q H.size ((sp 0) + x) ref n num den mag fac who fnd pc ic a sta lb la fo dee kc fl wd df ag mk sc nu co fi ad it sp stk (by assumption)) (cwV 1 hts gX9_right_X9_rounded rfl rfl rfl (by decide +kernel) ⟨(Nat.le_of_ble_eq_true rfl), (Nat.le_of_ble_eq_true rfl)⟩) (pV (wc := [oM q ref n num den mag fac who fnd pc ic a sta lb la fo dee kc, aI ci (q 1) 600 fl, aI ci (q 2) 1024 wd, aI cz (q 3) 8 df, aI cz (q 4) 8 ag, aI ci (q 5) 8 mk, aI ci (q 6) 8 sc, aI ci (q 7) 12 nu, aI ci (q 8) 12 co, aI ci (q 9) 12 fi, aI ci (q 10) 12 ad, aI ci (q 11) 1800 it, aI ci (q 12) 8 sp, aI ci (q 13) 160 stk]) ok hK hP hD hS hA hO [0, 1, 2, 3, 4, 5, 6, 7, 8, 9, 10, 11, 12, 13] rfl (by decide) 0 rfl rfl) rfl rfl hl.1 rfl (lv_room (Nat.le_of_ble_eq_true rfl)) dX9_right_85 ⟨(Nat.le_of_ble_eq_true rfl), (Nat.le_of_ble_eq_true rfl)⟩) (wr := []) hP hD hS hA [0, 1, 2, 3, 4, 5, 6, 7, 8, 9, 10, 11, 12, 13] [] rfl rfl (by decide) (by decide) (fun r_20 u H locs hw_20 hP hD hS => ?_)
          try dsimp only at hw_20
          have hP : va_P G vwCl [oM q ref n num den mag fac who fnd pc ic a sta lb la fo dee kc, aI ci (q 1) 600 fl, aI ci (q 2) 1024 wd, aI cz (q 3) 8 df, aI cz (q 4) 8 ag, aI ci (q 5) 8 mk, aI ci (q 6) 8 sc, aI ci (q 7) 12 nu, aI ci (q 8) 12 co, aI ci (q 9) 12 fi, aI ci (q 10) 12 ad, aI ci (q 11) 1800 it, aI ci (q 12) 8 sp, aI ci (q 13) 160 stk] H := hP
          have hD : va_D A [oM q ref n num den mag fac who fnd pc ic a sta lb la fo dee kc, aI ci (q 1) 600 fl, aI ci (q 2) 1024 wd, aI cz (q 3) 8 df, aI cz (q 4) 8 ag, aI ci (q 5) 8 mk, aI ci (q 6) 8 sc, aI ci (q 7) 12 nu, aI ci (q 8) 12 co, aI ci (q 9) 12 fi, aI ci (q 10) 12 ad, aI ci (q 11) 1800 it, aI ci (q 12) 8 sp, aI ci (q 13) 160 stk] := hD
          refine va_iast hx hb hK hP hD hS 12 0 rfl rfl (vp_in_nI (by omega) (by omega)) dX9_right_88 (fun H locs hP hD hS => ?_)
          rw [nI_clamp (by omega)] at hP hD
          have hP : va_P G vwCl [oM q ref n num den mag fac who fnd pc ic a sta lb la fo dee kc, aI ci (q 1) 600 fl, aI ci (q 2) 1024 wd, aI cz (q 3) 8 df, aI cz (q 4) 8 ag, aI ci (q 5) 8 mk, aI ci (q 6) 8 sc, aI ci (q 7) 12 nu, aI ci (q 8) 12 co, aI ci (q 9) 12 fi, aI ci (q 10) 12 ad, aI ci (q 11) 1800 it, aI ci (q 12) 8 (upd sp 6 r_20), aI ci (q 13) 160 stk] H := hP
          have hD : va_D A [oM q ref n num den mag fac who fnd pc ic a sta lb la fo dee kc, aI ci (q 1) 600 fl, aI ci (q 2) 1024 wd, aI cz (q 3) 8 df, aI cz (q 4) 8 ag, aI ci (q 5) 8 mk, aI ci (q 6) 8 sc, aI ci (q 7) 12 nu, aI ci (q 8) 12 co, aI ci (q 9) 12 fi, aI ci (q 10) 12 ad, aI ci (q 11) 1800 it, aI ci (q 12) 8 (upd sp 6 r_20), aI ci (q 13) 160 stk] := hD
          refine lv_aload_n hx hb dX9_right_89 rfl (lv_at hl 2 rfl) ?_
          refine va_get (D := G) (ci := 8) (v := .ref (q 12)) (C := RX9) (T := TX9) (N := 30) hx hb hts hi_X9 hown hK hP 0 rfl rfl 28 (by decide) f_48 (fun _ h9 => h9) rfl dX9_right_90 ?_
          refine lv_iconst (v := nI 0) hx hb dX9_right_93 (by decide) ?_
          refine lv_dup2_11 hx hb dX9_right_94 rfl rfl ?_
          refine va_iald hx hb hK hP 12 0 rfl rfl (vp_in_nI (by omega) (by omega)) dX9_right_95 ?_
          refine tp (y := (upd sp 6 r_20) 0) (congrArg (upd sp 6 r_20) (nI_clamp (by omega))) ?_
          refine lv_iload_n hx hb dX9_right_96 rfl (lv_at hl 3 rfl) ?_
          refine lv_iadd hx hb dX9_right_97 ?_
          refine va_iast hx hb hK hP hD hS 12 0 rfl rfl (vp_in_nI (by omega) (by omega)) dX9_right_98 (fun H locs hP hD hS => ?_)
          rw [nI_clamp (by omega)] at hP hD
          have hP : va_P G vwCl [oM q ref n num den mag fac who fnd pc ic a sta lb la fo dee kc, aI ci (q 1) 600 fl, aI ci (q 2) 1024 wd, aI cz (q 3) 8 df, aI cz (q 4) 8 ag, aI ci (q 5) 8 mk, aI ci (q 6) 8 sc, aI ci (q 7) 12 nu, aI ci (q 8) 12 co, aI ci (q 9) 12 fi, aI ci (q 10) 12 ad, aI ci (q 11) 1800 it, aI ci (q 12) 8 (upd (upd sp 6 r_20) 0 (((upd sp 6 r_20) 0) + x)), aI ci (q 13) 160 stk] H := hP
          have hD : va_D A [oM q ref n num den mag fac who fnd pc ic a sta lb la fo dee kc, aI ci (q 1) 600 fl, aI ci (q 2) 1024 wd, aI cz (q 3) 8 df, aI cz (q 4) 8 ag, aI ci (q 5) 8 mk, aI ci (q 6) 8 sc, aI ci (q 7) 12 nu, aI ci (q 8) 12 co, aI ci (q 9) 12 fi, aI ci (q 10) 12 ad, aI ci (q 11) 1800 it, aI ci (q 12) 8 (upd (upd sp 6 r_20) 0 (((upd sp 6 r_20) 0) + x)), aI ci (q 13) 160 stk] := hD
          refine lv_aload_n hx hb dX9_right_99 rfl (lv_at hl 2 rfl) ?_
          refine lv_bipush (v := nI 6) hx hb dX9_right_100 (by decide) ?_
          refine lv_iconst (v := nI 0) hx hb dX9_right_102 (by decide) ?_
          refine jV (va_runV (As := [.int (nI 6), .int (nI 0)]) (rest := []) ⟨hx, hb, hml, hown, hts⟩ (c_X9_hold l G ci cz cl q H.size 6 0 ref n num den mag fac who fnd pc ic a sta lb la fo dee kc fl wd df ag mk sc nu co fi ad it (upd (upd sp 6 r_20) 0 (((upd sp 6 r_20) 0) + x)) stk (by omega) (by omega) (by assumption)) (cwV 2 hts gX9_right_X9_hold rfl rfl rfl (by decide +kernel) ⟨(Nat.le_of_ble_eq_true rfl), (Nat.le_of_ble_eq_true rfl)⟩) (pV (wc := [oM q ref n num den mag fac who fnd pc ic a sta lb la fo dee kc, aI ci (q 1) 600 fl, aI ci (q 2) 1024 wd, aI cz (q 3) 8 df, aI cz (q 4) 8 ag, aI ci (q 5) 8 mk, aI ci (q 6) 8 sc, aI ci (q 7) 12 nu, aI ci (q 8) 12 co, aI ci (q 9) 12 fi, aI ci (q 10) 12 ad, aI ci (q 11) 1800 it, aI ci (q 12) 8 (upd (upd sp 6 r_20) 0 (((upd sp 6 r_20) 0) + x)), aI ci (q 13) 160 stk]) ok hK hP hD hS hA hO [0, 1, 2, 3, 4, 5, 6, 7, 8, 9, 10, 11, 12, 13] rfl (by decide) 0 rfl rfl) rfl rfl hl.1 rfl (lv_room (Nat.le_of_ble_eq_true rfl)) dX9_right_103 ⟨(Nat.le_of_ble_eq_true rfl), (Nat.le_of_ble_eq_true rfl)⟩) (wr := []) hP hD hS hA [0, 1, 2, 3, 4, 5, 6, 7, 8, 9, 10, 11, 12, 13] [] rfl rfl (by decide) (by decide) (fun u H locs hw_21 hP hD hS => ?_)
          obtain ⟨sp2_21, rfl⟩ : ∃ z, z = u := ⟨_, rfl⟩
          try dsimp only at hw_21
          have h_21 := hw_21
          have hP : va_P G vwCl [oM q ref n num den mag fac who fnd pc ic a sta lb la fo dee kc, aI ci (q 1) 600 fl, aI ci (q 2) 1024 wd, aI cz (q 3) 8 df, aI cz (q 4) 8 ag, aI ci (q 5) 8 mk, aI ci (q 6) 8 sc, aI ci (q 7) 12 nu, aI ci (q 8) 12 co, aI ci (q 9) 12 fi, aI ci (q 10) 12 ad, aI ci (q 11) 1800 it, aI ci (q 12) 8 sp2_21, aI ci (q 13) 160 stk] H := hP
          have hD : va_D A [oM q ref n num den mag fac who fnd pc ic a sta lb la fo dee kc, aI ci (q 1) 600 fl, aI ci (q 2) 1024 wd, aI cz (q 3) 8 df, aI cz (q 4) 8 ag, aI ci (q 5) 8 mk, aI ci (q 6) 8 sc, aI ci (q 7) 12 nu, aI ci (q 8) 12 co, aI ci (q 9) 12 fi, aI ci (q 10) 12 ad, aI ci (q 11) 1800 it, aI ci (q 12) 8 sp2_21, aI ci (q 13) 160 stk] := hD
          exact rV hx hb hr hlocks hK hP hD hS [0, 1, 2, 3, 4, 5, 6, 7, 8, 9, 10, 11, 12, 13] sp2_21 rfl (by decide) (RMh_u h_21) dX9_right_106
        · skip
          have z_19 := mt (i_le x ((-4) * (nI 0))).mpr c_19
          refine lv_iconst (v := nI 1) hx hb dX9_right_44 (by decide) ?_
          refine lv_goto (tgt := 49) hx hb dX9_right_45 (by decide) ?_
          refine lv_istore_n (lv' := [(3, .int (nI 1)), (2, .int (nI 0)), (0, .ref (q 0)), (1, .int x)]) hx hb dX9_right_49 rfl hl (by decide) rfl (fun ls hl => ?_)
          refine lv_aload_n hx hb dX9_right_50 rfl (lv_at hl 2 rfl) ?_
          refine va_get (D := G) (ci := 8) (v := .ref (q 12)) (C := RX9) (T := TX9) (N := 30) hx hb hts hi_X9 hown hK hP 0 rfl rfl 28 (by decide) f_48 (fun _ h9 => h9) rfl dX9_right_51 ?_
          refine lv_bipush (v := nI 6) hx hb dX9_right_54 (by decide) ?_
          refine lv_iload_n hx hb dX9_right_56 rfl (lv_at hl 0 rfl) ?_
          refine lv_if_eq (tgt := 76) hx hb dX9_right_57 (by decide) (fun c => absurd c (by decide)) (fun _ => ?_)
          refine lv_aload_n hx hb dX9_right_60 rfl (lv_at hl 2 rfl) ?_
          refine va_get (D := G) (ci := 8) (v := .ref (q 12)) (C := RX9) (T := TX9) (N := 30) hx hb hts hi_X9 hown hK hP 0 rfl rfl 28 (by decide) f_48 (fun _ h9 => h9) rfl dX9_right_61 ?_
          refine lv_bipush (v := nI 6) hx hb dX9_right_64 (by decide) ?_
          refine va_iald hx hb hK hP 12 0 rfl rfl (vp_in_nI (by omega) (by omega)) dX9_right_66 ?_
          refine tp (y := sp 6) (congrArg sp (nI_clamp (by omega))) ?_
          refine lv_aload_n hx hb dX9_right_67 rfl (lv_at hl 2 rfl) ?_
          refine lv_iload_n hx hb dX9_right_68 rfl (lv_at hl 3 rfl) ?_
          refine jI (va_runV (As := [.int x]) (rest := [.int (sp 6), .int (nI 6), .ref (q 12)]) ⟨hx, hb, hml, hown, hts⟩ (c_X9_rounded l G ci cz cl q H.size x ref n num den mag fac who fnd pc ic a sta lb la fo dee kc fl wd df ag mk sc nu co fi ad it sp stk (by assumption)) (cwV 1 hts gX9_right_X9_rounded rfl rfl rfl (by decide +kernel) ⟨(Nat.le_of_ble_eq_true rfl), (Nat.le_of_ble_eq_true rfl)⟩) (pV (wc := [oM q ref n num den mag fac who fnd pc ic a sta lb la fo dee kc, aI ci (q 1) 600 fl, aI ci (q 2) 1024 wd, aI cz (q 3) 8 df, aI cz (q 4) 8 ag, aI ci (q 5) 8 mk, aI ci (q 6) 8 sc, aI ci (q 7) 12 nu, aI ci (q 8) 12 co, aI ci (q 9) 12 fi, aI ci (q 10) 12 ad, aI ci (q 11) 1800 it, aI ci (q 12) 8 sp, aI ci (q 13) 160 stk]) ok hK hP hD hS hA hO [0, 1, 2, 3, 4, 5, 6, 7, 8, 9, 10, 11, 12, 13] rfl (by decide) 0 rfl rfl) rfl rfl hl.1 rfl (lv_room (Nat.le_of_ble_eq_true rfl)) dX9_right_69 ⟨(Nat.le_of_ble_eq_true rfl), (Nat.le_of_ble_eq_true rfl)⟩) (wr := []) hP hD hS hA [0, 1, 2, 3, 4, 5, 6, 7, 8, 9, 10, 11, 12, 13] [] rfl rfl (by decide) (by decide) (fun r_22 u H locs hw_22 hP hD hS => ?_)
          try dsimp only at hw_22
          have hP : va_P G vwCl [oM q ref n num den mag fac who fnd pc ic a sta lb la fo dee kc, aI ci (q 1) 600 fl, aI ci (q 2) 1024 wd, aI cz (q 3) 8 df, aI cz (q 4) 8 ag, aI ci (q 5) 8 mk, aI ci (q 6) 8 sc, aI ci (q 7) 12 nu, aI ci (q 8) 12 co, aI ci (q 9) 12 fi, aI ci (q 10) 12 ad, aI ci (q 11) 1800 it, aI ci (q 12) 8 sp, aI ci (q 13) 160 stk] H := hP
          have hD : va_D A [oM q ref n num den mag fac who fnd pc ic a sta lb la fo dee kc, aI ci (q 1) 600 fl, aI ci (q 2) 1024 wd, aI cz (q 3) 8 df, aI cz (q 4) 8 ag, aI ci (q 5) 8 mk, aI ci (q 6) 8 sc, aI ci (q 7) 12 nu, aI ci (q 8) 12 co, aI ci (q 9) 12 fi, aI ci (q 10) 12 ad, aI ci (q 11) 1800 it, aI ci (q 12) 8 sp, aI ci (q 13) 160 stk] := hD
          refine lv_iadd hx hb dX9_right_72 ?_
          refine lv_goto (tgt := 88) hx hb dX9_right_73 (by decide) ?_
          refine va_iast hx hb hK hP hD hS 12 0 rfl rfl (vp_in_nI (by omega) (by omega)) dX9_right_88 (fun H locs hP hD hS => ?_)
          rw [nI_clamp (by omega)] at hP hD
          have hP : va_P G vwCl [oM q ref n num den mag fac who fnd pc ic a sta lb la fo dee kc, aI ci (q 1) 600 fl, aI ci (q 2) 1024 wd, aI cz (q 3) 8 df, aI cz (q 4) 8 ag, aI ci (q 5) 8 mk, aI ci (q 6) 8 sc, aI ci (q 7) 12 nu, aI ci (q 8) 12 co, aI ci (q 9) 12 fi, aI ci (q 10) 12 ad, aI ci (q 11) 1800 it, aI ci (q 12) 8 (upd sp 6 ((sp 6) + r_22)), aI ci (q 13) 160 stk] H := hP
          have hD : va_D A [oM q ref n num den mag fac who fnd pc ic a sta lb la fo dee kc, aI ci (q 1) 600 fl, aI ci (q 2) 1024 wd, aI cz (q 3) 8 df, aI cz (q 4) 8 ag, aI ci (q 5) 8 mk, aI ci (q 6) 8 sc, aI ci (q 7) 12 nu, aI ci (q 8) 12 co, aI ci (q 9) 12 fi, aI ci (q 10) 12 ad, aI ci (q 11) 1800 it, aI ci (q 12) 8 (upd sp 6 ((sp 6) + r_22)), aI ci (q 13) 160 stk] := hD
          refine lv_aload_n hx hb dX9_right_89 rfl (lv_at hl 2 rfl) ?_
          refine va_get (D := G) (ci := 8) (v := .ref (q 12)) (C := RX9) (T := TX9) (N := 30) hx hb hts hi_X9 hown hK hP 0 rfl rfl 28 (by decide) f_48 (fun _ h9 => h9) rfl dX9_right_90 ?_
          refine lv_iconst (v := nI 0) hx hb dX9_right_93 (by decide) ?_
          refine lv_dup2_11 hx hb dX9_right_94 rfl rfl ?_
          refine va_iald hx hb hK hP 12 0 rfl rfl (vp_in_nI (by omega) (by omega)) dX9_right_95 ?_
          refine tp (y := (upd sp 6 ((sp 6) + r_22)) 0) (congrArg (upd sp 6 ((sp 6) + r_22)) (nI_clamp (by omega))) ?_
          refine lv_iload_n hx hb dX9_right_96 rfl (lv_at hl 3 rfl) ?_
          refine lv_iadd hx hb dX9_right_97 ?_
          refine va_iast hx hb hK hP hD hS 12 0 rfl rfl (vp_in_nI (by omega) (by omega)) dX9_right_98 (fun H locs hP hD hS => ?_)
          rw [nI_clamp (by omega)] at hP hD
          have hP : va_P G vwCl [oM q ref n num den mag fac who fnd pc ic a sta lb la fo dee kc, aI ci (q 1) 600 fl, aI ci (q 2) 1024 wd, aI cz (q 3) 8 df, aI cz (q 4) 8 ag, aI ci (q 5) 8 mk, aI ci (q 6) 8 sc, aI ci (q 7) 12 nu, aI ci (q 8) 12 co, aI ci (q 9) 12 fi, aI ci (q 10) 12 ad, aI ci (q 11) 1800 it, aI ci (q 12) 8 (upd (upd sp 6 ((sp 6) + r_22)) 0 (((upd sp 6 ((sp 6) + r_22)) 0) + x)), aI ci (q 13) 160 stk] H := hP
          have hD : va_D A [oM q ref n num den mag fac who fnd pc ic a sta lb la fo dee kc, aI ci (q 1) 600 fl, aI ci (q 2) 1024 wd, aI cz (q 3) 8 df, aI cz (q 4) 8 ag, aI ci (q 5) 8 mk, aI ci (q 6) 8 sc, aI ci (q 7) 12 nu, aI ci (q 8) 12 co, aI ci (q 9) 12 fi, aI ci (q 10) 12 ad, aI ci (q 11) 1800 it, aI ci (q 12) 8 (upd (upd sp 6 ((sp 6) + r_22)) 0 (((upd sp 6 ((sp 6) + r_22)) 0) + x)), aI ci (q 13) 160 stk] := hD
          refine lv_aload_n hx hb dX9_right_99 rfl (lv_at hl 2 rfl) ?_
          refine lv_bipush (v := nI 6) hx hb dX9_right_100 (by decide) ?_
          refine lv_iconst (v := nI 0) hx hb dX9_right_102 (by decide) ?_
          refine jV (va_runV (As := [.int (nI 6), .int (nI 0)]) (rest := []) ⟨hx, hb, hml, hown, hts⟩ (c_X9_hold l G ci cz cl q H.size 6 0 ref n num den mag fac who fnd pc ic a sta lb la fo dee kc fl wd df ag mk sc nu co fi ad it (upd (upd sp 6 ((sp 6) + r_22)) 0 (((upd sp 6 ((sp 6) + r_22)) 0) + x)) stk (by omega) (by omega) (by assumption)) (cwV 2 hts gX9_right_X9_hold rfl rfl rfl (by decide +kernel) ⟨(Nat.le_of_ble_eq_true rfl), (Nat.le_of_ble_eq_true rfl)⟩) (pV (wc := [oM q ref n num den mag fac who fnd pc ic a sta lb la fo dee kc, aI ci (q 1) 600 fl, aI ci (q 2) 1024 wd, aI cz (q 3) 8 df, aI cz (q 4) 8 ag, aI ci (q 5) 8 mk, aI ci (q 6) 8 sc, aI ci (q 7) 12 nu, aI ci (q 8) 12 co, aI ci (q 9) 12 fi, aI ci (q 10) 12 ad, aI ci (q 11) 1800 it, aI ci (q 12) 8 (upd (upd sp 6 ((sp 6) + r_22)) 0 (((upd sp 6 ((sp 6) + r_22)) 0) + x)), aI ci (q 13) 160 stk]) ok hK hP hD hS hA hO [0, 1, 2, 3, 4, 5, 6, 7, 8, 9, 10, 11, 12, 13] rfl (by decide) 0 rfl rfl) rfl rfl hl.1 rfl (lv_room (Nat.le_of_ble_eq_true rfl)) dX9_right_103 ⟨(Nat.le_of_ble_eq_true rfl), (Nat.le_of_ble_eq_true rfl)⟩) (wr := []) hP hD hS hA [0, 1, 2, 3, 4, 5, 6, 7, 8, 9, 10, 11, 12, 13] [] rfl rfl (by decide) (by decide) (fun u H locs hw_23 hP hD hS => ?_)
          obtain ⟨sp2_23, rfl⟩ : ∃ z, z = u := ⟨_, rfl⟩
          try dsimp only at hw_23
          have h_23 := hw_23
          have hP : va_P G vwCl [oM q ref n num den mag fac who fnd pc ic a sta lb la fo dee kc, aI ci (q 1) 600 fl, aI ci (q 2) 1024 wd, aI cz (q 3) 8 df, aI cz (q 4) 8 ag, aI ci (q 5) 8 mk, aI ci (q 6) 8 sc, aI ci (q 7) 12 nu, aI ci (q 8) 12 co, aI ci (q 9) 12 fi, aI ci (q 10) 12 ad, aI ci (q 11) 1800 it, aI ci (q 12) 8 sp2_23, aI ci (q 13) 160 stk] H := hP
          have hD : va_D A [oM q ref n num den mag fac who fnd pc ic a sta lb la fo dee kc, aI ci (q 1) 600 fl, aI ci (q 2) 1024 wd, aI cz (q 3) 8 df, aI cz (q 4) 8 ag, aI ci (q 5) 8 mk, aI ci (q 6) 8 sc, aI ci (q 7) 12 nu, aI ci (q 8) 12 co, aI ci (q 9) 12 fi, aI ci (q 10) 12 ad, aI ci (q 11) 1800 it, aI ci (q 12) 8 sp2_23, aI ci (q 13) 160 stk] := hD
          exact rV hx hb hr hlocks hK hP hD hS [0, 1, 2, 3, 4, 5, 6, 7, 8, 9, 10, 11, 12, 13] sp2_23 rfl (by decide) (RMh_u h_23) dX9_right_106
set_option maxHeartbeats 4000000 in
set_option maxRecDepth 100000 in
theorem c_X9_down (l : Launch) (G : va_G) (ci cz cl : ClassId) (q : Nat → Nat) (sz : Nat) (x : Int32) (ref : Int32) (n : Nat) (num : Nat) (den : Nat) (mag : Nat) (fac : UInt64) (who : Nat) (fnd : Int32) (pc : Nat) (ic : Nat) (a : Nat) (sta : Nat) (lb : Nat) (la : Nat) (fo : Int32) (dee : Nat) (kc : Nat) (fl : Nat → Int32) (wd : Nat → Int32) (df : Nat → Int32) (ag : Nat → Int32) (mk : Nat → Int32) (sc : Nat → Int32) (nu : Nat → Int32) (co : Nat → Int32) (fi : Nat → Int32) (ad : Nat → Int32) (it : Nat → Int32) (sp : Nat → Int32) (stk : Nat → Int32) (hf : Fn fac) (hFO : FO fo) : CtV l yX9_down wsX9_down ({ frames := 2, cells := 0, slots := 0, locals := 46 }) G (TY ci cz cl) O0 [.ref (q 0), .int x] [oM q ref n num den mag fac who fnd pc ic a sta lb la fo dee kc, aI ci (q 1) 600 fl, aI ci (q 2) 1024 wd, aI cz (q 3) 8 df, aI cz (q 4) 8 ag, aI ci (q 5) 8 mk, aI ci (q 6) 8 sc, aI ci (q 7) 12 nu, aI ci (q 8) 12 co, aI ci (q 9) 12 fi, aI ci (q 10) 12 ad, aI ci (q 11) 1800 it, aI ci (q 12) 8 sp, aI ci (q 13) 160 stk] sz (fun (u : Nat → Int32) => RMv sp u x) (fun u : Nat → Int32 => [oM q ref n num den mag fac who fnd pc ic a sta lb la fo dee kc, aI ci (q 1) 600 fl, aI ci (q 2) 1024 wd, aI cz (q 3) 8 df, aI cz (q 4) 8 ag, aI ci (q 5) 8 mk, aI ci (q 6) 8 sc, aI ci (q 7) 12 nu, aI ci (q 8) 12 co, aI ci (q 9) 12 fi, aI ci (q 10) 12 ad, aI ci (q 11) 1800 it, aI ci (q 12) 8 u, aI ci (q 13) 160 stk]) 0 0 := by
  refine Met.ofW (cc := cX9_down) (maxL := 4) (ret := none) (by decide) rfl ?_
  intro p e s m args below meth c s₁ B hml hv
  obtain ⟨rfl, ⟨hsz, hP, hK, hD0⟩, hO⟩ := hv
  have hx := B.exec
  have hb := B.bytes
  have hr := B.returns
  have hts := atoms_spec (ws := wsX9_down) B.pre
  have hown : s.vm.findClass RX9 = some m.cls := findClass_of_methodNamed B.named
  have hlocks := B.notSynchronized
  subst hsz
  have hD := hD0.self (sz := s.heap.size)
  generalize hAe : va_A [oM q ref n num den mag fac who fnd pc ic a sta lb la fo dee kc, aI ci (q 1) 600 fl, aI ci (q 2) 1024 wd, aI cz (q 3) 8 df, aI cz (q 4) 8 ag, aI ci (q 5) 8 mk, aI ci (q 6) 8 sc, aI ci (q 7) 12 nu, aI ci (q 8) 12 co, aI ci (q 9) 12 fi, aI ci (q 10) 12 ad, aI ci (q 11) 1800 it, aI ci (q 12) 8 sp, aI ci (q 13) 160 stk] s.heap.size = A at hD hO ⊢
  have hA : ∀ q : Nat, s.heap.size ≤ q → A q := fun q h => by rw [← hAe]; exact Or.inr h
  have ok := ok0
  refine startH (A := A) (fun H locs hP hS => ?_) hP
  have hi_X9 := (by decide +kernel : ∀ w ∈ wsX90, w ∈ wsX9_down)
  have f_82 := hts (.fieldLink RX9 82 "PageReaderModel" "font" "I") (by decide +kernel)
  have f_26 := hts (.fieldLink RX9 26 "PageReaderModel" "scales" "[I") (by decide +kernel)
  have f_48 := hts (.fieldLink RX9 48 "PageReaderModel" "spot" "[I") (by decide +kernel)
  have hl := lv_entry ([.ref (q 0), .int x]) (n := 4) (Nat.le_of_ble_eq_true rfl)
  rw [lg_entry_eq]
  generalize (lg_sl ([.ref (q 0), .int x]) ++ List.replicate (4 - (lg_sl ([.ref (q 0), .int x])).length) Slot.unset).toArray = ls at hl ⊢
  have hl : lv_has ls 4 [(0, .ref (q 0)), (1, .int x)] := hl
  have hfo := FO_int hFO
  refine lv_aload_n hx hb dX9_down_0 rfl (lv_at hl 0 rfl) ?_
  refine va_get (D := G) (ci := 8) (v := .int fo) (C := RX9) (T := TX9) (N := 30) hx hb hts hi_X9 hown hK hP 0 rfl rfl 25 (by decide) f_82 (fun _ h9 => h9) rfl dX9_down_1 ?_
  refine lv_if_ge (tgt := 11) hx hb dX9_down_4 (by decide) (fun c_1 => ?_) (fun c_1 => ?_)
  · skip
    have z_1 := (i_le (nI 0) fo).mp c_1
    rw [nI_toInt (n := 0) (by omega)] at z_1
    refine lv_iconst (v := nI 4) hx hb dX9_down_11 (by decide) ?_
    refine lv_aload_n hx hb dX9_down_12 rfl (lv_at hl 0 rfl) ?_
    refine va_get (D := G) (ci := 8) (v := .ref (q 6)) (C := RX9) (T := TX9) (N := 30) hx hb hts hi_X9 hown hK hP 0 rfl rfl 7 (by decide) f_26 (fun _ h9 => h9) rfl dX9_down_13 ?_
    refine lv_aload_n hx hb dX9_down_16 rfl (lv_at hl 0 rfl) ?_
    refine va_get (D := G) (ci := 8) (v := .int fo) (C := RX9) (T := TX9) (N := 30) hx hb hts hi_X9 hown hK hP 0 rfl rfl 25 (by decide) f_82 (fun _ h9 => h9) rfl dX9_down_17 ?_
    refine va_iald hx hb hK hP 6 0 rfl rfl (vp_in_iff.mpr ⟨by omega, by omega⟩) dX9_down_20 ?_
    refine lv_iconst (v := nI 5) hx hb dX9_down_21 (by decide) ?_
    refine lv_idiv hx hb dX9_down_22 (by decide) ?_
    refine lv_imul hx hb dX9_down_23 ?_
    refine lv_istore_n (lv' := [(2, .int ((nI 4) * ((sc (fo).toNatClampNeg) / (nI 5)))), (0, .ref (q 0)), (1, .int x)]) hx hb dX9_down_24 rfl hl (by decide) rfl (fun ls hl => ?_)
    refine lv_aload_n hx hb dX9_down_25 rfl (lv_at hl 1 rfl) ?_
    refine va_get (D := G) (ci := 8) (v := .int fo) (C := RX9) (T := TX9) (N := 30) hx hb hts hi_X9 hown hK hP 0 rfl rfl 25 (by decide) f_82 (fun _ h9 => h9) rfl dX9_down_26 ?_
    refine lv_if_lt (tgt := 47) hx hb dX9_down_29 (by decide) (fun c_2 => ?_) (fun c_2 => ?_)
    · skip
      have z_2 := (i_lt fo (nI 0)).mp c_2
      rw [nI_toInt (n := 0) (by omega)] at z_2
      refine lv_iconst (v := nI 0) hx hb dX9_down_47 (by decide) ?_
      refine lv_istore_n (lv' := [(3, .int (nI 0)), (2, .int ((nI 4) * ((sc (fo).toNatClampNeg) / (nI 5)))), (0, .ref (q 0)), (1, .int x)]) hx hb dX9_down_48 rfl hl (by decide) rfl (fun ls hl => ?_)
      refine lv_aload_n hx hb dX9_down_49 rfl (lv_at hl 2 rfl) ?_
      refine va_get (D := G) (ci := 8) (v := .ref (q 12)) (C := RX9) (T := TX9) (N := 30) hx hb hts hi_X9 hown hK hP 0 rfl rfl 28 (by decide) f_48 (fun _ h9 => h9) rfl dX9_down_50 ?_
      refine lv_bipush (v := nI 7) hx hb dX9_down_53 (by decide) ?_
      refine lv_iload_n hx hb dX9_down_55 rfl (lv_at hl 0 rfl) ?_
      refine lv_if_eq (tgt := 75) hx hb dX9_down_56 (by decide) (fun _ => ?_) (fun c => absurd c (by decide))
      refine lv_aload_n hx hb dX9_down_75 rfl (lv_at hl 2 rfl) ?_
      refine lv_aload_n hx hb dX9_down_76 rfl (lv_at hl 2 rfl) ?_
      refine va_get (D := G) (ci := 8) (v := .ref (q 12)) (C := RX9) (T := TX9) (N := 30) hx hb hts hi_X9 hown hK hP 0 rfl rfl 28 (by decide) f_48 (fun _ h9 => h9) rfl dX9_down_77 ?_
      refine lv_iconst (v := nI 1) hx hb dX9_down_80 (by decide) ?_
      refine va_iald hx hb hK hP 12 0 rfl rfl (vp_in_nI (by omega) (by omega)) dX9_down_81 ?_
      refine tp (y := sp 1) (congrArg sp (nI_clamp (by omega))) ?_
      refine lv_iload_n hx hb dX9_down_82 rfl (lv_at hl 3 rfl) ?_
      refine lv_iadd hx hb dX9_down_83 ?_
      refine jI (va_runV (As := [.int ((sp 1) + x)]) (rest := [.int (nI 7), .ref (q 12)]) ⟨hx, hb, hml, hown, hts⟩ (c_X9_rounded l G ci cz cl q H.size ((sp 1) + x) ref n num den mag fac who fnd pc ic a sta lb la fo dee kc fl wd df ag mk sc nu co fi ad it sp stk (by assumption)) (cwV 1 hts gX9_down_X9_rounded rfl rfl rfl (by decide +kernel) ⟨(Nat.le_of_ble_eq_true rfl), (Nat.le_of_ble_eq_true rfl)⟩) (pV (wc := [oM q ref n num den mag fac who fnd pc ic a sta lb la fo dee kc, aI ci (q 1) 600 fl, aI ci (q 2) 1024 wd, aI cz (q 3) 8 df, aI cz (q 4) 8 ag, aI ci (q 5) 8 mk, aI ci (q 6) 8 sc, aI ci (q 7) 12 nu, aI ci (q 8) 12 co, aI ci (q 9) 12 fi, aI ci (q 10) 12 ad, aI ci (q 11) 1800 it, aI ci (q 12) 8 sp, aI ci (q 13) 160 stk]) ok hK hP hD hS hA hO [0, 1, 2, 3, 4, 5, 6, 7, 8, 9, 10, 11, 12, 13] rfl (by decide) 0 rfl rfl) rfl rfl hl.1 rfl (lv_room (Nat.le_of_ble_eq_true rfl)) dX9_down_84 ⟨(Nat.le_of_ble_eq_true rfl), (Nat.le_of_ble_eq_true rfl)⟩) (wr := []) hP hD hS hA [0, 1, 2, 3, 4, 5, 6, 7, 8, 9, 10, 11, 12, 13] [] rfl rfl (by decide) (by decide) (fun r_3 u H locs hw_3 hP hD hS => ?_)
      try dsimp only at hw_3
      have hP : va_P G vwCl [oM q ref n num den mag fac who fnd pc ic a sta lb la fo dee kc, aI ci (q 1) 600 fl, aI ci (q 2) 1024 wd, aI cz (q 3) 8 df, aI cz (q 4) 8 ag, aI ci (q 5) 8 mk, aI ci (q 6) 8 sc, aI ci (q 7) 12 nu, aI ci (q 8) 12 co, aI ci (q 9) 12 fi, aI ci (q 10) 12 ad, aI ci (q 11) 1800 it, aI ci (q 12) 8 sp, aI ci (q 13) 160 stk] H := hP
      have hD : va_D A [oM q ref n num den mag fac who fnd pc ic a sta lb la fo dee kc, aI ci (q 1) 600 fl, aI ci (q 2) 1024 wd, aI cz (q 3) 8 df, aI cz (q 4) 8 ag, aI ci (q 5) 8 mk, aI ci (q 6) 8 sc, aI ci (q 7) 12 nu, aI ci (q 8) 12 co, aI ci (q 9) 12 fi, aI ci (q 10) 12 ad, aI ci (q 11) 1800 it, aI ci (q 12) 8 sp, aI ci (q 13) 160 stk] := hD
      refine va_iast hx hb hK hP hD hS 12 0 rfl rfl (vp_in_nI (by omega) (by omega)) dX9_down_87 (fun H locs hP hD hS => ?_)
      rw [nI_clamp (by omega)] at hP hD
      have hP : va_P G vwCl [oM q ref n num den mag fac who fnd pc ic a sta lb la fo dee kc, aI ci (q 1) 600 fl, aI ci (q 2) 1024 wd, aI cz (q 3) 8 df, aI cz (q 4) 8 ag, aI ci (q 5) 8 mk, aI ci (q 6) 8 sc, aI ci (q 7) 12 nu, aI ci (q 8) 12 co, aI ci (q 9) 12 fi, aI ci (q 10) 12 ad, aI ci (q 11) 1800 it, aI ci (q 12) 8 (upd sp 7 r_3), aI ci (q 13) 160 stk] H := hP
      have hD : va_D A [oM q ref n num den mag fac who fnd pc ic a sta lb la fo dee kc, aI ci (q 1) 600 fl, aI ci (q 2) 1024 wd, aI cz (q 3) 8 df, aI cz (q 4) 8 ag, aI ci (q 5) 8 mk, aI ci (q 6) 8 sc, aI ci (q 7) 12 nu, aI ci (q 8) 12 co, aI ci (q 9) 12 fi, aI ci (q 10) 12 ad, aI ci (q 11) 1800 it, aI ci (q 12) 8 (upd sp 7 r_3), aI ci (q 13) 160 stk] := hD
      refine lv_aload_n hx hb dX9_down_88 rfl (lv_at hl 2 rfl) ?_
      refine va_get (D := G) (ci := 8) (v := .ref (q 12)) (C := RX9) (T := TX9) (N := 30) hx hb hts hi_X9 hown hK hP 0 rfl rfl 28 (by decide) f_48 (fun _ h9 => h9) rfl dX9_down_89 ?_
      refine lv_iconst (v := nI 1) hx hb dX9_down_92 (by decide) ?_
      refine lv_dup2_11 hx hb dX9_down_93 rfl rfl ?_
      refine va_iald hx hb hK hP 12 0 rfl rfl (vp_in_nI (by omega) (by omega)) dX9_down_94 ?_
      refine tp (y := (upd sp 7 r_3) 1) (congrArg (upd sp 7 r_3) (nI_clamp (by omega))) ?_
      refine lv_iload_n hx hb dX9_down_95 rfl (lv_at hl 3 rfl) ?_
      refine lv_iadd hx hb dX9_down_96 ?_
      refine va_iast hx hb hK hP hD hS 12 0 rfl rfl (vp_in_nI (by omega) (by omega)) dX9_down_97 (fun H locs hP hD hS => ?_)
      rw [nI_clamp (by omega)] at hP hD
      have hP : va_P G vwCl [oM q ref n num den mag fac who fnd pc ic a sta lb la fo dee kc, aI ci (q 1) 600 fl, aI ci (q 2) 1024 wd, aI cz (q 3) 8 df, aI cz (q 4) 8 ag, aI ci (q 5) 8 mk, aI ci (q 6) 8 sc, aI ci (q 7) 12 nu, aI ci (q 8) 12 co, aI ci (q 9) 12 fi, aI ci (q 10) 12 ad, aI ci (q 11) 1800 it, aI ci (q 12) 8 (upd (upd sp 7 r_3) 1 (((upd sp 7 r_3) 1) + x)), aI ci (q 13) 160 stk] H := hP
      have hD : va_D A [oM q ref n num den mag fac who fnd pc ic a sta lb la fo dee kc, aI ci (q 1) 600 fl, aI ci (q 2) 1024 wd, aI cz (q 3) 8 df, aI cz (q 4) 8 ag, aI ci (q 5) 8 mk, aI ci (q 6) 8 sc, aI ci (q 7) 12 nu, aI ci (q 8) 12 co, aI ci (q 9) 12 fi, aI ci (q 10) 12 ad, aI ci (q 11) 1800 it, aI ci (q 12) 8 (upd (upd sp 7 r_3) 1 (((upd sp 7 r_3) 1) + x)), aI ci (q 13) 160 stk] := hD
      refine lv_aload_n hx hb dX9_down_98 rfl (lv_at hl 2 rfl) ?_
      refine lv_bipush (v := nI 7) hx hb dX9_down_99 (by decide) ?_
      refine lv_iconst (v := nI 1) hx hb dX9_down_101 (by decide) ?_
      refine jV (va_runV (As := [.int (nI 7), .int (nI 1)]) (rest := []) ⟨hx, hb, hml, hown, hts⟩ (c_X9_hold l G ci cz cl q H.size 7 1 ref n num den mag fac who fnd pc ic a sta lb la fo dee kc fl wd df ag mk sc nu co fi ad it (upd (upd sp 7 r_3) 1 (((upd sp 7 r_3) 1) + x)) stk (by omega) (by omega) (by assumption)) (cwV 2 hts gX9_down_X9_hold rfl rfl rfl (by decide +kernel) ⟨(Nat.le_of_ble_eq_true rfl), (Nat.le_of_ble_eq_true rfl)⟩) (pV (wc := [oM q ref n num den mag fac who fnd pc ic a sta lb la fo dee kc, aI ci (q 1) 600 fl, aI ci (q 2) 1024 wd, aI cz (q 3) 8 df, aI cz (q 4) 8 ag, aI ci (q 5) 8 mk, aI ci (q 6) 8 sc, aI ci (q 7) 12 nu, aI ci (q 8) 12 co, aI ci (q 9) 12 fi, aI ci (q 10) 12 ad, aI ci (q 11) 1800 it, aI ci (q 12) 8 (upd (upd sp 7 r_3) 1 (((upd sp 7 r_3) 1) + x)), aI ci (q 13) 160 stk]) ok hK hP hD hS hA hO [0, 1, 2, 3, 4, 5, 6, 7, 8, 9, 10, 11, 12, 13] rfl (by decide) 0 rfl rfl) rfl rfl hl.1 rfl (lv_room (Nat.le_of_ble_eq_true rfl)) dX9_down_102 ⟨(Nat.le_of_ble_eq_true rfl), (Nat.le_of_ble_eq_true rfl)⟩) (wr := []) hP hD hS hA [0, 1, 2, 3, 4, 5, 6, 7, 8, 9, 10, 11, 12, 13] [] rfl rfl (by decide) (by decide) (fun u H locs hw_4 hP hD hS => ?_)
      obtain ⟨sp2_4, rfl⟩ : ∃ z, z = u := ⟨_, rfl⟩
      try dsimp only at hw_4
      have h_4 := hw_4
      have hP : va_P G vwCl [oM q ref n num den mag fac who fnd pc ic a sta lb la fo dee kc, aI ci (q 1) 600 fl, aI ci (q 2) 1024 wd, aI cz (q 3) 8 df, aI cz (q 4) 8 ag, aI ci (q 5) 8 mk, aI ci (q 6) 8 sc, aI ci (q 7) 12 nu, aI ci (q 8) 12 co, aI ci (q 9) 12 fi, aI ci (q 10) 12 ad, aI ci (q 11) 1800 it, aI ci (q 12) 8 sp2_4, aI ci (q 13) 160 stk] H := hP
      have hD : va_D A [oM q ref n num den mag fac who fnd pc ic a sta lb la fo dee kc, aI ci (q 1) 600 fl, aI ci (q 2) 1024 wd, aI cz (q 3) 8 df, aI cz (q 4) 8 ag, aI ci (q 5) 8 mk, aI ci (q 6) 8 sc, aI ci (q 7) 12 nu, aI ci (q 8) 12 co, aI ci (q 9) 12 fi, aI ci (q 10) 12 ad, aI ci (q 11) 1800 it, aI ci (q 12) 8 sp2_4, aI ci (q 13) 160 stk] := hD
      exact rV hx hb hr hlocks hK hP hD hS [0, 1, 2, 3, 4, 5, 6, 7, 8, 9, 10, 11, 12, 13] sp2_4 rfl (by decide) (RMv_u h_4) dX9_down_105
    · skip
      have z_2 := mt (i_lt fo (nI 0)).mpr c_2
      rw [nI_toInt (n := 0) (by omega)] at z_2
      refine lv_iload_n hx hb dX9_down_32 rfl (lv_at hl 2 rfl) ?_
      refine lv_iload_n hx hb dX9_down_33 rfl (lv_at hl 0 rfl) ?_
      refine lv_icmp_ge (tgt := 47) hx hb dX9_down_34 (by decide) (fun c_5 => ?_) (fun c_5 => ?_)
      · skip
        have z_5 := (i_le ((nI 4) * ((sc (fo).toNatClampNeg) / (nI 5))) x).mp c_5
        refine lv_iconst (v := nI 0) hx hb dX9_down_47 (by decide) ?_
        refine lv_istore_n (lv' := [(3, .int (nI 0)), (2, .int ((nI 4) * ((sc (fo).toNatClampNeg) / (nI 5)))), (0, .ref (q 0)), (1, .int x)]) hx hb dX9_down_48 rfl hl (by decide) rfl (fun ls hl => ?_)
        refine lv_aload_n hx hb dX9_down_49 rfl (lv_at hl 2 rfl) ?_
        refine va_get (D := G) (ci := 8) (v := .ref (q 12)) (C := RX9) (T := TX9) (N := 30) hx hb hts hi_X9 hown hK hP 0 rfl rfl 28 (by decide) f_48 (fun _ h9 => h9) rfl dX9_down_50 ?_
        refine lv_bipush (v := nI 7) hx hb dX9_down_53 (by decide) ?_
        refine lv_iload_n hx hb dX9_down_55 rfl (lv_at hl 0 rfl) ?_
        refine lv_if_eq (tgt := 75) hx hb dX9_down_56 (by decide) (fun _ => ?_) (fun c => absurd c (by decide))
        refine lv_aload_n hx hb dX9_down_75 rfl (lv_at hl 2 rfl) ?_
        refine lv_aload_n hx hb dX9_down_76 rfl (lv_at hl 2 rfl) ?_
        refine va_get (D := G) (ci := 8) (v := .ref (q 12)) (C := RX9) (T := TX9) (N := 30) hx hb hts hi_X9 hown hK hP 0 rfl rfl 28 (by decide) f_48 (fun _ h9 => h9) rfl dX9_down_77 ?_
        refine lv_iconst (v := nI 1) hx hb dX9_down_80 (by decide) ?_
        refine va_iald hx hb hK hP 12 0 rfl rfl (vp_in_nI (by omega) (by omega)) dX9_down_81 ?_
        refine tp (y := sp 1) (congrArg sp (nI_clamp (by omega))) ?_
        refine lv_iload_n hx hb dX9_down_82 rfl (lv_at hl 3 rfl) ?_
        refine lv_iadd hx hb dX9_down_83 ?_
        refine jI (va_runV (As := [.int ((sp 1) + x)]) (rest := [.int (nI 7), .ref (q 12)]) ⟨hx, hb, hml, hown, hts⟩ (c_X9_rounded l G ci cz cl q H.size ((sp 1) + x) ref n num den mag fac who fnd pc ic a sta lb la fo dee kc fl wd df ag mk sc nu co fi ad it sp stk (by assumption)) (cwV 1 hts gX9_down_X9_rounded rfl rfl rfl (by decide +kernel) ⟨(Nat.le_of_ble_eq_true rfl), (Nat.le_of_ble_eq_true rfl)⟩) (pV (wc := [oM q ref n num den mag fac who fnd pc ic a sta lb la fo dee kc, aI ci (q 1) 600 fl, aI ci (q 2) 1024 wd, aI cz (q 3) 8 df, aI cz (q 4) 8 ag, aI ci (q 5) 8 mk, aI ci (q 6) 8 sc, aI ci (q 7) 12 nu, aI ci (q 8) 12 co, aI ci (q 9) 12 fi, aI ci (q 10) 12 ad, aI ci (q 11) 1800 it, aI ci (q 12) 8 sp, aI ci (q 13) 160 stk]) ok hK hP hD hS hA hO [0, 1, 2, 3, 4, 5, 6, 7, 8, 9, 10, 11, 12, 13] rfl (by decide) 0 rfl rfl) rfl rfl hl.1 rfl (lv_room (Nat.le_of_ble_eq_true rfl)) dX9_down_84 ⟨(Nat.le_of_ble_eq_true rfl), (Nat.le_of_ble_eq_true rfl)⟩) (wr := []) hP hD hS hA [0, 1, 2, 3, 4, 5, 6, 7, 8, 9, 10, 11, 12, 13] [] rfl rfl (by decide) (by decide) (fun r_6 u H locs hw_6 hP hD hS => ?_)
        try dsimp only at hw_6
        have hP : va_P G vwCl [oM q ref n num den mag fac who fnd pc ic a sta lb la fo dee kc, aI ci (q 1) 600 fl, aI ci (q 2) 1024 wd, aI cz (q 3) 8 df, aI cz (q 4) 8 ag, aI ci (q 5) 8 mk, aI ci (q 6) 8 sc, aI ci (q 7) 12 nu, aI ci (q 8) 12 co, aI ci (q 9) 12 fi, aI ci (q 10) 12 ad, aI ci (q 11) 1800 it, aI ci (q 12) 8 sp, aI ci (q 13) 160 stk] H := hP
        have hD : va_D A [oM q ref n num den mag fac who fnd pc ic a sta lb la fo dee kc, aI ci (q 1) 600 fl, aI ci (q 2) 1024 wd, aI cz (q 3) 8 df, aI cz (q 4) 8 ag, aI ci (q 5) 8 mk, aI ci (q 6) 8 sc, aI ci (q 7) 12 nu, aI ci (q 8) 12 co, aI ci (q 9) 12 fi, aI ci (q 10) 12 ad, aI ci (q 11) 1800 it, aI ci (q 12) 8 sp, aI ci (q 13) 160 stk] := hD
        refine va_iast hx hb hK hP hD hS 12 0 rfl rfl (vp_in_nI (by omega) (by omega)) dX9_down_87 (fun H locs hP hD hS => ?_)
        rw [nI_clamp (by omega)] at hP hD
        have hP : va_P G vwCl [oM q ref n num den mag fac who fnd pc ic a sta lb la fo dee kc, aI ci (q 1) 600 fl, aI ci (q 2) 1024 wd, aI cz (q 3) 8 df, aI cz (q 4) 8 ag, aI ci (q 5) 8 mk, aI ci (q 6) 8 sc, aI ci (q 7) 12 nu, aI ci (q 8) 12 co, aI ci (q 9) 12 fi, aI ci (q 10) 12 ad, aI ci (q 11) 1800 it, aI ci (q 12) 8 (upd sp 7 r_6), aI ci (q 13) 160 stk] H := hP
        have hD : va_D A [oM q ref n num den mag fac who fnd pc ic a sta lb la fo dee kc, aI ci (q 1) 600 fl, aI ci (q 2) 1024 wd, aI cz (q 3) 8 df, aI cz (q 4) 8 ag, aI ci (q 5) 8 mk, aI ci (q 6) 8 sc, aI ci (q 7) 12 nu, aI ci (q 8) 12 co, aI ci (q 9) 12 fi, aI ci (q 10) 12 ad, aI ci (q 11) 1800 it, aI ci (q 12) 8 (upd sp 7 r_6), aI ci (q 13) 160 stk] := hD
        refine lv_aload_n hx hb dX9_down_88 rfl (lv_at hl 2 rfl) ?_
        refine va_get (D := G) (ci := 8) (v := .ref (q 12)) (C := RX9) (T := TX9) (N := 30) hx hb hts hi_X9 hown hK hP 0 rfl rfl 28 (by decide) f_48 (fun _ h9 => h9) rfl dX9_down_89 ?_
        refine lv_iconst (v := nI 1) hx hb dX9_down_92 (by decide) ?_
        refine lv_dup2_11 hx hb dX9_down_93 rfl rfl ?_
        refine va_iald hx hb hK hP 12 0 rfl rfl (vp_in_nI (by omega) (by omega)) dX9_down_94 ?_
        refine tp (y := (upd sp 7 r_6) 1) (congrArg (upd sp 7 r_6) (nI_clamp (by omega))) ?_
        refine lv_iload_n hx hb dX9_down_95 rfl (lv_at hl 3 rfl) ?_
        refine lv_iadd hx hb dX9_down_96 ?_
        refine va_iast hx hb hK hP hD hS 12 0 rfl rfl (vp_in_nI (by omega) (by omega)) dX9_down_97 (fun H locs hP hD hS => ?_)
        rw [nI_clamp (by omega)] at hP hD
        have hP : va_P G vwCl [oM q ref n num den mag fac who fnd pc ic a sta lb la fo dee kc, aI ci (q 1) 600 fl, aI ci (q 2) 1024 wd, aI cz (q 3) 8 df, aI cz (q 4) 8 ag, aI ci (q 5) 8 mk, aI ci (q 6) 8 sc, aI ci (q 7) 12 nu, aI ci (q 8) 12 co, aI ci (q 9) 12 fi, aI ci (q 10) 12 ad, aI ci (q 11) 1800 it, aI ci (q 12) 8 (upd (upd sp 7 r_6) 1 (((upd sp 7 r_6) 1) + x)), aI ci (q 13) 160 stk] H := hP
        have hD : va_D A [oM q ref n num den mag fac who fnd pc ic a sta lb la fo dee kc, aI ci (q 1) 600 fl, aI ci (q 2) 1024 wd, aI cz (q 3) 8 df, aI cz (q 4) 8 ag, aI ci (q 5) 8 mk, aI ci (q 6) 8 sc, aI ci (q 7) 12 nu, aI ci (q 8) 12 co, aI ci (q 9) 12 fi, aI ci (q 10) 12 ad, aI ci (q 11) 1800 it, aI ci (q 12) 8 (upd (upd sp 7 r_6) 1 (((upd sp 7 r_6) 1) + x)), aI ci (q 13) 160 stk] := hD
        refine lv_aload_n hx hb dX9_down_98 rfl (lv_at hl 2 rfl) ?_
        refine lv_bipush (v := nI 7) hx hb dX9_down_99 (by decide) ?_
        refine lv_iconst (v := nI 1) hx hb dX9_down_101 (by decide) ?_
        refine jV (va_runV (As := [.int (nI 7), .int (nI 1)]) (rest := []) ⟨hx, hb, hml, hown, hts⟩ (c_X9_hold l G ci cz cl q H.size 7 1 ref n num den mag fac who fnd pc ic a sta lb la fo dee kc fl wd df ag mk sc nu co fi ad it (upd (upd sp 7 r_6) 1 (((upd sp 7 r_6) 1) + x)) stk (by omega) (by omega) (by assumption)) (cwV 2 hts gX9_down_X9_hold rfl rfl rfl (by decide +kernel) ⟨(Nat.le_of_ble_eq_true rfl), (Nat.le_of_ble_eq_true rfl)⟩) (pV (wc := [oM q ref n num den mag fac who fnd pc ic a sta lb la fo dee kc, aI ci (q 1) 600 fl, aI ci (q 2) 1024 wd, aI cz (q 3) 8 df, aI cz (q 4) 8 ag, aI ci (q 5) 8 mk, aI ci (q 6) 8 sc, aI ci (q 7) 12 nu, aI ci (q 8) 12 co, aI ci (q 9) 12 fi, aI ci (q 10) 12 ad, aI ci (q 11) 1800 it, aI ci (q 12) 8 (upd (upd sp 7 r_6) 1 (((upd sp 7 r_6) 1) + x)), aI ci (q 13) 160 stk]) ok hK hP hD hS hA hO [0, 1, 2, 3, 4, 5, 6, 7, 8, 9, 10, 11, 12, 13] rfl (by decide) 0 rfl rfl) rfl rfl hl.1 rfl (lv_room (Nat.le_of_ble_eq_true rfl)) dX9_down_102 ⟨(Nat.le_of_ble_eq_true rfl), (Nat.le_of_ble_eq_true rfl)⟩) (wr := []) hP hD hS hA [0, 1, 2, 3, 4, 5, 6, 7, 8, 9, 10, 11, 12, 13] [] rfl rfl (by decide) (by decide) (fun u H locs hw_7 hP hD hS => ?_)
        obtain ⟨sp2_7, rfl⟩ : ∃ z, z = u := ⟨_, rfl⟩
        try dsimp only at hw_7
        have h_7 := hw_7
        have hP : va_P G vwCl [oM q ref n num den mag fac who fnd pc ic a sta lb la fo dee kc, aI ci (q 1) 600 fl, aI ci (q 2) 1024 wd, aI cz (q 3) 8 df, aI cz (q 4) 8 ag, aI ci (q 5) 8 mk, aI ci (q 6) 8 sc, aI ci (q 7) 12 nu, aI ci (q 8) 12 co, aI ci (q 9) 12 fi, aI ci (q 10) 12 ad, aI ci (q 11) 1800 it, aI ci (q 12) 8 sp2_7, aI ci (q 13) 160 stk] H := hP
        have hD : va_D A [oM q ref n num den mag fac who fnd pc ic a sta lb la fo dee kc, aI ci (q 1) 600 fl, aI ci (q 2) 1024 wd, aI cz (q 3) 8 df, aI cz (q 4) 8 ag, aI ci (q 5) 8 mk, aI ci (q 6) 8 sc, aI ci (q 7) 12 nu, aI ci (q 8) 12 co, aI ci (q 9) 12 fi, aI ci (q 10) 12 ad, aI ci (q 11) 1800 it, aI ci (q 12) 8 sp2_7, aI ci (q 13) 160 stk] := hD
        exact rV hx hb hr hlocks hK hP hD hS [0, 1, 2, 3, 4, 5, 6, 7, 8, 9, 10, 11, 12, 13] sp2_7 rfl (by decide) (RMv_u h_7) dX9_down_105
      · skip
        have z_5 := mt (i_le ((nI 4) * ((sc (fo).toNatClampNeg) / (nI 5))) x).mpr c_5
        refine lv_iload_n hx hb dX9_down_37 rfl (lv_at hl 2 rfl) ?_
        refine lv_iload_n hx hb dX9_down_38 rfl (lv_at hl 0 rfl) ?_
        refine lv_ineg hx hb dX9_down_39 ?_
        refine lv_icmp_le (tgt := 47) hx hb dX9_down_40 (by decide) (fun c_8 => ?_) (fun c_8 => ?_)
        · skip
          have z_8 := (i_le x (-((nI 4) * ((sc (fo).toNatClampNeg) / (nI 5))))).mp c_8
          refine lv_iconst (v := nI 0) hx hb dX9_down_47 (by decide) ?_
          refine lv_istore_n (lv' := [(3, .int (nI 0)), (2, .int ((nI 4) * ((sc (fo).toNatClampNeg) / (nI 5)))), (0, .ref (q 0)), (1, .int x)]) hx hb dX9_down_48 rfl hl (by decide) rfl (fun ls hl => ?_)
          refine lv_aload_n hx hb dX9_down_49 rfl (lv_at hl 2 rfl) ?_
          refine va_get (D := G) (ci := 8) (v := .ref (q 12)) (C := RX9) (T := TX9) (N := 30) hx hb hts hi_X9 hown hK hP 0 rfl rfl 28 (by decide) f_48 (fun _ h9 => h9) rfl dX9_down_50 ?_
          refine lv_bipush (v := nI 7) hx hb dX9_down_53 (by decide) ?_
          refine lv_iload_n hx hb dX9_down_55 rfl (lv_at hl 0 rfl) ?_
          refine lv_if_eq (tgt := 75) hx hb dX9_down_56 (by decide) (fun _ => ?_) (fun c => absurd c (by decide))
          refine lv_aload_n hx hb dX9_down_75 rfl (lv_at hl 2 rfl) ?_
          refine lv_aload_n hx hb dX9_down_76 rfl (lv_at hl 2 rfl) ?_
          refine va_get (D := G) (ci := 8) (v := .ref (q 12)) (C := RX9) (T := TX9) (N := 30) hx hb hts hi_X9 hown hK hP 0 rfl rfl 28 (by decide) f_48 (fun _ h9 => h9) rfl dX9_down_77 ?_
          refine lv_iconst (v := nI 1) hx hb dX9_down_80 (by decide) ?_
          refine va_iald hx hb hK hP 12 0 rfl rfl (vp_in_nI (by omega) (by omega)) dX9_down_81 ?_
          refine tp (y := sp 1) (congrArg sp (nI_clamp (by omega))) ?_
          refine lv_iload_n hx hb dX9_down_82 rfl (lv_at hl 3 rfl) ?_
          refine lv_iadd hx hb dX9_down_83 ?_
          refine jI (va_runV (As := [.int ((sp 1) + x)]) (rest := [.int (nI 7), .ref (q 12)]) ⟨hx, hb, hml, hown, hts⟩ (c_X9_rounded l G ci cz cl q H.size ((sp 1) + x) ref n num den mag fac who fnd pc ic a sta lb la fo dee kc fl wd df ag mk sc nu co fi ad it sp stk (by assumption)) (cwV 1 hts gX9_down_X9_rounded rfl rfl rfl (by decide +kernel) ⟨(Nat.le_of_ble_eq_true rfl), (Nat.le_of_ble_eq_true rfl)⟩) (pV (wc := [oM q ref n num den mag fac who fnd pc ic a sta lb la fo dee kc, aI ci (q 1) 600 fl, aI ci (q 2) 1024 wd, aI cz (q 3) 8 df, aI cz (q 4) 8 ag, aI ci (q 5) 8 mk, aI ci (q 6) 8 sc, aI ci (q 7) 12 nu, aI ci (q 8) 12 co, aI ci (q 9) 12 fi, aI ci (q 10) 12 ad, aI ci (q 11) 1800 it, aI ci (q 12) 8 sp, aI ci (q 13) 160 stk]) ok hK hP hD hS hA hO [0, 1, 2, 3, 4, 5, 6, 7, 8, 9, 10, 11, 12, 13] rfl (by decide) 0 rfl rfl) rfl rfl hl.1 rfl (lv_room (Nat.le_of_ble_eq_true rfl)) dX9_down_84 ⟨(Nat.le_of_ble_eq_true rfl), (Nat.le_of_ble_eq_true rfl)⟩) (wr := []) hP hD hS hA [0, 1, 2, 3, 4, 5, 6, 7, 8, 9, 10, 11, 12, 13] [] rfl rfl (by decide) (by decide) (fun r_9 u H locs hw_9 hP hD hS => ?_)
          try dsimp only at hw_9
          have hP : va_P G vwCl [oM q ref n num den mag fac who fnd pc ic a sta lb la fo dee kc, aI ci (q 1) 600 fl, aI ci (q 2) 1024 wd, aI cz (q 3) 8 df, aI cz (q 4) 8 ag, aI ci (q 5) 8 mk, aI ci (q 6) 8 sc, aI ci (q 7) 12 nu, aI ci (q 8) 12 co, aI ci (q 9) 12 fi, aI ci (q 10) 12 ad, aI ci (q 11) 1800 it, aI ci (q 12) 8 sp, aI ci (q 13) 160 stk] H := hP
          have hD : va_D A [oM q ref n num den mag fac who fnd pc ic a sta lb la fo dee kc, aI ci (q 1) 600 fl, aI ci (q 2) 1024 wd, aI cz (q 3) 8 df, aI cz (q 4) 8 ag, aI ci (q 5) 8 mk, aI ci (q 6) 8 sc, aI ci (q 7) 12 nu, aI ci (q 8) 12 co, aI ci (q 9) 12 fi, aI ci (q 10) 12 ad, aI ci (q 11) 1800 it, aI ci (q 12) 8 sp, aI ci (q 13) 160 stk] := hD
          refine va_iast hx hb hK hP hD hS 12 0 rfl rfl (vp_in_nI (by omega) (by omega)) dX9_down_87 (fun H locs hP hD hS => ?_)
          rw [nI_clamp (by omega)] at hP hD
          have hP : va_P G vwCl [oM q ref n num den mag fac who fnd pc ic a sta lb la fo dee kc, aI ci (q 1) 600 fl, aI ci (q 2) 1024 wd, aI cz (q 3) 8 df, aI cz (q 4) 8 ag, aI ci (q 5) 8 mk, aI ci (q 6) 8 sc, aI ci (q 7) 12 nu, aI ci (q 8) 12 co, aI ci (q 9) 12 fi, aI ci (q 10) 12 ad, aI ci (q 11) 1800 it, aI ci (q 12) 8 (upd sp 7 r_9), aI ci (q 13) 160 stk] H := hP
          have hD : va_D A [oM q ref n num den mag fac who fnd pc ic a sta lb la fo dee kc, aI ci (q 1) 600 fl, aI ci (q 2) 1024 wd, aI cz (q 3) 8 df, aI cz (q 4) 8 ag, aI ci (q 5) 8 mk, aI ci (q 6) 8 sc, aI ci (q 7) 12 nu, aI ci (q 8) 12 co, aI ci (q 9) 12 fi, aI ci (q 10) 12 ad, aI ci (q 11) 1800 it, aI ci (q 12) 8 (upd sp 7 r_9), aI ci (q 13) 160 stk] := hD
          refine lv_aload_n hx hb dX9_down_88 rfl (lv_at hl 2 rfl) ?_
          refine va_get (D := G) (ci := 8) (v := .ref (q 12)) (C := RX9) (T := TX9) (N := 30) hx hb hts hi_X9 hown hK hP 0 rfl rfl 28 (by decide) f_48 (fun _ h9 => h9) rfl dX9_down_89 ?_
          refine lv_iconst (v := nI 1) hx hb dX9_down_92 (by decide) ?_
          refine lv_dup2_11 hx hb dX9_down_93 rfl rfl ?_
          refine va_iald hx hb hK hP 12 0 rfl rfl (vp_in_nI (by omega) (by omega)) dX9_down_94 ?_
          refine tp (y := (upd sp 7 r_9) 1) (congrArg (upd sp 7 r_9) (nI_clamp (by omega))) ?_
          refine lv_iload_n hx hb dX9_down_95 rfl (lv_at hl 3 rfl) ?_
          refine lv_iadd hx hb dX9_down_96 ?_
          refine va_iast hx hb hK hP hD hS 12 0 rfl rfl (vp_in_nI (by omega) (by omega)) dX9_down_97 (fun H locs hP hD hS => ?_)
          rw [nI_clamp (by omega)] at hP hD
          have hP : va_P G vwCl [oM q ref n num den mag fac who fnd pc ic a sta lb la fo dee kc, aI ci (q 1) 600 fl, aI ci (q 2) 1024 wd, aI cz (q 3) 8 df, aI cz (q 4) 8 ag, aI ci (q 5) 8 mk, aI ci (q 6) 8 sc, aI ci (q 7) 12 nu, aI ci (q 8) 12 co, aI ci (q 9) 12 fi, aI ci (q 10) 12 ad, aI ci (q 11) 1800 it, aI ci (q 12) 8 (upd (upd sp 7 r_9) 1 (((upd sp 7 r_9) 1) + x)), aI ci (q 13) 160 stk] H := hP
          have hD : va_D A [oM q ref n num den mag fac who fnd pc ic a sta lb la fo dee kc, aI ci (q 1) 600 fl, aI ci (q 2) 1024 wd, aI cz (q 3) 8 df, aI cz (q 4) 8 ag, aI ci (q 5) 8 mk, aI ci (q 6) 8 sc, aI ci (q 7) 12 nu, aI ci (q 8) 12 co, aI ci (q 9) 12 fi, aI ci (q 10) 12 ad, aI ci (q 11) 1800 it, aI ci (q 12) 8 (upd (upd sp 7 r_9) 1 (((upd sp 7 r_9) 1) + x)), aI ci (q 13) 160 stk] := hD
          refine lv_aload_n hx hb dX9_down_98 rfl (lv_at hl 2 rfl) ?_
          refine lv_bipush (v := nI 7) hx hb dX9_down_99 (by decide) ?_
          refine lv_iconst (v := nI 1) hx hb dX9_down_101 (by decide) ?_
          refine jV (va_runV (As := [.int (nI 7), .int (nI 1)]) (rest := []) ⟨hx, hb, hml, hown, hts⟩ (c_X9_hold l G ci cz cl q H.size 7 1 ref n num den mag fac who fnd pc ic a sta lb la fo dee kc fl wd df ag mk sc nu co fi ad it (upd (upd sp 7 r_9) 1 (((upd sp 7 r_9) 1) + x)) stk (by omega) (by omega) (by assumption)) (cwV 2 hts gX9_down_X9_hold rfl rfl rfl (by decide +kernel) ⟨(Nat.le_of_ble_eq_true rfl), (Nat.le_of_ble_eq_true rfl)⟩) (pV (wc := [oM q ref n num den mag fac who fnd pc ic a sta lb la fo dee kc, aI ci (q 1) 600 fl, aI ci (q 2) 1024 wd, aI cz (q 3) 8 df, aI cz (q 4) 8 ag, aI ci (q 5) 8 mk, aI ci (q 6) 8 sc, aI ci (q 7) 12 nu, aI ci (q 8) 12 co, aI ci (q 9) 12 fi, aI ci (q 10) 12 ad, aI ci (q 11) 1800 it, aI ci (q 12) 8 (upd (upd sp 7 r_9) 1 (((upd sp 7 r_9) 1) + x)), aI ci (q 13) 160 stk]) ok hK hP hD hS hA hO [0, 1, 2, 3, 4, 5, 6, 7, 8, 9, 10, 11, 12, 13] rfl (by decide) 0 rfl rfl) rfl rfl hl.1 rfl (lv_room (Nat.le_of_ble_eq_true rfl)) dX9_down_102 ⟨(Nat.le_of_ble_eq_true rfl), (Nat.le_of_ble_eq_true rfl)⟩) (wr := []) hP hD hS hA [0, 1, 2, 3, 4, 5, 6, 7, 8, 9, 10, 11, 12, 13] [] rfl rfl (by decide) (by decide) (fun u H locs hw_10 hP hD hS => ?_)
          obtain ⟨sp2_10, rfl⟩ : ∃ z, z = u := ⟨_, rfl⟩
          try dsimp only at hw_10
          have h_10 := hw_10
          have hP : va_P G vwCl [oM q ref n num den mag fac who fnd pc ic a sta lb la fo dee kc, aI ci (q 1) 600 fl, aI ci (q 2) 1024 wd, aI cz (q 3) 8 df, aI cz (q 4) 8 ag, aI ci (q 5) 8 mk, aI ci (q 6) 8 sc, aI ci (q 7) 12 nu, aI ci (q 8) 12 co, aI ci (q 9) 12 fi, aI ci (q 10) 12 ad, aI ci (q 11) 1800 it, aI ci (q 12) 8 sp2_10, aI ci (q 13) 160 stk] H := hP
          have hD : va_D A [oM q ref n num den mag fac who fnd pc ic a sta lb la fo dee kc, aI ci (q 1) 600 fl, aI ci (q 2) 1024 wd, aI cz (q 3) 8 df, aI cz (q 4) 8 ag, aI ci (q 5) 8 mk, aI ci (q 6) 8 sc, aI ci (q 7) 12 nu, aI ci (q 8) 12 co, aI ci (q 9) 12 fi, aI ci (q 10) 12 ad, aI ci (q 11) 1800 it, aI ci (q 12) 8 sp2_10, aI ci (q 13) 160 stk] := hD
          exact rV hx hb hr hlocks hK hP hD hS [0, 1, 2, 3, 4, 5, 6, 7, 8, 9, 10, 11, 12, 13] sp2_10 rfl (by decide) (RMv_u h_10) dX9_down_105
        · skip
          have z_8 := mt (i_le x (-((nI 4) * ((sc (fo).toNatClampNeg) / (nI 5))))).mpr c_8
          refine lv_iconst (v := nI 1) hx hb dX9_down_43 (by decide) ?_
          refine lv_goto (tgt := 48) hx hb dX9_down_44 (by decide) ?_
          refine lv_istore_n (lv' := [(3, .int (nI 1)), (2, .int ((nI 4) * ((sc (fo).toNatClampNeg) / (nI 5)))), (0, .ref (q 0)), (1, .int x)]) hx hb dX9_down_48 rfl hl (by decide) rfl (fun ls hl => ?_)
          refine lv_aload_n hx hb dX9_down_49 rfl (lv_at hl 2 rfl) ?_
          refine va_get (D := G) (ci := 8) (v := .ref (q 12)) (C := RX9) (T := TX9) (N := 30) hx hb hts hi_X9 hown hK hP 0 rfl rfl 28 (by decide) f_48 (fun _ h9 => h9) rfl dX9_down_50 ?_
          refine lv_bipush (v := nI 7) hx hb dX9_down_53 (by decide) ?_
          refine lv_iload_n hx hb dX9_down_55 rfl (lv_at hl 0 rfl) ?_
          refine lv_if_eq (tgt := 75) hx hb dX9_down_56 (by decide) (fun c => absurd c (by decide)) (fun _ => ?_)
          refine lv_aload_n hx hb dX9_down_59 rfl (lv_at hl 2 rfl) ?_
          refine va_get (D := G) (ci := 8) (v := .ref (q 12)) (C := RX9) (T := TX9) (N := 30) hx hb hts hi_X9 hown hK hP 0 rfl rfl 28 (by decide) f_48 (fun _ h9 => h9) rfl dX9_down_60 ?_
          refine lv_bipush (v := nI 7) hx hb dX9_down_63 (by decide) ?_
          refine va_iald hx hb hK hP 12 0 rfl rfl (vp_in_nI (by omega) (by omega)) dX9_down_65 ?_
          refine tp (y := sp 7) (congrArg sp (nI_clamp (by omega))) ?_
          refine lv_aload_n hx hb dX9_down_66 rfl (lv_at hl 2 rfl) ?_
          refine lv_iload_n hx hb dX9_down_67 rfl (lv_at hl 3 rfl) ?_
          refine jI (va_runV (As := [.int x]) (rest := [.int (sp 7), .int (nI 7), .ref (q 12)]) ⟨hx, hb, hml, hown, hts⟩ (c_X9_rounded l G ci cz cl q H.size x ref n num den mag fac who fnd pc ic a sta lb la fo dee kc fl wd df ag mk sc nu co fi ad it sp stk (by assumption)) (cwV 1 hts gX9_down_X9_rounded rfl rfl rfl (by decide +kernel) ⟨(Nat.le_of_ble_eq_true rfl), (Nat.le_of_ble_eq_true rfl)⟩) (pV (wc := [oM q ref n num den mag fac who fnd pc ic a sta lb la fo dee kc, aI ci (q 1) 600 fl, aI ci (q 2) 1024 wd, aI cz (q 3) 8 df, aI cz (q 4) 8 ag, aI ci (q 5) 8 mk, aI ci (q 6) 8 sc, aI ci (q 7) 12 nu, aI ci (q 8) 12 co, aI ci (q 9) 12 fi, aI ci (q 10) 12 ad, aI ci (q 11) 1800 it, aI ci (q 12) 8 sp, aI ci (q 13) 160 stk]) ok hK hP hD hS hA hO [0, 1, 2, 3, 4, 5, 6, 7, 8, 9, 10, 11, 12, 13] rfl (by decide) 0 rfl rfl) rfl rfl hl.1 rfl (lv_room (Nat.le_of_ble_eq_true rfl)) dX9_down_68 ⟨(Nat.le_of_ble_eq_true rfl), (Nat.le_of_ble_eq_true rfl)⟩) (wr := []) hP hD hS hA [0, 1, 2, 3, 4, 5, 6, 7, 8, 9, 10, 11, 12, 13] [] rfl rfl (by decide) (by decide) (fun r_11 u H locs hw_11 hP hD hS => ?_)
          try dsimp only at hw_11
          have hP : va_P G vwCl [oM q ref n num den mag fac who fnd pc ic a sta lb la fo dee kc, aI ci (q 1) 600 fl, aI ci (q 2) 1024 wd, aI cz (q 3) 8 df, aI cz (q 4) 8 ag, aI ci (q 5) 8 mk, aI ci (q 6) 8 sc, aI ci (q 7) 12 nu, aI ci (q 8) 12 co, aI ci (q 9) 12 fi, aI ci (q 10) 12 ad, aI ci (q 11) 1800 it, aI ci (q 12) 8 sp, aI ci (q 13) 160 stk] H := hP
          have hD : va_D A [oM q ref n num den mag fac who fnd pc ic a sta lb la fo dee kc, aI ci (q 1) 600 fl, aI ci (q 2) 1024 wd, aI cz (q 3) 8 df, aI cz (q 4) 8 ag, aI ci (q 5) 8 mk, aI ci (q 6) 8 sc, aI ci (q 7) 12 nu, aI ci (q 8) 12 co, aI ci (q 9) 12 fi, aI ci (q 10) 12 ad, aI ci (q 11) 1800 it, aI ci (q 12) 8 sp, aI ci (q 13) 160 stk] := hD
          refine lv_iadd hx hb dX9_down_71 ?_
          refine lv_goto (tgt := 87) hx hb dX9_down_72 (by decide) ?_
          refine va_iast hx hb hK hP hD hS 12 0 rfl rfl (vp_in_nI (by omega) (by omega)) dX9_down_87 (fun H locs hP hD hS => ?_)
          rw [nI_clamp (by omega)] at hP hD
          have hP : va_P G vwCl [oM q ref n num den mag fac who fnd pc ic a sta lb la fo dee kc, aI ci (q 1) 600 fl, aI ci (q 2) 1024 wd, aI cz (q 3) 8 df, aI cz (q 4) 8 ag, aI ci (q 5) 8 mk, aI ci (q 6) 8 sc, aI ci (q 7) 12 nu, aI ci (q 8) 12 co, aI ci (q 9) 12 fi, aI ci (q 10) 12 ad, aI ci (q 11) 1800 it, aI ci (q 12) 8 (upd sp 7 ((sp 7) + r_11)), aI ci (q 13) 160 stk] H := hP
          have hD : va_D A [oM q ref n num den mag fac who fnd pc ic a sta lb la fo dee kc, aI ci (q 1) 600 fl, aI ci (q 2) 1024 wd, aI cz (q 3) 8 df, aI cz (q 4) 8 ag, aI ci (q 5) 8 mk, aI ci (q 6) 8 sc, aI ci (q 7) 12 nu, aI ci (q 8) 12 co, aI ci (q 9) 12 fi, aI ci (q 10) 12 ad, aI ci (q 11) 1800 it, aI ci (q 12) 8 (upd sp 7 ((sp 7) + r_11)), aI ci (q 13) 160 stk] := hD
          refine lv_aload_n hx hb dX9_down_88 rfl (lv_at hl 2 rfl) ?_
          refine va_get (D := G) (ci := 8) (v := .ref (q 12)) (C := RX9) (T := TX9) (N := 30) hx hb hts hi_X9 hown hK hP 0 rfl rfl 28 (by decide) f_48 (fun _ h9 => h9) rfl dX9_down_89 ?_
          refine lv_iconst (v := nI 1) hx hb dX9_down_92 (by decide) ?_
          refine lv_dup2_11 hx hb dX9_down_93 rfl rfl ?_
          refine va_iald hx hb hK hP 12 0 rfl rfl (vp_in_nI (by omega) (by omega)) dX9_down_94 ?_
          refine tp (y := (upd sp 7 ((sp 7) + r_11)) 1) (congrArg (upd sp 7 ((sp 7) + r_11)) (nI_clamp (by omega))) ?_
          refine lv_iload_n hx hb dX9_down_95 rfl (lv_at hl 3 rfl) ?_
          refine lv_iadd hx hb dX9_down_96 ?_
          refine va_iast hx hb hK hP hD hS 12 0 rfl rfl (vp_in_nI (by omega) (by omega)) dX9_down_97 (fun H locs hP hD hS => ?_)
          rw [nI_clamp (by omega)] at hP hD
          have hP : va_P G vwCl [oM q ref n num den mag fac who fnd pc ic a sta lb la fo dee kc, aI ci (q 1) 600 fl, aI ci (q 2) 1024 wd, aI cz (q 3) 8 df, aI cz (q 4) 8 ag, aI ci (q 5) 8 mk, aI ci (q 6) 8 sc, aI ci (q 7) 12 nu, aI ci (q 8) 12 co, aI ci (q 9) 12 fi, aI ci (q 10) 12 ad, aI ci (q 11) 1800 it, aI ci (q 12) 8 (upd (upd sp 7 ((sp 7) + r_11)) 1 (((upd sp 7 ((sp 7) + r_11)) 1) + x)), aI ci (q 13) 160 stk] H := hP
          have hD : va_D A [oM q ref n num den mag fac who fnd pc ic a sta lb la fo dee kc, aI ci (q 1) 600 fl, aI ci (q 2) 1024 wd, aI cz (q 3) 8 df, aI cz (q 4) 8 ag, aI ci (q 5) 8 mk, aI ci (q 6) 8 sc, aI ci (q 7) 12 nu, aI ci (q 8) 12 co, aI ci (q 9) 12 fi, aI ci (q 10) 12 ad, aI ci (q 11) 1800 it, aI ci (q 12) 8 (upd (upd sp 7 ((sp 7) + r_11)) 1 (((upd sp 7 ((sp 7) + r_11)) 1) + x)), aI ci (q 13) 160 stk] := hD
          refine lv_aload_n hx hb dX9_down_98 rfl (lv_at hl 2 rfl) ?_
          refine lv_bipush (v := nI 7) hx hb dX9_down_99 (by decide) ?_
          refine lv_iconst (v := nI 1) hx hb dX9_down_101 (by decide) ?_
          refine jV (va_runV (As := [.int (nI 7), .int (nI 1)]) (rest := []) ⟨hx, hb, hml, hown, hts⟩ (c_X9_hold l G ci cz cl q H.size 7 1 ref n num den mag fac who fnd pc ic a sta lb la fo dee kc fl wd df ag mk sc nu co fi ad it (upd (upd sp 7 ((sp 7) + r_11)) 1 (((upd sp 7 ((sp 7) + r_11)) 1) + x)) stk (by omega) (by omega) (by assumption)) (cwV 2 hts gX9_down_X9_hold rfl rfl rfl (by decide +kernel) ⟨(Nat.le_of_ble_eq_true rfl), (Nat.le_of_ble_eq_true rfl)⟩) (pV (wc := [oM q ref n num den mag fac who fnd pc ic a sta lb la fo dee kc, aI ci (q 1) 600 fl, aI ci (q 2) 1024 wd, aI cz (q 3) 8 df, aI cz (q 4) 8 ag, aI ci (q 5) 8 mk, aI ci (q 6) 8 sc, aI ci (q 7) 12 nu, aI ci (q 8) 12 co, aI ci (q 9) 12 fi, aI ci (q 10) 12 ad, aI ci (q 11) 1800 it, aI ci (q 12) 8 (upd (upd sp 7 ((sp 7) + r_11)) 1 (((upd sp 7 ((sp 7) + r_11)) 1) + x)), aI ci (q 13) 160 stk]) ok hK hP hD hS hA hO [0, 1, 2, 3, 4, 5, 6, 7, 8, 9, 10, 11, 12, 13] rfl (by decide) 0 rfl rfl) rfl rfl hl.1 rfl (lv_room (Nat.le_of_ble_eq_true rfl)) dX9_down_102 ⟨(Nat.le_of_ble_eq_true rfl), (Nat.le_of_ble_eq_true rfl)⟩) (wr := []) hP hD hS hA [0, 1, 2, 3, 4, 5, 6, 7, 8, 9, 10, 11, 12, 13] [] rfl rfl (by decide) (by decide) (fun u H locs hw_12 hP hD hS => ?_)
          obtain ⟨sp2_12, rfl⟩ : ∃ z, z = u := ⟨_, rfl⟩
          try dsimp only at hw_12
          have h_12 := hw_12
          have hP : va_P G vwCl [oM q ref n num den mag fac who fnd pc ic a sta lb la fo dee kc, aI ci (q 1) 600 fl, aI ci (q 2) 1024 wd, aI cz (q 3) 8 df, aI cz (q 4) 8 ag, aI ci (q 5) 8 mk, aI ci (q 6) 8 sc, aI ci (q 7) 12 nu, aI ci (q 8) 12 co, aI ci (q 9) 12 fi, aI ci (q 10) 12 ad, aI ci (q 11) 1800 it, aI ci (q 12) 8 sp2_12, aI ci (q 13) 160 stk] H := hP
          have hD : va_D A [oM q ref n num den mag fac who fnd pc ic a sta lb la fo dee kc, aI ci (q 1) 600 fl, aI ci (q 2) 1024 wd, aI cz (q 3) 8 df, aI cz (q 4) 8 ag, aI ci (q 5) 8 mk, aI ci (q 6) 8 sc, aI ci (q 7) 12 nu, aI ci (q 8) 12 co, aI ci (q 9) 12 fi, aI ci (q 10) 12 ad, aI ci (q 11) 1800 it, aI ci (q 12) 8 sp2_12, aI ci (q 13) 160 stk] := hD
          exact rV hx hb hr hlocks hK hP hD hS [0, 1, 2, 3, 4, 5, 6, 7, 8, 9, 10, 11, 12, 13] sp2_12 rfl (by decide) (RMv_u h_12) dX9_down_105
  · skip
    have z_1 := mt (i_le (nI 0) fo).mpr c_1
    rw [nI_toInt (n := 0) (by omega)] at z_1
    refine lv_iconst (v := nI 0) hx hb dX9_down_7 (by decide) ?_
    refine lv_goto (tgt := 24) hx hb dX9_down_8 (by decide) ?_
    refine lv_istore_n (lv' := [(2, .int (nI 0)), (0, .ref (q 0)), (1, .int x)]) hx hb dX9_down_24 rfl hl (by decide) rfl (fun ls hl => ?_)
    refine lv_aload_n hx hb dX9_down_25 rfl (lv_at hl 1 rfl) ?_
    refine va_get (D := G) (ci := 8) (v := .int fo) (C := RX9) (T := TX9) (N := 30) hx hb hts hi_X9 hown hK hP 0 rfl rfl 25 (by decide) f_82 (fun _ h9 => h9) rfl dX9_down_26 ?_
    refine lv_if_lt (tgt := 47) hx hb dX9_down_29 (by decide) (fun c_13 => ?_) (fun c_13 => ?_)
    · skip
      have z_13 := (i_lt fo (nI 0)).mp c_13
      rw [nI_toInt (n := 0) (by omega)] at z_13
      refine lv_iconst (v := nI 0) hx hb dX9_down_47 (by decide) ?_
      refine lv_istore_n (lv' := [(3, .int (nI 0)), (2, .int (nI 0)), (0, .ref (q 0)), (1, .int x)]) hx hb dX9_down_48 rfl hl (by decide) rfl (fun ls hl => ?_)
      refine lv_aload_n hx hb dX9_down_49 rfl (lv_at hl 2 rfl) ?_
      refine va_get (D := G) (ci := 8) (v := .ref (q 12)) (C := RX9) (T := TX9) (N := 30) hx hb hts hi_X9 hown hK hP 0 rfl rfl 28 (by decide) f_48 (fun _ h9 => h9) rfl dX9_down_50 ?_
      refine lv_bipush (v := nI 7) hx hb dX9_down_53 (by decide) ?_
      refine lv_iload_n hx hb dX9_down_55 rfl (lv_at hl 0 rfl) ?_
      refine lv_if_eq (tgt := 75) hx hb dX9_down_56 (by decide) (fun _ => ?_) (fun c => absurd c (by decide))
      refine lv_aload_n hx hb dX9_down_75 rfl (lv_at hl 2 rfl) ?_
      refine lv_aload_n hx hb dX9_down_76 rfl (lv_at hl 2 rfl) ?_
      refine va_get (D := G) (ci := 8) (v := .ref (q 12)) (C := RX9) (T := TX9) (N := 30) hx hb hts hi_X9 hown hK hP 0 rfl rfl 28 (by decide) f_48 (fun _ h9 => h9) rfl dX9_down_77 ?_
      refine lv_iconst (v := nI 1) hx hb dX9_down_80 (by decide) ?_
      refine va_iald hx hb hK hP 12 0 rfl rfl (vp_in_nI (by omega) (by omega)) dX9_down_81 ?_
      refine tp (y := sp 1) (congrArg sp (nI_clamp (by omega))) ?_
      refine lv_iload_n hx hb dX9_down_82 rfl (lv_at hl 3 rfl) ?_
      refine lv_iadd hx hb dX9_down_83 ?_
      refine jI (va_runV (As := [.int ((sp 1) + x)]) (rest := [.int (nI 7), .ref (q 12)]) ⟨hx, hb, hml, hown, hts⟩ (c_X9_rounded l G ci cz cl q H.size ((sp 1) + x) ref n num den mag fac who fnd pc ic a sta lb la fo dee kc fl wd df ag mk sc nu co fi ad it sp stk (by assumption)) (cwV 1 hts gX9_down_X9_rounded rfl rfl rfl (by decide +kernel) ⟨(Nat.le_of_ble_eq_true rfl), (Nat.le_of_ble_eq_true rfl)⟩) (pV (wc := [oM q ref n num den mag fac who fnd pc ic a sta lb la fo dee kc, aI ci (q 1) 600 fl, aI ci (q 2) 1024 wd, aI cz (q 3) 8 df, aI cz (q 4) 8 ag, aI ci (q 5) 8 mk, aI ci (q 6) 8 sc, aI ci (q 7) 12 nu, aI ci (q 8) 12 co, aI ci (q 9) 12 fi, aI ci (q 10) 12 ad, aI ci (q 11) 1800 it, aI ci (q 12) 8 sp, aI ci (q 13) 160 stk]) ok hK hP hD hS hA hO [0, 1, 2, 3, 4, 5, 6, 7, 8, 9, 10, 11, 12, 13] rfl (by decide) 0 rfl rfl) rfl rfl hl.1 rfl (lv_room (Nat.le_of_ble_eq_true rfl)) dX9_down_84 ⟨(Nat.le_of_ble_eq_true rfl), (Nat.le_of_ble_eq_true rfl)⟩) (wr := []) hP hD hS hA [0, 1, 2, 3, 4, 5, 6, 7, 8, 9, 10, 11, 12, 13] [] rfl rfl (by decide) (by decide) (fun r_14 u H locs hw_14 hP hD hS => ?_)
      try dsimp only at hw_14
      have hP : va_P G vwCl [oM q ref n num den mag fac who fnd pc ic a sta lb la fo dee kc, aI ci (q 1) 600 fl, aI ci (q 2) 1024 wd, aI cz (q 3) 8 df, aI cz (q 4) 8 ag, aI ci (q 5) 8 mk, aI ci (q 6) 8 sc, aI ci (q 7) 12 nu, aI ci (q 8) 12 co, aI ci (q 9) 12 fi, aI ci (q 10) 12 ad, aI ci (q 11) 1800 it, aI ci (q 12) 8 sp, aI ci (q 13) 160 stk] H := hP
      have hD : va_D A [oM q ref n num den mag fac who fnd pc ic a sta lb la fo dee kc, aI ci (q 1) 600 fl, aI ci (q 2) 1024 wd, aI cz (q 3) 8 df, aI cz (q 4) 8 ag, aI ci (q 5) 8 mk, aI ci (q 6) 8 sc, aI ci (q 7) 12 nu, aI ci (q 8) 12 co, aI ci (q 9) 12 fi, aI ci (q 10) 12 ad, aI ci (q 11) 1800 it, aI ci (q 12) 8 sp, aI ci (q 13) 160 stk] := hD
      refine va_iast hx hb hK hP hD hS 12 0 rfl rfl (vp_in_nI (by omega) (by omega)) dX9_down_87 (fun H locs hP hD hS => ?_)
      rw [nI_clamp (by omega)] at hP hD
      have hP : va_P G vwCl [oM q ref n num den mag fac who fnd pc ic a sta lb la fo dee kc, aI ci (q 1) 600 fl, aI ci (q 2) 1024 wd, aI cz (q 3) 8 df, aI cz (q 4) 8 ag, aI ci (q 5) 8 mk, aI ci (q 6) 8 sc, aI ci (q 7) 12 nu, aI ci (q 8) 12 co, aI ci (q 9) 12 fi, aI ci (q 10) 12 ad, aI ci (q 11) 1800 it, aI ci (q 12) 8 (upd sp 7 r_14), aI ci (q 13) 160 stk] H := hP
      have hD : va_D A [oM q ref n num den mag fac who fnd pc ic a sta lb la fo dee kc, aI ci (q 1) 600 fl, aI ci (q 2) 1024 wd, aI cz (q 3) 8 df, aI cz (q 4) 8 ag, aI ci (q 5) 8 mk, aI ci (q 6) 8 sc, aI ci (q 7) 12 nu, aI ci (q 8) 12 co, aI ci (q 9) 12 fi, aI ci (q 10) 12 ad, aI ci (q 11) 1800 it, aI ci (q 12) 8 (upd sp 7 r_14), aI ci (q 13) 160 stk] := hD
      refine lv_aload_n hx hb dX9_down_88 rfl (lv_at hl 2 rfl) ?_
      refine va_get (D := G) (ci := 8) (v := .ref (q 12)) (C := RX9) (T := TX9) (N := 30) hx hb hts hi_X9 hown hK hP 0 rfl rfl 28 (by decide) f_48 (fun _ h9 => h9) rfl dX9_down_89 ?_
      refine lv_iconst (v := nI 1) hx hb dX9_down_92 (by decide) ?_
      refine lv_dup2_11 hx hb dX9_down_93 rfl rfl ?_
      refine va_iald hx hb hK hP 12 0 rfl rfl (vp_in_nI (by omega) (by omega)) dX9_down_94 ?_
      refine tp (y := (upd sp 7 r_14) 1) (congrArg (upd sp 7 r_14) (nI_clamp (by omega))) ?_
      refine lv_iload_n hx hb dX9_down_95 rfl (lv_at hl 3 rfl) ?_
      refine lv_iadd hx hb dX9_down_96 ?_
      refine va_iast hx hb hK hP hD hS 12 0 rfl rfl (vp_in_nI (by omega) (by omega)) dX9_down_97 (fun H locs hP hD hS => ?_)
      rw [nI_clamp (by omega)] at hP hD
      have hP : va_P G vwCl [oM q ref n num den mag fac who fnd pc ic a sta lb la fo dee kc, aI ci (q 1) 600 fl, aI ci (q 2) 1024 wd, aI cz (q 3) 8 df, aI cz (q 4) 8 ag, aI ci (q 5) 8 mk, aI ci (q 6) 8 sc, aI ci (q 7) 12 nu, aI ci (q 8) 12 co, aI ci (q 9) 12 fi, aI ci (q 10) 12 ad, aI ci (q 11) 1800 it, aI ci (q 12) 8 (upd (upd sp 7 r_14) 1 (((upd sp 7 r_14) 1) + x)), aI ci (q 13) 160 stk] H := hP
      have hD : va_D A [oM q ref n num den mag fac who fnd pc ic a sta lb la fo dee kc, aI ci (q 1) 600 fl, aI ci (q 2) 1024 wd, aI cz (q 3) 8 df, aI cz (q 4) 8 ag, aI ci (q 5) 8 mk, aI ci (q 6) 8 sc, aI ci (q 7) 12 nu, aI ci (q 8) 12 co, aI ci (q 9) 12 fi, aI ci (q 10) 12 ad, aI ci (q 11) 1800 it, aI ci (q 12) 8 (upd (upd sp 7 r_14) 1 (((upd sp 7 r_14) 1) + x)), aI ci (q 13) 160 stk] := hD
      refine lv_aload_n hx hb dX9_down_98 rfl (lv_at hl 2 rfl) ?_
      refine lv_bipush (v := nI 7) hx hb dX9_down_99 (by decide) ?_
      refine lv_iconst (v := nI 1) hx hb dX9_down_101 (by decide) ?_
      refine jV (va_runV (As := [.int (nI 7), .int (nI 1)]) (rest := []) ⟨hx, hb, hml, hown, hts⟩ (c_X9_hold l G ci cz cl q H.size 7 1 ref n num den mag fac who fnd pc ic a sta lb la fo dee kc fl wd df ag mk sc nu co fi ad it (upd (upd sp 7 r_14) 1 (((upd sp 7 r_14) 1) + x)) stk (by omega) (by omega) (by assumption)) (cwV 2 hts gX9_down_X9_hold rfl rfl rfl (by decide +kernel) ⟨(Nat.le_of_ble_eq_true rfl), (Nat.le_of_ble_eq_true rfl)⟩) (pV (wc := [oM q ref n num den mag fac who fnd pc ic a sta lb la fo dee kc, aI ci (q 1) 600 fl, aI ci (q 2) 1024 wd, aI cz (q 3) 8 df, aI cz (q 4) 8 ag, aI ci (q 5) 8 mk, aI ci (q 6) 8 sc, aI ci (q 7) 12 nu, aI ci (q 8) 12 co, aI ci (q 9) 12 fi, aI ci (q 10) 12 ad, aI ci (q 11) 1800 it, aI ci (q 12) 8 (upd (upd sp 7 r_14) 1 (((upd sp 7 r_14) 1) + x)), aI ci (q 13) 160 stk]) ok hK hP hD hS hA hO [0, 1, 2, 3, 4, 5, 6, 7, 8, 9, 10, 11, 12, 13] rfl (by decide) 0 rfl rfl) rfl rfl hl.1 rfl (lv_room (Nat.le_of_ble_eq_true rfl)) dX9_down_102 ⟨(Nat.le_of_ble_eq_true rfl), (Nat.le_of_ble_eq_true rfl)⟩) (wr := []) hP hD hS hA [0, 1, 2, 3, 4, 5, 6, 7, 8, 9, 10, 11, 12, 13] [] rfl rfl (by decide) (by decide) (fun u H locs hw_15 hP hD hS => ?_)
      obtain ⟨sp2_15, rfl⟩ : ∃ z, z = u := ⟨_, rfl⟩
      try dsimp only at hw_15
      have h_15 := hw_15
      have hP : va_P G vwCl [oM q ref n num den mag fac who fnd pc ic a sta lb la fo dee kc, aI ci (q 1) 600 fl, aI ci (q 2) 1024 wd, aI cz (q 3) 8 df, aI cz (q 4) 8 ag, aI ci (q 5) 8 mk, aI ci (q 6) 8 sc, aI ci (q 7) 12 nu, aI ci (q 8) 12 co, aI ci (q 9) 12 fi, aI ci (q 10) 12 ad, aI ci (q 11) 1800 it, aI ci (q 12) 8 sp2_15, aI ci (q 13) 160 stk] H := hP
      have hD : va_D A [oM q ref n num den mag fac who fnd pc ic a sta lb la fo dee kc, aI ci (q 1) 600 fl, aI ci (q 2) 1024 wd, aI cz (q 3) 8 df, aI cz (q 4) 8 ag, aI ci (q 5) 8 mk, aI ci (q 6) 8 sc, aI ci (q 7) 12 nu, aI ci (q 8) 12 co, aI ci (q 9) 12 fi, aI ci (q 10) 12 ad, aI ci (q 11) 1800 it, aI ci (q 12) 8 sp2_15, aI ci (q 13) 160 stk] := hD
      exact rV hx hb hr hlocks hK hP hD hS [0, 1, 2, 3, 4, 5, 6, 7, 8, 9, 10, 11, 12, 13] sp2_15 rfl (by decide) (RMv_u h_15) dX9_down_105
    · skip
      have z_13 := mt (i_lt fo (nI 0)).mpr c_13
      rw [nI_toInt (n := 0) (by omega)] at z_13
      refine lv_iload_n hx hb dX9_down_32 rfl (lv_at hl 2 rfl) ?_
      refine lv_iload_n hx hb dX9_down_33 rfl (lv_at hl 0 rfl) ?_
      refine lv_icmp_ge (tgt := 47) hx hb dX9_down_34 (by decide) (fun c_16 => ?_) (fun c_16 => ?_)
      · skip
        have z_16 := (i_le (nI 0) x).mp c_16
        rw [nI_toInt (n := 0) (by omega)] at z_16
        refine lv_iconst (v := nI 0) hx hb dX9_down_47 (by decide) ?_
        refine lv_istore_n (lv' := [(3, .int (nI 0)), (2, .int (nI 0)), (0, .ref (q 0)), (1, .int x)]) hx hb dX9_down_48 rfl hl (by decide) rfl (fun ls hl => ?_)
        refine lv_aload_n hx hb dX9_down_49 rfl (lv_at hl 2 rfl) ?_
        refine va_get (D := G) (ci := 8) (v := .ref (q 12)) (C := RX9) (T := TX9) (N := 30) hx hb hts hi_X9 hown hK hP 0 rfl rfl 28 (by decide) f_48 (fun _ h9 => h9) rfl dX9_down_50 ?_
        refine lv_bipush (v := nI 7) hx hb dX9_down_53 (by decide) ?_
        refine lv_iload_n hx hb dX9_down_55 rfl (lv_at hl 0 rfl) ?_
        refine lv_if_eq (tgt := 75) hx hb dX9_down_56 (by decide) (fun _ => ?_) (fun c => absurd c (by decide))
        refine lv_aload_n hx hb dX9_down_75 rfl (lv_at hl 2 rfl) ?_
        refine lv_aload_n hx hb dX9_down_76 rfl (lv_at hl 2 rfl) ?_
        refine va_get (D := G) (ci := 8) (v := .ref (q 12)) (C := RX9) (T := TX9) (N := 30) hx hb hts hi_X9 hown hK hP 0 rfl rfl 28 (by decide) f_48 (fun _ h9 => h9) rfl dX9_down_77 ?_
        refine lv_iconst (v := nI 1) hx hb dX9_down_80 (by decide) ?_
        refine va_iald hx hb hK hP 12 0 rfl rfl (vp_in_nI (by omega) (by omega)) dX9_down_81 ?_
        refine tp (y := sp 1) (congrArg sp (nI_clamp (by omega))) ?_
        refine lv_iload_n hx hb dX9_down_82 rfl (lv_at hl 3 rfl) ?_
        refine lv_iadd hx hb dX9_down_83 ?_
        refine jI (va_runV (As := [.int ((sp 1) + x)]) (rest := [.int (nI 7), .ref (q 12)]) ⟨hx, hb, hml, hown, hts⟩ (c_X9_rounded l G ci cz cl q H.size ((sp 1) + x) ref n num den mag fac who fnd pc ic a sta lb la fo dee kc fl wd df ag mk sc nu co fi ad it sp stk (by assumption)) (cwV 1 hts gX9_down_X9_rounded rfl rfl rfl (by decide +kernel) ⟨(Nat.le_of_ble_eq_true rfl), (Nat.le_of_ble_eq_true rfl)⟩) (pV (wc := [oM q ref n num den mag fac who fnd pc ic a sta lb la fo dee kc, aI ci (q 1) 600 fl, aI ci (q 2) 1024 wd, aI cz (q 3) 8 df, aI cz (q 4) 8 ag, aI ci (q 5) 8 mk, aI ci (q 6) 8 sc, aI ci (q 7) 12 nu, aI ci (q 8) 12 co, aI ci (q 9) 12 fi, aI ci (q 10) 12 ad, aI ci (q 11) 1800 it, aI ci (q 12) 8 sp, aI ci (q 13) 160 stk]) ok hK hP hD hS hA hO [0, 1, 2, 3, 4, 5, 6, 7, 8, 9, 10, 11, 12, 13] rfl (by decide) 0 rfl rfl) rfl rfl hl.1 rfl (lv_room (Nat.le_of_ble_eq_true rfl)) dX9_down_84 ⟨(Nat.le_of_ble_eq_true rfl), (Nat.le_of_ble_eq_true rfl)⟩) (wr := []) hP hD hS hA [0, 1, 2, 3, 4, 5, 6, 7, 8, 9, 10, 11, 12, 13] [] rfl rfl (by decide) (by decide) (fun r_17 u H locs hw_17 hP hD hS => ?_)
        try dsimp only at hw_17
        have hP : va_P G vwCl [oM q ref n num den mag fac who fnd pc ic a sta lb la fo dee kc, aI ci (q 1) 600 fl, aI ci (q 2) 1024 wd, aI cz (q 3) 8 df, aI cz (q 4) 8 ag, aI ci (q 5) 8 mk, aI ci (q 6) 8 sc, aI ci (q 7) 12 nu, aI ci (q 8) 12 co, aI ci (q 9) 12 fi, aI ci (q 10) 12 ad, aI ci (q 11) 1800 it, aI ci (q 12) 8 sp, aI ci (q 13) 160 stk] H := hP
        have hD : va_D A [oM q ref n num den mag fac who fnd pc ic a sta lb la fo dee kc, aI ci (q 1) 600 fl, aI ci (q 2) 1024 wd, aI cz (q 3) 8 df, aI cz (q 4) 8 ag, aI ci (q 5) 8 mk, aI ci (q 6) 8 sc, aI ci (q 7) 12 nu, aI ci (q 8) 12 co, aI ci (q 9) 12 fi, aI ci (q 10) 12 ad, aI ci (q 11) 1800 it, aI ci (q 12) 8 sp, aI ci (q 13) 160 stk] := hD
        refine va_iast hx hb hK hP hD hS 12 0 rfl rfl (vp_in_nI (by omega) (by omega)) dX9_down_87 (fun H locs hP hD hS => ?_)
        rw [nI_clamp (by omega)] at hP hD
        have hP : va_P G vwCl [oM q ref n num den mag fac who fnd pc ic a sta lb la fo dee kc, aI ci (q 1) 600 fl, aI ci (q 2) 1024 wd, aI cz (q 3) 8 df, aI cz (q 4) 8 ag, aI ci (q 5) 8 mk, aI ci (q 6) 8 sc, aI ci (q 7) 12 nu, aI ci (q 8) 12 co, aI ci (q 9) 12 fi, aI ci (q 10) 12 ad, aI ci (q 11) 1800 it, aI ci (q 12) 8 (upd sp 7 r_17), aI ci (q 13) 160 stk] H := hP
        have hD : va_D A [oM q ref n num den mag fac who fnd pc ic a sta lb la fo dee kc, aI ci (q 1) 600 fl, aI ci (q 2) 1024 wd, aI cz (q 3) 8 df, aI cz (q 4) 8 ag, aI ci (q 5) 8 mk, aI ci (q 6) 8 sc, aI ci (q 7) 12 nu, aI ci (q 8) 12 co, aI ci (q 9) 12 fi, aI ci (q 10) 12 ad, aI ci (q 11) 1800 it, aI ci (q 12) 8 (upd sp 7 r_17), aI ci (q 13) 160 stk] := hD
        refine lv_aload_n hx hb dX9_down_88 rfl (lv_at hl 2 rfl) ?_
        refine va_get (D := G) (ci := 8) (v := .ref (q 12)) (C := RX9) (T := TX9) (N := 30) hx hb hts hi_X9 hown hK hP 0 rfl rfl 28 (by decide) f_48 (fun _ h9 => h9) rfl dX9_down_89 ?_
        refine lv_iconst (v := nI 1) hx hb dX9_down_92 (by decide) ?_
        refine lv_dup2_11 hx hb dX9_down_93 rfl rfl ?_
        refine va_iald hx hb hK hP 12 0 rfl rfl (vp_in_nI (by omega) (by omega)) dX9_down_94 ?_
        refine tp (y := (upd sp 7 r_17) 1) (congrArg (upd sp 7 r_17) (nI_clamp (by omega))) ?_
        refine lv_iload_n hx hb dX9_down_95 rfl (lv_at hl 3 rfl) ?_
        refine lv_iadd hx hb dX9_down_96 ?_
        refine va_iast hx hb hK hP hD hS 12 0 rfl rfl (vp_in_nI (by omega) (by omega)) dX9_down_97 (fun H locs hP hD hS => ?_)
        rw [nI_clamp (by omega)] at hP hD
        have hP : va_P G vwCl [oM q ref n num den mag fac who fnd pc ic a sta lb la fo dee kc, aI ci (q 1) 600 fl, aI ci (q 2) 1024 wd, aI cz (q 3) 8 df, aI cz (q 4) 8 ag, aI ci (q 5) 8 mk, aI ci (q 6) 8 sc, aI ci (q 7) 12 nu, aI ci (q 8) 12 co, aI ci (q 9) 12 fi, aI ci (q 10) 12 ad, aI ci (q 11) 1800 it, aI ci (q 12) 8 (upd (upd sp 7 r_17) 1 (((upd sp 7 r_17) 1) + x)), aI ci (q 13) 160 stk] H := hP
        have hD : va_D A [oM q ref n num den mag fac who fnd pc ic a sta lb la fo dee kc, aI ci (q 1) 600 fl, aI ci (q 2) 1024 wd, aI cz (q 3) 8 df, aI cz (q 4) 8 ag, aI ci (q 5) 8 mk, aI ci (q 6) 8 sc, aI ci (q 7) 12 nu, aI ci (q 8) 12 co, aI ci (q 9) 12 fi, aI ci (q 10) 12 ad, aI ci (q 11) 1800 it, aI ci (q 12) 8 (upd (upd sp 7 r_17) 1 (((upd sp 7 r_17) 1) + x)), aI ci (q 13) 160 stk] := hD
        refine lv_aload_n hx hb dX9_down_98 rfl (lv_at hl 2 rfl) ?_
        refine lv_bipush (v := nI 7) hx hb dX9_down_99 (by decide) ?_
        refine lv_iconst (v := nI 1) hx hb dX9_down_101 (by decide) ?_
        refine jV (va_runV (As := [.int (nI 7), .int (nI 1)]) (rest := []) ⟨hx, hb, hml, hown, hts⟩ (c_X9_hold l G ci cz cl q H.size 7 1 ref n num den mag fac who fnd pc ic a sta lb la fo dee kc fl wd df ag mk sc nu co fi ad it (upd (upd sp 7 r_17) 1 (((upd sp 7 r_17) 1) + x)) stk (by omega) (by omega) (by assumption)) (cwV 2 hts gX9_down_X9_hold rfl rfl rfl (by decide +kernel) ⟨(Nat.le_of_ble_eq_true rfl), (Nat.le_of_ble_eq_true rfl)⟩) (pV (wc := [oM q ref n num den mag fac who fnd pc ic a sta lb la fo dee kc, aI ci (q 1) 600 fl, aI ci (q 2) 1024 wd, aI cz (q 3) 8 df, aI cz (q 4) 8 ag, aI ci (q 5) 8 mk, aI ci (q 6) 8 sc, aI ci (q 7) 12 nu, aI ci (q 8) 12 co, aI ci (q 9) 12 fi, aI ci (q 10) 12 ad, aI ci (q 11) 1800 it, aI ci (q 12) 8 (upd (upd sp 7 r_17) 1 (((upd sp 7 r_17) 1) + x)), aI ci (q 13) 160 stk]) ok hK hP hD hS hA hO [0, 1, 2, 3, 4, 5, 6, 7, 8, 9, 10, 11, 12, 13] rfl (by decide) 0 rfl rfl) rfl rfl hl.1 rfl (lv_room (Nat.le_of_ble_eq_true rfl)) dX9_down_102 ⟨(Nat.le_of_ble_eq_true rfl), (Nat.le_of_ble_eq_true rfl)⟩) (wr := []) hP hD hS hA [0, 1, 2, 3, 4, 5, 6, 7, 8, 9, 10, 11, 12, 13] [] rfl rfl (by decide) (by decide) (fun u H locs hw_18 hP hD hS => ?_)
        obtain ⟨sp2_18, rfl⟩ : ∃ z, z = u := ⟨_, rfl⟩
        try dsimp only at hw_18
        have h_18 := hw_18
        have hP : va_P G vwCl [oM q ref n num den mag fac who fnd pc ic a sta lb la fo dee kc, aI ci (q 1) 600 fl, aI ci (q 2) 1024 wd, aI cz (q 3) 8 df, aI cz (q 4) 8 ag, aI ci (q 5) 8 mk, aI ci (q 6) 8 sc, aI ci (q 7) 12 nu, aI ci (q 8) 12 co, aI ci (q 9) 12 fi, aI ci (q 10) 12 ad, aI ci (q 11) 1800 it, aI ci (q 12) 8 sp2_18, aI ci (q 13) 160 stk] H := hP
        have hD : va_D A [oM q ref n num den mag fac who fnd pc ic a sta lb la fo dee kc, aI ci (q 1) 600 fl, aI ci (q 2) 1024 wd, aI cz (q 3) 8 df, aI cz (q 4) 8 ag, aI ci (q 5) 8 mk, aI ci (q 6) 8 sc, aI ci (q 7) 12 nu, aI ci (q 8) 12 co, aI ci (q 9) 12 fi, aI ci (q 10) 12 ad, aI ci (q 11) 1800 it, aI ci (q 12) 8 sp2_18, aI ci (q 13) 160 stk] := hD
        exact rV hx hb hr hlocks hK hP hD hS [0, 1, 2, 3, 4, 5, 6, 7, 8, 9, 10, 11, 12, 13] sp2_18 rfl (by decide) (RMv_u h_18) dX9_down_105
      · skip
        have z_16 := mt (i_le (nI 0) x).mpr c_16
        rw [nI_toInt (n := 0) (by omega)] at z_16
        refine lv_iload_n hx hb dX9_down_37 rfl (lv_at hl 2 rfl) ?_
        refine lv_iload_n hx hb dX9_down_38 rfl (lv_at hl 0 rfl) ?_
        refine lv_ineg hx hb dX9_down_39 ?_
        refine lv_icmp_le (tgt := 47) hx hb dX9_down_40 (by decide) (fun c_19 => ?_) (fun c_19 => ?_)
        · skip
          have z_19 := (i_le x (-(nI 0))).mp c_19
          refine lv_iconst (v := nI 0) hx hb dX9_down_47 (by decide) ?_
          refine lv_istore_n (lv' := [(3, .int (nI 0)), (2, .int (nI 0)), (0, .ref (q 0)), (1, .int x)]) hx hb dX9_down_48 rfl hl (by decide) rfl (fun ls hl => ?_)
          refine lv_aload_n hx hb dX9_down_49 rfl (lv_at hl 2 rfl) ?_
          refine va_get (D := G) (ci := 8) (v := .ref (q 12)) (C := RX9) (T := TX9) (N := 30) hx hb hts hi_X9 hown hK hP 0 rfl rfl 28 (by decide) f_48 (fun _ h9 => h9) rfl dX9_down_50 ?_
          refine lv_bipush (v := nI 7) hx hb dX9_down_53 (by decide) ?_
          refine lv_iload_n hx hb dX9_down_55 rfl (lv_at hl 0 rfl) ?_
          refine lv_if_eq (tgt := 75) hx hb dX9_down_56 (by decide) (fun _ => ?_) (fun c => absurd c (by decide))
          refine lv_aload_n hx hb dX9_down_75 rfl (lv_at hl 2 rfl) ?_
          refine lv_aload_n hx hb dX9_down_76 rfl (lv_at hl 2 rfl) ?_
          refine va_get (D := G) (ci := 8) (v := .ref (q 12)) (C := RX9) (T := TX9) (N := 30) hx hb hts hi_X9 hown hK hP 0 rfl rfl 28 (by decide) f_48 (fun _ h9 => h9) rfl dX9_down_77 ?_
          refine lv_iconst (v := nI 1) hx hb dX9_down_80 (by decide) ?_
          refine va_iald hx hb hK hP 12 0 rfl rfl (vp_in_nI (by omega) (by omega)) dX9_down_81 ?_
          refine tp (y := sp 1) (congrArg sp (nI_clamp (by omega))) ?_
          refine lv_iload_n hx hb dX9_down_82 rfl (lv_at hl 3 rfl) ?_
          refine lv_iadd hx hb dX9_down_83 ?_
          refine jI (va_runV (As := [.int ((sp 1) + x)]) (rest := [.int (nI 7), .ref (q 12)]) ⟨hx, hb, hml, hown, hts⟩ (c_X9_rounded l G ci cz cl q H.size ((sp 1) + x) ref n num den mag fac who fnd pc ic a sta lb la fo dee kc fl wd df ag mk sc nu co fi ad it sp stk (by assumption)) (cwV 1 hts gX9_down_X9_rounded rfl rfl rfl (by decide +kernel) ⟨(Nat.le_of_ble_eq_true rfl), (Nat.le_of_ble_eq_true rfl)⟩) (pV (wc := [oM q ref n num den mag fac who fnd pc ic a sta lb la fo dee kc, aI ci (q 1) 600 fl, aI ci (q 2) 1024 wd, aI cz (q 3) 8 df, aI cz (q 4) 8 ag, aI ci (q 5) 8 mk, aI ci (q 6) 8 sc, aI ci (q 7) 12 nu, aI ci (q 8) 12 co, aI ci (q 9) 12 fi, aI ci (q 10) 12 ad, aI ci (q 11) 1800 it, aI ci (q 12) 8 sp, aI ci (q 13) 160 stk]) ok hK hP hD hS hA hO [0, 1, 2, 3, 4, 5, 6, 7, 8, 9, 10, 11, 12, 13] rfl (by decide) 0 rfl rfl) rfl rfl hl.1 rfl (lv_room (Nat.le_of_ble_eq_true rfl)) dX9_down_84 ⟨(Nat.le_of_ble_eq_true rfl), (Nat.le_of_ble_eq_true rfl)⟩) (wr := []) hP hD hS hA [0, 1, 2, 3, 4, 5, 6, 7, 8, 9, 10, 11, 12, 13] [] rfl rfl (by decide) (by decide) (fun r_20 u H locs hw_20 hP hD hS => ?_)
          try dsimp only at hw_20
          have hP : va_P G vwCl [oM q ref n num den mag fac who fnd pc ic a sta lb la fo dee kc, aI ci (q 1) 600 fl, aI ci (q 2) 1024 wd, aI cz (q 3) 8 df, aI cz (q 4) 8 ag, aI ci (q 5) 8 mk, aI ci (q 6) 8 sc, aI ci (q 7) 12 nu, aI ci (q 8) 12 co, aI ci (q 9) 12 fi, aI ci (q 10) 12 ad, aI ci (q 11) 1800 it, aI ci (q 12) 8 sp, aI ci (q 13) 160 stk] H := hP
          have hD : va_D A [oM q ref n num den mag fac who fnd pc ic a sta lb la fo dee kc, aI ci (q 1) 600 fl, aI ci (q 2) 1024 wd, aI cz (q 3) 8 df, aI cz (q 4) 8 ag, aI ci (q 5) 8 mk, aI ci (q 6) 8 sc, aI ci (q 7) 12 nu, aI ci (q 8) 12 co, aI ci (q 9) 12 fi, aI ci (q 10) 12 ad, aI ci (q 11) 1800 it, aI ci (q 12) 8 sp, aI ci (q 13) 160 stk] := hD
          refine va_iast hx hb hK hP hD hS 12 0 rfl rfl (vp_in_nI (by omega) (by omega)) dX9_down_87 (fun H locs hP hD hS => ?_)
          rw [nI_clamp (by omega)] at hP hD
          have hP : va_P G vwCl [oM q ref n num den mag fac who fnd pc ic a sta lb la fo dee kc, aI ci (q 1) 600 fl, aI ci (q 2) 1024 wd, aI cz (q 3) 8 df, aI cz (q 4) 8 ag, aI ci (q 5) 8 mk, aI ci (q 6) 8 sc, aI ci (q 7) 12 nu, aI ci (q 8) 12 co, aI ci (q 9) 12 fi, aI ci (q 10) 12 ad, aI ci (q 11) 1800 it, aI ci (q 12) 8 (upd sp 7 r_20), aI ci (q 13) 160 stk] H := hP
          have hD : va_D A [oM q ref n num den mag fac who fnd pc ic a sta lb la fo dee kc, aI ci (q 1) 600 fl, aI ci (q 2) 1024 wd, aI cz (q 3) 8 df, aI cz (q 4) 8 ag, aI ci (q 5) 8 mk, aI ci (q 6) 8 sc, aI ci (q 7) 12 nu, aI ci (q 8) 12 co, aI ci (q 9) 12 fi, aI ci (q 10) 12 ad, aI ci (q 11) 1800 it, aI ci (q 12) 8 (upd sp 7 r_20), aI ci (q 13) 160 stk] := hD
          refine lv_aload_n hx hb dX9_down_88 rfl (lv_at hl 2 rfl) ?_
          refine va_get (D := G) (ci := 8) (v := .ref (q 12)) (C := RX9) (T := TX9) (N := 30) hx hb hts hi_X9 hown hK hP 0 rfl rfl 28 (by decide) f_48 (fun _ h9 => h9) rfl dX9_down_89 ?_
          refine lv_iconst (v := nI 1) hx hb dX9_down_92 (by decide) ?_
          refine lv_dup2_11 hx hb dX9_down_93 rfl rfl ?_
          refine va_iald hx hb hK hP 12 0 rfl rfl (vp_in_nI (by omega) (by omega)) dX9_down_94 ?_
          refine tp (y := (upd sp 7 r_20) 1) (congrArg (upd sp 7 r_20) (nI_clamp (by omega))) ?_
          refine lv_iload_n hx hb dX9_down_95 rfl (lv_at hl 3 rfl) ?_
          refine lv_iadd hx hb dX9_down_96 ?_
          refine va_iast hx hb hK hP hD hS 12 0 rfl rfl (vp_in_nI (by omega) (by omega)) dX9_down_97 (fun H locs hP hD hS => ?_)
          rw [nI_clamp (by omega)] at hP hD
          have hP : va_P G vwCl [oM q ref n num den mag fac who fnd pc ic a sta lb la fo dee kc, aI ci (q 1) 600 fl, aI ci (q 2) 1024 wd, aI cz (q 3) 8 df, aI cz (q 4) 8 ag, aI ci (q 5) 8 mk, aI ci (q 6) 8 sc, aI ci (q 7) 12 nu, aI ci (q 8) 12 co, aI ci (q 9) 12 fi, aI ci (q 10) 12 ad, aI ci (q 11) 1800 it, aI ci (q 12) 8 (upd (upd sp 7 r_20) 1 (((upd sp 7 r_20) 1) + x)), aI ci (q 13) 160 stk] H := hP
          have hD : va_D A [oM q ref n num den mag fac who fnd pc ic a sta lb la fo dee kc, aI ci (q 1) 600 fl, aI ci (q 2) 1024 wd, aI cz (q 3) 8 df, aI cz (q 4) 8 ag, aI ci (q 5) 8 mk, aI ci (q 6) 8 sc, aI ci (q 7) 12 nu, aI ci (q 8) 12 co, aI ci (q 9) 12 fi, aI ci (q 10) 12 ad, aI ci (q 11) 1800 it, aI ci (q 12) 8 (upd (upd sp 7 r_20) 1 (((upd sp 7 r_20) 1) + x)), aI ci (q 13) 160 stk] := hD
          refine lv_aload_n hx hb dX9_down_98 rfl (lv_at hl 2 rfl) ?_
          refine lv_bipush (v := nI 7) hx hb dX9_down_99 (by decide) ?_
          refine lv_iconst (v := nI 1) hx hb dX9_down_101 (by decide) ?_
          refine jV (va_runV (As := [.int (nI 7), .int (nI 1)]) (rest := []) ⟨hx, hb, hml, hown, hts⟩ (c_X9_hold l G ci cz cl q H.size 7 1 ref n num den mag fac who fnd pc ic a sta lb la fo dee kc fl wd df ag mk sc nu co fi ad it (upd (upd sp 7 r_20) 1 (((upd sp 7 r_20) 1) + x)) stk (by omega) (by omega) (by assumption)) (cwV 2 hts gX9_down_X9_hold rfl rfl rfl (by decide +kernel) ⟨(Nat.le_of_ble_eq_true rfl), (Nat.le_of_ble_eq_true rfl)⟩) (pV (wc := [oM q ref n num den mag fac who fnd pc ic a sta lb la fo dee kc, aI ci (q 1) 600 fl, aI ci (q 2) 1024 wd, aI cz (q 3) 8 df, aI cz (q 4) 8 ag, aI ci (q 5) 8 mk, aI ci (q 6) 8 sc, aI ci (q 7) 12 nu, aI ci (q 8) 12 co, aI ci (q 9) 12 fi, aI ci (q 10) 12 ad, aI ci (q 11) 1800 it, aI ci (q 12) 8 (upd (upd sp 7 r_20) 1 (((upd sp 7 r_20) 1) + x)), aI ci (q 13) 160 stk]) ok hK hP hD hS hA hO [0, 1, 2, 3, 4, 5, 6, 7, 8, 9, 10, 11, 12, 13] rfl (by decide) 0 rfl rfl) rfl rfl hl.1 rfl (lv_room (Nat.le_of_ble_eq_true rfl)) dX9_down_102 ⟨(Nat.le_of_ble_eq_true rfl), (Nat.le_of_ble_eq_true rfl)⟩) (wr := []) hP hD hS hA [0, 1, 2, 3, 4, 5, 6, 7, 8, 9, 10, 11, 12, 13] [] rfl rfl (by decide) (by decide) (fun u H locs hw_21 hP hD hS => ?_)
          obtain ⟨sp2_21, rfl⟩ : ∃ z, z = u := ⟨_, rfl⟩
          try dsimp only at hw_21
          have h_21 := hw_21
          have hP : va_P G vwCl [oM q ref n num den mag fac who fnd pc ic a sta lb la fo dee kc, aI ci (q 1) 600 fl, aI ci (q 2) 1024 wd, aI cz (q 3) 8 df, aI cz (q 4) 8 ag, aI ci (q 5) 8 mk, aI ci (q 6) 8 sc, aI ci (q 7) 12 nu, aI ci (q 8) 12 co, aI ci (q 9) 12 fi, aI ci (q 10) 12 ad, aI ci (q 11) 1800 it, aI ci (q 12) 8 sp2_21, aI ci (q 13) 160 stk] H := hP
          have hD : va_D A [oM q ref n num den mag fac who fnd pc ic a sta lb la fo dee kc, aI ci (q 1) 600 fl, aI ci (q 2) 1024 wd, aI cz (q 3) 8 df, aI cz (q 4) 8 ag, aI ci (q 5) 8 mk, aI ci (q 6) 8 sc, aI ci (q 7) 12 nu, aI ci (q 8) 12 co, aI ci (q 9) 12 fi, aI ci (q 10) 12 ad, aI ci (q 11) 1800 it, aI ci (q 12) 8 sp2_21, aI ci (q 13) 160 stk] := hD
          exact rV hx hb hr hlocks hK hP hD hS [0, 1, 2, 3, 4, 5, 6, 7, 8, 9, 10, 11, 12, 13] sp2_21 rfl (by decide) (RMv_u h_21) dX9_down_105
        · skip
          have z_19 := mt (i_le x (-(nI 0))).mpr c_19
          refine lv_iconst (v := nI 1) hx hb dX9_down_43 (by decide) ?_
          refine lv_goto (tgt := 48) hx hb dX9_down_44 (by decide) ?_
          refine lv_istore_n (lv' := [(3, .int (nI 1)), (2, .int (nI 0)), (0, .ref (q 0)), (1, .int x)]) hx hb dX9_down_48 rfl hl (by decide) rfl (fun ls hl => ?_)
          refine lv_aload_n hx hb dX9_down_49 rfl (lv_at hl 2 rfl) ?_
          refine va_get (D := G) (ci := 8) (v := .ref (q 12)) (C := RX9) (T := TX9) (N := 30) hx hb hts hi_X9 hown hK hP 0 rfl rfl 28 (by decide) f_48 (fun _ h9 => h9) rfl dX9_down_50 ?_
          refine lv_bipush (v := nI 7) hx hb dX9_down_53 (by decide) ?_
          refine lv_iload_n hx hb dX9_down_55 rfl (lv_at hl 0 rfl) ?_
          refine lv_if_eq (tgt := 75) hx hb dX9_down_56 (by decide) (fun c => absurd c (by decide)) (fun _ => ?_)
          refine lv_aload_n hx hb dX9_down_59 rfl (lv_at hl 2 rfl) ?_
          refine va_get (D := G) (ci := 8) (v := .ref (q 12)) (C := RX9) (T := TX9) (N := 30) hx hb hts hi_X9 hown hK hP 0 rfl rfl 28 (by decide) f_48 (fun _ h9 => h9) rfl dX9_down_60 ?_
          refine lv_bipush (v := nI 7) hx hb dX9_down_63 (by decide) ?_
          refine va_iald hx hb hK hP 12 0 rfl rfl (vp_in_nI (by omega) (by omega)) dX9_down_65 ?_
          refine tp (y := sp 7) (congrArg sp (nI_clamp (by omega))) ?_
          refine lv_aload_n hx hb dX9_down_66 rfl (lv_at hl 2 rfl) ?_
          refine lv_iload_n hx hb dX9_down_67 rfl (lv_at hl 3 rfl) ?_
          refine jI (va_runV (As := [.int x]) (rest := [.int (sp 7), .int (nI 7), .ref (q 12)]) ⟨hx, hb, hml, hown, hts⟩ (c_X9_rounded l G ci cz cl q H.size x ref n num den mag fac who fnd pc ic a sta lb la fo dee kc fl wd df ag mk sc nu co fi ad it sp stk (by assumption)) (cwV 1 hts gX9_down_X9_rounded rfl rfl rfl (by decide +kernel) ⟨(Nat.le_of_ble_eq_true rfl), (Nat.le_of_ble_eq_true rfl)⟩) (pV (wc := [oM q ref n num den mag fac who fnd pc ic a sta lb la fo dee kc, aI ci (q 1) 600 fl, aI ci (q 2) 1024 wd, aI cz (q 3) 8 df, aI cz (q 4) 8 ag, aI ci (q 5) 8 mk, aI ci (q 6) 8 sc, aI ci (q 7) 12 nu, aI ci (q 8) 12 co, aI ci (q 9) 12 fi, aI ci (q 10) 12 ad, aI ci (q 11) 1800 it, aI ci (q 12) 8 sp, aI ci (q 13) 160 stk]) ok hK hP hD hS hA hO [0, 1, 2, 3, 4, 5, 6, 7, 8, 9, 10, 11, 12, 13] rfl (by decide) 0 rfl rfl) rfl rfl hl.1 rfl (lv_room (Nat.le_of_ble_eq_true rfl)) dX9_down_68 ⟨(Nat.le_of_ble_eq_true rfl), (Nat.le_of_ble_eq_true rfl)⟩) (wr := []) hP hD hS hA [0, 1, 2, 3, 4, 5, 6, 7, 8, 9, 10, 11, 12, 13] [] rfl rfl (by decide) (by decide) (fun r_22 u H locs hw_22 hP hD hS => ?_)
          try dsimp only at hw_22
          have hP : va_P G vwCl [oM q ref n num den mag fac who fnd pc ic a sta lb la fo dee kc, aI ci (q 1) 600 fl, aI ci (q 2) 1024 wd, aI cz (q 3) 8 df, aI cz (q 4) 8 ag, aI ci (q 5) 8 mk, aI ci (q 6) 8 sc, aI ci (q 7) 12 nu, aI ci (q 8) 12 co, aI ci (q 9) 12 fi, aI ci (q 10) 12 ad, aI ci (q 11) 1800 it, aI ci (q 12) 8 sp, aI ci (q 13) 160 stk] H := hP
          have hD : va_D A [oM q ref n num den mag fac who fnd pc ic a sta lb la fo dee kc, aI ci (q 1) 600 fl, aI ci (q 2) 1024 wd, aI cz (q 3) 8 df, aI cz (q 4) 8 ag, aI ci (q 5) 8 mk, aI ci (q 6) 8 sc, aI ci (q 7) 12 nu, aI ci (q 8) 12 co, aI ci (q 9) 12 fi, aI ci (q 10) 12 ad, aI ci (q 11) 1800 it, aI ci (q 12) 8 sp, aI ci (q 13) 160 stk] := hD
          refine lv_iadd hx hb dX9_down_71 ?_
          refine lv_goto (tgt := 87) hx hb dX9_down_72 (by decide) ?_
          refine va_iast hx hb hK hP hD hS 12 0 rfl rfl (vp_in_nI (by omega) (by omega)) dX9_down_87 (fun H locs hP hD hS => ?_)
          rw [nI_clamp (by omega)] at hP hD
          have hP : va_P G vwCl [oM q ref n num den mag fac who fnd pc ic a sta lb la fo dee kc, aI ci (q 1) 600 fl, aI ci (q 2) 1024 wd, aI cz (q 3) 8 df, aI cz (q 4) 8 ag, aI ci (q 5) 8 mk, aI ci (q 6) 8 sc, aI ci (q 7) 12 nu, aI ci (q 8) 12 co, aI ci (q 9) 12 fi, aI ci (q 10) 12 ad, aI ci (q 11) 1800 it, aI ci (q 12) 8 (upd sp 7 ((sp 7) + r_22)), aI ci (q 13) 160 stk] H := hP
          have hD : va_D A [oM q ref n num den mag fac who fnd pc ic a sta lb la fo dee kc, aI ci (q 1) 600 fl, aI ci (q 2) 1024 wd, aI cz (q 3) 8 df, aI cz (q 4) 8 ag, aI ci (q 5) 8 mk, aI ci (q 6) 8 sc, aI ci (q 7) 12 nu, aI ci (q 8) 12 co, aI ci (q 9) 12 fi, aI ci (q 10) 12 ad, aI ci (q 11) 1800 it, aI ci (q 12) 8 (upd sp 7 ((sp 7) + r_22)), aI ci (q 13) 160 stk] := hD
          refine lv_aload_n hx hb dX9_down_88 rfl (lv_at hl 2 rfl) ?_
          refine va_get (D := G) (ci := 8) (v := .ref (q 12)) (C := RX9) (T := TX9) (N := 30) hx hb hts hi_X9 hown hK hP 0 rfl rfl 28 (by decide) f_48 (fun _ h9 => h9) rfl dX9_down_89 ?_
          refine lv_iconst (v := nI 1) hx hb dX9_down_92 (by decide) ?_
          refine lv_dup2_11 hx hb dX9_down_93 rfl rfl ?_
          refine va_iald hx hb hK hP 12 0 rfl rfl (vp_in_nI (by omega) (by omega)) dX9_down_94 ?_
          refine tp (y := (upd sp 7 ((sp 7) + r_22)) 1) (congrArg (upd sp 7 ((sp 7) + r_22)) (nI_clamp (by omega))) ?_
          refine lv_iload_n hx hb dX9_down_95 rfl (lv_at hl 3 rfl) ?_
          refine lv_iadd hx hb dX9_down_96 ?_
          refine va_iast hx hb hK hP hD hS 12 0 rfl rfl (vp_in_nI (by omega) (by omega)) dX9_down_97 (fun H locs hP hD hS => ?_)
          rw [nI_clamp (by omega)] at hP hD
          have hP : va_P G vwCl [oM q ref n num den mag fac who fnd pc ic a sta lb la fo dee kc, aI ci (q 1) 600 fl, aI ci (q 2) 1024 wd, aI cz (q 3) 8 df, aI cz (q 4) 8 ag, aI ci (q 5) 8 mk, aI ci (q 6) 8 sc, aI ci (q 7) 12 nu, aI ci (q 8) 12 co, aI ci (q 9) 12 fi, aI ci (q 10) 12 ad, aI ci (q 11) 1800 it, aI ci (q 12) 8 (upd (upd sp 7 ((sp 7) + r_22)) 1 (((upd sp 7 ((sp 7) + r_22)) 1) + x)), aI ci (q 13) 160 stk] H := hP
          have hD : va_D A [oM q ref n num den mag fac who fnd pc ic a sta lb la fo dee kc, aI ci (q 1) 600 fl, aI ci (q 2) 1024 wd, aI cz (q 3) 8 df, aI cz (q 4) 8 ag, aI ci (q 5) 8 mk, aI ci (q 6) 8 sc, aI ci (q 7) 12 nu, aI ci (q 8) 12 co, aI ci (q 9) 12 fi, aI ci (q 10) 12 ad, aI ci (q 11) 1800 it, aI ci (q 12) 8 (upd (upd sp 7 ((sp 7) + r_22)) 1 (((upd sp 7 ((sp 7) + r_22)) 1) + x)), aI ci (q 13) 160 stk] := hD
          refine lv_aload_n hx hb dX9_down_98 rfl (lv_at hl 2 rfl) ?_
          refine lv_bipush (v := nI 7) hx hb dX9_down_99 (by decide) ?_
          refine lv_iconst (v := nI 1) hx hb dX9_down_101 (by decide) ?_
          refine jV (va_runV (As := [.int (nI 7), .int (nI 1)]) (rest := []) ⟨hx, hb, hml, hown, hts⟩ (c_X9_hold l G ci cz cl q H.size 7 1 ref n num den mag fac who fnd pc ic a sta lb la fo dee kc fl wd df ag mk sc nu co fi ad it (upd (upd sp 7 ((sp 7) + r_22)) 1 (((upd sp 7 ((sp 7) + r_22)) 1) + x)) stk (by omega) (by omega) (by assumption)) (cwV 2 hts gX9_down_X9_hold rfl rfl rfl (by decide +kernel) ⟨(Nat.le_of_ble_eq_true rfl), (Nat.le_of_ble_eq_true rfl)⟩) (pV (wc := [oM q ref n num den mag fac who fnd pc ic a sta lb la fo dee kc, aI ci (q 1) 600 fl, aI ci (q 2) 1024 wd, aI cz (q 3) 8 df, aI cz (q 4) 8 ag, aI ci (q 5) 8 mk, aI ci (q 6) 8 sc, aI ci (q 7) 12 nu, aI ci (q 8) 12 co, aI ci (q 9) 12 fi, aI ci (q 10) 12 ad, aI ci (q 11) 1800 it, aI ci (q 12) 8 (upd (upd sp 7 ((sp 7) + r_22)) 1 (((upd sp 7 ((sp 7) + r_22)) 1) + x)), aI ci (q 13) 160 stk]) ok hK hP hD hS hA hO [0, 1, 2, 3, 4, 5, 6, 7, 8, 9, 10, 11, 12, 13] rfl (by decide) 0 rfl rfl) rfl rfl hl.1 rfl (lv_room (Nat.le_of_ble_eq_true rfl)) dX9_down_102 ⟨(Nat.le_of_ble_eq_true rfl), (Nat.le_of_ble_eq_true rfl)⟩) (wr := []) hP hD hS hA [0, 1, 2, 3, 4, 5, 6, 7, 8, 9, 10, 11, 12, 13] [] rfl rfl (by decide) (by decide) (fun u H locs hw_23 hP hD hS => ?_)
          obtain ⟨sp2_23, rfl⟩ : ∃ z, z = u := ⟨_, rfl⟩
          try dsimp only at hw_23
          have h_23 := hw_23
          have hP : va_P G vwCl [oM q ref n num den mag fac who fnd pc ic a sta lb la fo dee kc, aI ci (q 1) 600 fl, aI ci (q 2) 1024 wd, aI cz (q 3) 8 df, aI cz (q 4) 8 ag, aI ci (q 5) 8 mk, aI ci (q 6) 8 sc, aI ci (q 7) 12 nu, aI ci (q 8) 12 co, aI ci (q 9) 12 fi, aI ci (q 10) 12 ad, aI ci (q 11) 1800 it, aI ci (q 12) 8 sp2_23, aI ci (q 13) 160 stk] H := hP
          have hD : va_D A [oM q ref n num den mag fac who fnd pc ic a sta lb la fo dee kc, aI ci (q 1) 600 fl, aI ci (q 2) 1024 wd, aI cz (q 3) 8 df, aI cz (q 4) 8 ag, aI ci (q 5) 8 mk, aI ci (q 6) 8 sc, aI ci (q 7) 12 nu, aI ci (q 8) 12 co, aI ci (q 9) 12 fi, aI ci (q 10) 12 ad, aI ci (q 11) 1800 it, aI ci (q 12) 8 sp2_23, aI ci (q 13) 160 stk] := hD
          exact rV hx hb hr hlocks hK hP hD hS [0, 1, 2, 3, 4, 5, 6, 7, 8, 9, 10, 11, 12, 13] sp2_23 rfl (by decide) (RMv_u h_23) dX9_down_105
set_option maxHeartbeats 4000000 in
set_option maxRecDepth 100000 in
theorem c_X9_goOn (l : Launch) (G : va_G) (ci cz cl : ClassId) (q : Nat → Nat) (sz : Nat) (x : Int32) (y : Int32) (ref : Int32) (n : Nat) (num : Nat) (den : Nat) (mag : Nat) (fac : UInt64) (who : Nat) (fnd : Int32) (pc : Nat) (ic : Nat) (a : Nat) (sta : Nat) (lb : Nat) (la : Nat) (fo : Int32) (dee : Nat) (kc : Nat) (fl : Nat → Int32) (wd : Nat → Int32) (df : Nat → Int32) (ag : Nat → Int32) (mk : Nat → Int32) (sc : Nat → Int32) (nu : Nat → Int32) (co : Nat → Int32) (fi : Nat → Int32) (ad : Nat → Int32) (it : Nat → Int32) (sp : Nat → Int32) (stk : Nat → Int32) (hf : Fn fac) : CtV l yX9_goOn wsX9_goOn ({ frames := 2, cells := 0, slots := 0, locals := 46 }) G (TY ci cz cl) O0 [.ref (q 0), .int x, .int y] [oM q ref n num den mag fac who fnd pc ic a sta lb la fo dee kc, aI ci (q 1) 600 fl, aI ci (q 2) 1024 wd, aI cz (q 3) 8 df, aI cz (q 4) 8 ag, aI ci (q 5) 8 mk, aI ci (q 6) 8 sc, aI ci (q 7) 12 nu, aI ci (q 8) 12 co, aI ci (q 9) 12 fi, aI ci (q 10) 12 ad, aI ci (q 11) 1800 it, aI ci (q 12) 8 sp, aI ci (q 13) 160 stk] sz (fun (u : Nat → Int32) => RMh sp u x) (fun u : Nat → Int32 => [oM q ref n num den mag fac who fnd pc ic a sta lb la fo dee kc, aI ci (q 1) 600 fl, aI ci (q 2) 1024 wd, aI cz (q 3) 8 df, aI cz (q 4) 8 ag, aI ci (q 5) 8 mk, aI ci (q 6) 8 sc, aI ci (q 7) 12 nu, aI ci (q 8) 12 co, aI ci (q 9) 12 fi, aI ci (q 10) 12 ad, aI ci (q 11) 1800 it, aI ci (q 12) 8 u, aI ci (q 13) 160 stk]) 0 0 := by
  refine Met.ofW (cc := cX9_goOn) (maxL := 3) (ret := none) (by decide) rfl ?_
  intro p e s m args below meth c s₁ B hml hv
  obtain ⟨rfl, ⟨hsz, hP, hK, hD0⟩, hO⟩ := hv
  have hx := B.exec
  have hb := B.bytes
  have hr := B.returns
  have hts := atoms_spec (ws := wsX9_goOn) B.pre
  have hown : s.vm.findClass RX9 = some m.cls := findClass_of_methodNamed B.named
  have hlocks := B.notSynchronized
  subst hsz
  have hD := hD0.self (sz := s.heap.size)
  generalize hAe : va_A [oM q ref n num den mag fac who fnd pc ic a sta lb la fo dee kc, aI ci (q 1) 600 fl, aI ci (q 2) 1024 wd, aI cz (q 3) 8 df, aI cz (q 4) 8 ag, aI ci (q 5) 8 mk, aI ci (q 6) 8 sc, aI ci (q 7) 12 nu, aI ci (q 8) 12 co, aI ci (q 9) 12 fi, aI ci (q 10) 12 ad, aI ci (q 11) 1800 it, aI ci (q 12) 8 sp, aI ci (q 13) 160 stk] s.heap.size = A at hD hO ⊢
  have hA : ∀ q : Nat, s.heap.size ≤ q → A q := fun q h => by rw [← hAe]; exact Or.inr h
  have ok := ok0
  refine startH (A := A) (fun H locs hP hS => ?_) hP
  have hi_X9 := (by decide +kernel : ∀ w ∈ wsX90, w ∈ wsX9_goOn)
  have f_48 := hts (.fieldLink RX9 48 "PageReaderModel" "spot" "[I") (by decide +kernel)
  have hl := lv_entry ([.ref (q 0), .int x, .int y]) (n := 3) (Nat.le_of_ble_eq_true rfl)
  rw [lg_entry_eq]
  generalize (lg_sl ([.ref (q 0), .int x, .int y]) ++ List.replicate (3 - (lg_sl ([.ref (q 0), .int x, .int y])).length) Slot.unset).toArray = ls at hl ⊢
  have hl : lv_has ls 3 [(0, .ref (q 0)), (1, .int x), (2, .int y)] := hl
  refine lv_aload_n hx hb dX9_goOn_0 rfl (lv_at hl 0 rfl) ?_
  refine va_get (D := G) (ci := 8) (v := .ref (q 12)) (C := RX9) (T := TX9) (N := 30) hx hb hts hi_X9 hown hK hP 0 rfl rfl 28 (by decide) f_48 (fun _ h9 => h9) rfl dX9_goOn_1 ?_
  refine lv_bipush (v := nI 6) hx hb dX9_goOn_4 (by decide) ?_
  refine lv_dup2_11 hx hb dX9_goOn_6 rfl rfl ?_
  refine va_iald hx hb hK hP 12 0 rfl rfl (vp_in_nI (by omega) (by omega)) dX9_goOn_7 ?_
  refine tp (y := sp 6) (congrArg sp (nI_clamp (by omega))) ?_
  refine lv_iload_n hx hb dX9_goOn_8 rfl (lv_at hl 2 rfl) ?_
  refine lv_iadd hx hb dX9_goOn_9 ?_
  refine va_iast hx hb hK hP hD hS 12 0 rfl rfl (vp_in_nI (by omega) (by omega)) dX9_goOn_10 (fun H locs hP hD hS => ?_)
  rw [nI_clamp (by omega)] at hP hD
  have hP : va_P G vwCl [oM q ref n num den mag fac who fnd pc ic a sta lb la fo dee kc, aI ci (q 1) 600 fl, aI ci (q 2) 1024 wd, aI cz (q 3) 8 df, aI cz (q 4) 8 ag, aI ci (q 5) 8 mk, aI ci (q 6) 8 sc, aI ci (q 7) 12 nu, aI ci (q 8) 12 co, aI ci (q 9) 12 fi, aI ci (q 10) 12 ad, aI ci (q 11) 1800 it, aI ci (q 12) 8 (upd sp 6 ((sp 6) + y)), aI ci (q 13) 160 stk] H := hP
  have hD : va_D A [oM q ref n num den mag fac who fnd pc ic a sta lb la fo dee kc, aI ci (q 1) 600 fl, aI ci (q 2) 1024 wd, aI cz (q 3) 8 df, aI cz (q 4) 8 ag, aI ci (q 5) 8 mk, aI ci (q 6) 8 sc, aI ci (q 7) 12 nu, aI ci (q 8) 12 co, aI ci (q 9) 12 fi, aI ci (q 10) 12 ad, aI ci (q 11) 1800 it, aI ci (q 12) 8 (upd sp 6 ((sp 6) + y)), aI ci (q 13) 160 stk] := hD
  refine lv_aload_n hx hb dX9_goOn_11 rfl (lv_at hl 0 rfl) ?_
  refine va_get (D := G) (ci := 8) (v := .ref (q 12)) (C := RX9) (T := TX9) (N := 30) hx hb hts hi_X9 hown hK hP 0 rfl rfl 28 (by decide) f_48 (fun _ h9 => h9) rfl dX9_goOn_12 ?_
  refine lv_iconst (v := nI 0) hx hb dX9_goOn_15 (by decide) ?_
  refine lv_dup2_11 hx hb dX9_goOn_16 rfl rfl ?_
  refine va_iald hx hb hK hP 12 0 rfl rfl (vp_in_nI (by omega) (by omega)) dX9_goOn_17 ?_
  refine tp (y := (upd sp 6 ((sp 6) + y)) 0) (congrArg (upd sp 6 ((sp 6) + y)) (nI_clamp (by omega))) ?_
  refine lv_iload_n hx hb dX9_goOn_18 rfl (lv_at hl 1 rfl) ?_
  refine lv_iadd hx hb dX9_goOn_19 ?_
  refine va_iast hx hb hK hP hD hS 12 0 rfl rfl (vp_in_nI (by omega) (by omega)) dX9_goOn_20 (fun H locs hP hD hS => ?_)
  rw [nI_clamp (by omega)] at hP hD
  have hP : va_P G vwCl [oM q ref n num den mag fac who fnd pc ic a sta lb la fo dee kc, aI ci (q 1) 600 fl, aI ci (q 2) 1024 wd, aI cz (q 3) 8 df, aI cz (q 4) 8 ag, aI ci (q 5) 8 mk, aI ci (q 6) 8 sc, aI ci (q 7) 12 nu, aI ci (q 8) 12 co, aI ci (q 9) 12 fi, aI ci (q 10) 12 ad, aI ci (q 11) 1800 it, aI ci (q 12) 8 (upd (upd sp 6 ((sp 6) + y)) 0 (((upd sp 6 ((sp 6) + y)) 0) + x)), aI ci (q 13) 160 stk] H := hP
  have hD : va_D A [oM q ref n num den mag fac who fnd pc ic a sta lb la fo dee kc, aI ci (q 1) 600 fl, aI ci (q 2) 1024 wd, aI cz (q 3) 8 df, aI cz (q 4) 8 ag, aI ci (q 5) 8 mk, aI ci (q 6) 8 sc, aI ci (q 7) 12 nu, aI ci (q 8) 12 co, aI ci (q 9) 12 fi, aI ci (q 10) 12 ad, aI ci (q 11) 1800 it, aI ci (q 12) 8 (upd (upd sp 6 ((sp 6) + y)) 0 (((upd sp 6 ((sp 6) + y)) 0) + x)), aI ci (q 13) 160 stk] := hD
  refine lv_aload_n hx hb dX9_goOn_21 rfl (lv_at hl 0 rfl) ?_
  refine lv_bipush (v := nI 6) hx hb dX9_goOn_22 (by decide) ?_
  refine lv_iconst (v := nI 0) hx hb dX9_goOn_24 (by decide) ?_
  refine jV (va_runV (As := [.int (nI 6), .int (nI 0)]) (rest := []) ⟨hx, hb, hml, hown, hts⟩ (c_X9_hold l G ci cz cl q H.size 6 0 ref n num den mag fac who fnd pc ic a sta lb la fo dee kc fl wd df ag mk sc nu co fi ad it (upd (upd sp 6 ((sp 6) + y)) 0 (((upd sp 6 ((sp 6) + y)) 0) + x)) stk (by omega) (by omega) (by assumption)) (cwV 2 hts gX9_goOn_X9_hold rfl rfl rfl (by decide +kernel) ⟨(Nat.le_of_ble_eq_true rfl), (Nat.le_of_ble_eq_true rfl)⟩) (pV (wc := [oM q ref n num den mag fac who fnd pc ic a sta lb la fo dee kc, aI ci (q 1) 600 fl, aI ci (q 2) 1024 wd, aI cz (q 3) 8 df, aI cz (q 4) 8 ag, aI ci (q 5) 8 mk, aI ci (q 6) 8 sc, aI ci (q 7) 12 nu, aI ci (q 8) 12 co, aI ci (q 9) 12 fi, aI ci (q 10) 12 ad, aI ci (q 11) 1800 it, aI ci (q 12) 8 (upd (upd sp 6 ((sp 6) + y)) 0 (((upd sp 6 ((sp 6) + y)) 0) + x)), aI ci (q 13) 160 stk]) ok hK hP hD hS hA hO [0, 1, 2, 3, 4, 5, 6, 7, 8, 9, 10, 11, 12, 13] rfl (by decide) 0 rfl rfl) rfl rfl hl.1 rfl (lv_room (Nat.le_of_ble_eq_true rfl)) dX9_goOn_25 ⟨(Nat.le_of_ble_eq_true rfl), (Nat.le_of_ble_eq_true rfl)⟩) (wr := []) hP hD hS hA [0, 1, 2, 3, 4, 5, 6, 7, 8, 9, 10, 11, 12, 13] [] rfl rfl (by decide) (by decide) (fun u H locs hw_1 hP hD hS => ?_)
  obtain ⟨sp2_1, rfl⟩ : ∃ z, z = u := ⟨_, rfl⟩
  try dsimp only at hw_1
  have h_1 := hw_1
  have hP : va_P G vwCl [oM q ref n num den mag fac who fnd pc ic a sta lb la fo dee kc, aI ci (q 1) 600 fl, aI ci (q 2) 1024 wd, aI cz (q 3) 8 df, aI cz (q 4) 8 ag, aI ci (q 5) 8 mk, aI ci (q 6) 8 sc, aI ci (q 7) 12 nu, aI ci (q 8) 12 co, aI ci (q 9) 12 fi, aI ci (q 10) 12 ad, aI ci (q 11) 1800 it, aI ci (q 12) 8 sp2_1, aI ci (q 13) 160 stk] H := hP
  have hD : va_D A [oM q ref n num den mag fac who fnd pc ic a sta lb la fo dee kc, aI ci (q 1) 600 fl, aI ci (q 2) 1024 wd, aI cz (q 3) 8 df, aI cz (q 4) 8 ag, aI ci (q 5) 8 mk, aI ci (q 6) 8 sc, aI ci (q 7) 12 nu, aI ci (q 8) 12 co, aI ci (q 9) 12 fi, aI ci (q 10) 12 ad, aI ci (q 11) 1800 it, aI ci (q 12) 8 sp2_1, aI ci (q 13) 160 stk] := hD
  exact rV hx hb hr hlocks hK hP hD hS [0, 1, 2, 3, 4, 5, 6, 7, 8, 9, 10, 11, 12, 13] sp2_1 rfl (by decide) (RMh_u h_1) dX9_goOn_28
set_option maxHeartbeats 4000000 in
set_option maxRecDepth 100000 in
theorem c_X9_put (l : Launch) (G : va_G) (ci cz cl : ClassId) (q : Nat → Nat) (sz : Nat) (x : Int32) (y : Int32) (z : Int32) (ref : Int32) (n : Nat) (num : Nat) (den : Nat) (mag : Nat) (fac : UInt64) (who : Nat) (fnd : Int32) (pc : Nat) (ic : Nat) (a : Nat) (sta : Nat) (lb : Nat) (la : Nat) (fo : Int32) (dee : Nat) (kc : Nat) (fl : Nat → Int32) (wd : Nat → Int32) (df : Nat → Int32) (ag : Nat → Int32) (mk : Nat → Int32) (sc : Nat → Int32) (nu : Nat → Int32) (co : Nat → Int32) (fi : Nat → Int32) (ad : Nat → Int32) (it : Nat → Int32) (sp : Nat → Int32) (stk : Nat → Int32) (hpc : pc ≤ 12) (hic : ic ≤ 200) (hPI : PI pc ic fi co) (hf : Fn fac) (hp1 : 1 ≤ pc) : CtI l yX9_put wsX9_put ({ frames := 1, cells := 0, slots := 0, locals := 24 }) G (TY ci cz cl) O0 [.ref (q 0), .int x, .int y, .int z] [oM q ref n num den mag fac who fnd pc ic a sta lb la fo dee kc, aI ci (q 1) 600 fl, aI ci (q 2) 1024 wd, aI cz (q 3) 8 df, aI cz (q 4) 8 ag, aI ci (q 5) 8 mk, aI ci (q 6) 8 sc, aI ci (q 7) 12 nu, aI ci (q 8) 12 co, aI ci (q 9) 12 fi, aI ci (q 10) 12 ad, aI ci (q 11) 1800 it, aI ci (q 12) 8 sp, aI ci (q 13) 160 stk] sz (fun (r : Int32) (u : Nat × Nat × (Nat → Int32) × (Nat → Int32)) => r = nI u.1 ∧ ((u.1 = 1 ∧ ic + 1 = u.2.1 ∧ upd co (pc - 1) (co (pc - 1) + nI 1) = u.2.2.1 ∧ ic < 200 ∧ RPut ic sp it u.2.2.2) ∨ (u.1 = 0 ∧ ic = u.2.1 ∧ co = u.2.2.1 ∧ it = u.2.2.2 ∧ 200 ≤ ic)) ∧ PI pc u.2.1 fi u.2.2.1) (fun u : Nat × Nat × (Nat → Int32) × (Nat → Int32) => [oM q ref n num den mag fac who fnd pc u.2.1 a sta lb la fo dee kc, aI ci (q 1) 600 fl, aI ci (q 2) 1024 wd, aI cz (q 3) 8 df, aI cz (q 4) 8 ag, aI ci (q 5) 8 mk, aI ci (q 6) 8 sc, aI ci (q 7) 12 nu, aI ci (q 8) 12 u.2.2.1, aI ci (q 9) 12 fi, aI ci (q 10) 12 ad, aI ci (q 11) 1800 u.2.2.2, aI ci (q 12) 8 sp, aI ci (q 13) 160 stk]) 0 0 := by
  refine Met.ofW (cc := cX9_put) (maxL := 5) (ret := (some .boolean)) (by decide) rfl ?_
  intro p e s m args below meth c s₁ B hml hv
  obtain ⟨rfl, ⟨hsz, hP, hK, hD0⟩, hO⟩ := hv
  have hx := B.exec
  have hb := B.bytes
  have hr := B.returns
  have hts := atoms_spec (ws := wsX9_put) B.pre
  have hown : s.vm.findClass RX9 = some m.cls := findClass_of_methodNamed B.named
  have hlocks := B.notSynchronized
  subst hsz
  have hD := hD0.self (sz := s.heap.size)
  generalize hAe : va_A [oM q ref n num den mag fac who fnd pc ic a sta lb la fo dee kc, aI ci (q 1) 600 fl, aI ci (q 2) 1024 wd, aI cz (q 3) 8 df, aI cz (q 4) 8 ag, aI ci (q 5) 8 mk, aI ci (q 6) 8 sc, aI ci (q 7) 12 nu, aI ci (q 8) 12 co, aI ci (q 9) 12 fi, aI ci (q 10) 12 ad, aI ci (q 11) 1800 it, aI ci (q 12) 8 sp, aI ci (q 13) 160 stk] s.heap.size = A at hD hO ⊢
  have hA : ∀ q : Nat, s.heap.size ≤ q → A q := fun q h => by rw [← hAe]; exact Or.inr h
  have ok := ok0
  refine startH (A := A) (fun H locs hP hS => ?_) hP
  have hi_X9 := (by decide +kernel : ∀ w ∈ wsX90, w ∈ wsX9_put)
  have f_89 := hts (.fieldLink RX9 89 "PageReaderModel" "items" "I") (by decide +kernel)
  have f_45 := hts (.fieldLink RX9 45 "PageReaderModel" "item" "[I") (by decide +kernel)
  have f_48 := hts (.fieldLink RX9 48 "PageReaderModel" "spot" "[I") (by decide +kernel)
  have f_36 := hts (.fieldLink RX9 36 "PageReaderModel" "counts" "[I") (by decide +kernel)
  have f_95 := hts (.fieldLink RX9 95 "PageReaderModel" "pages" "I") (by decide +kernel)
  have hl := lv_entry ([.ref (q 0), .int x, .int y, .int z]) (n := 5) (Nat.le_of_ble_eq_true rfl)
  rw [lg_entry_eq]
  generalize (lg_sl ([.ref (q 0), .int x, .int y, .int z]) ++ List.replicate (5 - (lg_sl ([.ref (q 0), .int x, .int y, .int z])).length) Slot.unset).toArray = ls at hl ⊢
  have hl : lv_has ls 5 [(0, .ref (q 0)), (1, .int x), (2, .int y), (3, .int z)] := hl
  refine lv_aload_n hx hb dX9_put_0 rfl (lv_at hl 0 rfl) ?_
  refine va_get (D := G) (ci := 8) (v := .int (nI ic)) (C := RX9) (T := TX9) (N := 30) hx hb hts hi_X9 hown hK hP 0 rfl rfl 19 (by decide) f_89 (fun _ h9 => h9) rfl dX9_put_1 ?_
  refine lv_sipush (v := nI 200) hx hb dX9_put_4 (by decide) ?_
  refine lv_icmp_ne (tgt := 12) hx hb dX9_put_7 (by decide) (fun c_1 => ?_) (fun c_1 => ?_)
  · skip
    have z_1 := mt (nI_eq (a := ic) (b := 200) (by omega) (by omega)).mpr c_1
    refine lv_bipush (v := nI 9) hx hb dX9_put_12 (by decide) ?_
    refine lv_aload_n hx hb dX9_put_14 rfl (lv_at hl 0 rfl) ?_
    refine va_get (D := G) (ci := 8) (v := .int (nI ic)) (C := RX9) (T := TX9) (N := 30) hx hb hts hi_X9 hown hK hP 0 rfl rfl 19 (by decide) f_89 (fun _ h9 => h9) rfl dX9_put_15 ?_
    refine lv_imul hx hb dX9_put_18 ?_
    refine tp (pk_mul _ _) ?_
    refine lv_istore (lv' := [(4, .int (nI (9 * ic))), (0, .ref (q 0)), (1, .int x), (2, .int y), (3, .int z)]) hx hb dX9_put_19 hl (by decide) rfl (fun ls hl => ?_)
    refine lv_aload_n hx hb dX9_put_21 rfl (lv_at hl 1 rfl) ?_
    refine va_get (D := G) (ci := 8) (v := .ref (q 11)) (C := RX9) (T := TX9) (N := 30) hx hb hts hi_X9 hown hK hP 0 rfl rfl 20 (by decide) f_45 (fun _ h9 => h9) rfl dX9_put_22 ?_
    refine lv_iload hx hb dX9_put_25 (lv_at hl 0 rfl) ?_
    refine lv_iload_n hx hb dX9_put_27 rfl (lv_at hl 2 rfl) ?_
    refine va_iast hx hb hK hP hD hS 11 0 rfl rfl (vp_in_nI (by omega) (by omega)) dX9_put_28 (fun H locs hP hD hS => ?_)
    rw [nI_clamp (by omega)] at hP hD
    have hP : va_P G vwCl [oM q ref n num den mag fac who fnd pc ic a sta lb la fo dee kc, aI ci (q 1) 600 fl, aI ci (q 2) 1024 wd, aI cz (q 3) 8 df, aI cz (q 4) 8 ag, aI ci (q 5) 8 mk, aI ci (q 6) 8 sc, aI ci (q 7) 12 nu, aI ci (q 8) 12 co, aI ci (q 9) 12 fi, aI ci (q 10) 12 ad, aI ci (q 11) 1800 (upd it (9 * ic) x), aI ci (q 12) 8 sp, aI ci (q 13) 160 stk] H := hP
    have hD : va_D A [oM q ref n num den mag fac who fnd pc ic a sta lb la fo dee kc, aI ci (q 1) 600 fl, aI ci (q 2) 1024 wd, aI cz (q 3) 8 df, aI cz (q 4) 8 ag, aI ci (q 5) 8 mk, aI ci (q 6) 8 sc, aI ci (q 7) 12 nu, aI ci (q 8) 12 co, aI ci (q 9) 12 fi, aI ci (q 10) 12 ad, aI ci (q 11) 1800 (upd it (9 * ic) x), aI ci (q 12) 8 sp, aI ci (q 13) 160 stk] := hD
    refine lv_aload_n hx hb dX9_put_29 rfl (lv_at hl 1 rfl) ?_
    refine va_get (D := G) (ci := 8) (v := .ref (q 11)) (C := RX9) (T := TX9) (N := 30) hx hb hts hi_X9 hown hK hP 0 rfl rfl 20 (by decide) f_45 (fun _ h9 => h9) rfl dX9_put_30 ?_
    refine lv_iload hx hb dX9_put_33 (lv_at hl 0 rfl) ?_
    refine lv_iconst (v := nI 1) hx hb dX9_put_35 (by decide) ?_
    refine lv_iadd hx hb dX9_put_36 ?_
    refine tp (nI_add _ _) ?_
    refine lv_iload_n hx hb dX9_put_37 rfl (lv_at hl 3 rfl) ?_
    refine va_iast hx hb hK hP hD hS 11 0 rfl rfl (vp_in_nI (by omega) (by omega)) dX9_put_38 (fun H locs hP hD hS => ?_)
    rw [nI_clamp (by omega)] at hP hD
    have hP : va_P G vwCl [oM q ref n num den mag fac who fnd pc ic a sta lb la fo dee kc, aI ci (q 1) 600 fl, aI ci (q 2) 1024 wd, aI cz (q 3) 8 df, aI cz (q 4) 8 ag, aI ci (q 5) 8 mk, aI ci (q 6) 8 sc, aI ci (q 7) 12 nu, aI ci (q 8) 12 co, aI ci (q 9) 12 fi, aI ci (q 10) 12 ad, aI ci (q 11) 1800 (upd (upd it (9 * ic) x) ((9 * ic) + 1) y), aI ci (q 12) 8 sp, aI ci (q 13) 160 stk] H := hP
    have hD : va_D A [oM q ref n num den mag fac who fnd pc ic a sta lb la fo dee kc, aI ci (q 1) 600 fl, aI ci (q 2) 1024 wd, aI cz (q 3) 8 df, aI cz (q 4) 8 ag, aI ci (q 5) 8 mk, aI ci (q 6) 8 sc, aI ci (q 7) 12 nu, aI ci (q 8) 12 co, aI ci (q 9) 12 fi, aI ci (q 10) 12 ad, aI ci (q 11) 1800 (upd (upd it (9 * ic) x) ((9 * ic) + 1) y), aI ci (q 12) 8 sp, aI ci (q 13) 160 stk] := hD
    refine lv_aload_n hx hb dX9_put_39 rfl (lv_at hl 1 rfl) ?_
    refine va_get (D := G) (ci := 8) (v := .ref (q 11)) (C := RX9) (T := TX9) (N := 30) hx hb hts hi_X9 hown hK hP 0 rfl rfl 20 (by decide) f_45 (fun _ h9 => h9) rfl dX9_put_40 ?_
    refine lv_iload hx hb dX9_put_43 (lv_at hl 0 rfl) ?_
    refine lv_iconst (v := nI 2) hx hb dX9_put_45 (by decide) ?_
    refine lv_iadd hx hb dX9_put_46 ?_
    refine tp (nI_add _ _) ?_
    refine lv_aload_n hx hb dX9_put_47 rfl (lv_at hl 1 rfl) ?_
    refine va_get (D := G) (ci := 8) (v := .ref (q 12)) (C := RX9) (T := TX9) (N := 30) hx hb hts hi_X9 hown hK hP 0 rfl rfl 28 (by decide) f_48 (fun _ h9 => h9) rfl dX9_put_48 ?_
    refine lv_iconst (v := nI 0) hx hb dX9_put_51 (by decide) ?_
    refine va_iald hx hb hK hP 12 0 rfl rfl (vp_in_nI (by omega) (by omega)) dX9_put_52 ?_
    refine tp (y := sp 0) (congrArg sp (nI_clamp (by omega))) ?_
    refine va_iast hx hb hK hP hD hS 11 0 rfl rfl (vp_in_nI (by omega) (by omega)) dX9_put_53 (fun H locs hP hD hS => ?_)
    rw [nI_clamp (by omega)] at hP hD
    have hP : va_P G vwCl [oM q ref n num den mag fac who fnd pc ic a sta lb la fo dee kc, aI ci (q 1) 600 fl, aI ci (q 2) 1024 wd, aI cz (q 3) 8 df, aI cz (q 4) 8 ag, aI ci (q 5) 8 mk, aI ci (q 6) 8 sc, aI ci (q 7) 12 nu, aI ci (q 8) 12 co, aI ci (q 9) 12 fi, aI ci (q 10) 12 ad, aI ci (q 11) 1800 (upd (upd (upd it (9 * ic) x) ((9 * ic) + 1) y) ((9 * ic) + 2) (sp 0)), aI ci (q 12) 8 sp, aI ci (q 13) 160 stk] H := hP
    have hD : va_D A [oM q ref n num den mag fac who fnd pc ic a sta lb la fo dee kc, aI ci (q 1) 600 fl, aI ci (q 2) 1024 wd, aI cz (q 3) 8 df, aI cz (q 4) 8 ag, aI ci (q 5) 8 mk, aI ci (q 6) 8 sc, aI ci (q 7) 12 nu, aI ci (q 8) 12 co, aI ci (q 9) 12 fi, aI ci (q 10) 12 ad, aI ci (q 11) 1800 (upd (upd (upd it (9 * ic) x) ((9 * ic) + 1) y) ((9 * ic) + 2) (sp 0)), aI ci (q 12) 8 sp, aI ci (q 13) 160 stk] := hD
    refine lv_aload_n hx hb dX9_put_54 rfl (lv_at hl 1 rfl) ?_
    refine va_get (D := G) (ci := 8) (v := .ref (q 11)) (C := RX9) (T := TX9) (N := 30) hx hb hts hi_X9 hown hK hP 0 rfl rfl 20 (by decide) f_45 (fun _ h9 => h9) rfl dX9_put_55 ?_
    refine lv_iload hx hb dX9_put_58 (lv_at hl 0 rfl) ?_
    refine lv_iconst (v := nI 3) hx hb dX9_put_60 (by decide) ?_
    refine lv_iadd hx hb dX9_put_61 ?_
    refine tp (nI_add _ _) ?_
    refine lv_aload_n hx hb dX9_put_62 rfl (lv_at hl 1 rfl) ?_
    refine va_get (D := G) (ci := 8) (v := .ref (q 12)) (C := RX9) (T := TX9) (N := 30) hx hb hts hi_X9 hown hK hP 0 rfl rfl 28 (by decide) f_48 (fun _ h9 => h9) rfl dX9_put_63 ?_
    refine lv_iconst (v := nI 1) hx hb dX9_put_66 (by decide) ?_
    refine va_iald hx hb hK hP 12 0 rfl rfl (vp_in_nI (by omega) (by omega)) dX9_put_67 ?_
    refine tp (y := sp 1) (congrArg sp (nI_clamp (by omega))) ?_
    refine va_iast hx hb hK hP hD hS 11 0 rfl rfl (vp_in_nI (by omega) (by omega)) dX9_put_68 (fun H locs hP hD hS => ?_)
    rw [nI_clamp (by omega)] at hP hD
    have hP : va_P G vwCl [oM q ref n num den mag fac who fnd pc ic a sta lb la fo dee kc, aI ci (q 1) 600 fl, aI ci (q 2) 1024 wd, aI cz (q 3) 8 df, aI cz (q 4) 8 ag, aI ci (q 5) 8 mk, aI ci (q 6) 8 sc, aI ci (q 7) 12 nu, aI ci (q 8) 12 co, aI ci (q 9) 12 fi, aI ci (q 10) 12 ad, aI ci (q 11) 1800 (upd (upd (upd (upd it (9 * ic) x) ((9 * ic) + 1) y) ((9 * ic) + 2) (sp 0)) ((9 * ic) + 3) (sp 1)), aI ci (q 12) 8 sp, aI ci (q 13) 160 stk] H := hP
    have hD : va_D A [oM q ref n num den mag fac who fnd pc ic a sta lb la fo dee kc, aI ci (q 1) 600 fl, aI ci (q 2) 1024 wd, aI cz (q 3) 8 df, aI cz (q 4) 8 ag, aI ci (q 5) 8 mk, aI ci (q 6) 8 sc, aI ci (q 7) 12 nu, aI ci (q 8) 12 co, aI ci (q 9) 12 fi, aI ci (q 10) 12 ad, aI ci (q 11) 1800 (upd (upd (upd (upd it (9 * ic) x) ((9 * ic) + 1) y) ((9 * ic) + 2) (sp 0)) ((9 * ic) + 3) (sp 1)), aI ci (q 12) 8 sp, aI ci (q 13) 160 stk] := hD
    refine lv_aload_n hx hb dX9_put_69 rfl (lv_at hl 1 rfl) ?_
    refine va_get (D := G) (ci := 8) (v := .ref (q 11)) (C := RX9) (T := TX9) (N := 30) hx hb hts hi_X9 hown hK hP 0 rfl rfl 20 (by decide) f_45 (fun _ h9 => h9) rfl dX9_put_70 ?_
    refine lv_iload hx hb dX9_put_73 (lv_at hl 0 rfl) ?_
    refine lv_iconst (v := nI 4) hx hb dX9_put_75 (by decide) ?_
    refine lv_iadd hx hb dX9_put_76 ?_
    refine tp (nI_add _ _) ?_
    refine lv_aload_n hx hb dX9_put_77 rfl (lv_at hl 1 rfl) ?_
    refine va_get (D := G) (ci := 8) (v := .ref (q 12)) (C := RX9) (T := TX9) (N := 30) hx hb hts hi_X9 hown hK hP 0 rfl rfl 28 (by decide) f_48 (fun _ h9 => h9) rfl dX9_put_78 ?_
    refine lv_bipush (v := nI 6) hx hb dX9_put_81 (by decide) ?_
    refine va_iald hx hb hK hP 12 0 rfl rfl (vp_in_nI (by omega) (by omega)) dX9_put_83 ?_
    refine tp (y := sp 6) (congrArg sp (nI_clamp (by omega))) ?_
    refine va_iast hx hb hK hP hD hS 11 0 rfl rfl (vp_in_nI (by omega) (by omega)) dX9_put_84 (fun H locs hP hD hS => ?_)
    rw [nI_clamp (by omega)] at hP hD
    have hP : va_P G vwCl [oM q ref n num den mag fac who fnd pc ic a sta lb la fo dee kc, aI ci (q 1) 600 fl, aI ci (q 2) 1024 wd, aI cz (q 3) 8 df, aI cz (q 4) 8 ag, aI ci (q 5) 8 mk, aI ci (q 6) 8 sc, aI ci (q 7) 12 nu, aI ci (q 8) 12 co, aI ci (q 9) 12 fi, aI ci (q 10) 12 ad, aI ci (q 11) 1800 (upd (upd (upd (upd (upd it (9 * ic) x) ((9 * ic) + 1) y) ((9 * ic) + 2) (sp 0)) ((9 * ic) + 3) (sp 1)) ((9 * ic) + 4) (sp 6)), aI ci (q 12) 8 sp, aI ci (q 13) 160 stk] H := hP
    have hD : va_D A [oM q ref n num den mag fac who fnd pc ic a sta lb la fo dee kc, aI ci (q 1) 600 fl, aI ci (q 2) 1024 wd, aI cz (q 3) 8 df, aI cz (q 4) 8 ag, aI ci (q 5) 8 mk, aI ci (q 6) 8 sc, aI ci (q 7) 12 nu, aI ci (q 8) 12 co, aI ci (q 9) 12 fi, aI ci (q 10) 12 ad, aI ci (q 11) 1800 (upd (upd (upd (upd (upd it (9 * ic) x) ((9 * ic) + 1) y) ((9 * ic) + 2) (sp 0)) ((9 * ic) + 3) (sp 1)) ((9 * ic) + 4) (sp 6)), aI ci (q 12) 8 sp, aI ci (q 13) 160 stk] := hD
    refine lv_aload_n hx hb dX9_put_85 rfl (lv_at hl 1 rfl) ?_
    refine va_get (D := G) (ci := 8) (v := .ref (q 11)) (C := RX9) (T := TX9) (N := 30) hx hb hts hi_X9 hown hK hP 0 rfl rfl 20 (by decide) f_45 (fun _ h9 => h9) rfl dX9_put_86 ?_
    refine lv_iload hx hb dX9_put_89 (lv_at hl 0 rfl) ?_
    refine lv_iconst (v := nI 5) hx hb dX9_put_91 (by decide) ?_
    refine lv_iadd hx hb dX9_put_92 ?_
    refine tp (nI_add _ _) ?_
    refine lv_aload_n hx hb dX9_put_93 rfl (lv_at hl 1 rfl) ?_
    refine va_get (D := G) (ci := 8) (v := .ref (q 12)) (C := RX9) (T := TX9) (N := 30) hx hb hts hi_X9 hown hK hP 0 rfl rfl 28 (by decide) f_48 (fun _ h9 => h9) rfl dX9_put_94 ?_
    refine lv_bipush (v := nI 7) hx hb dX9_put_97 (by decide) ?_
    refine va_iald hx hb hK hP 12 0 rfl rfl (vp_in_nI (by omega) (by omega)) dX9_put_99 ?_
    refine tp (y := sp 7) (congrArg sp (nI_clamp (by omega))) ?_
    refine va_iast hx hb hK hP hD hS 11 0 rfl rfl (vp_in_nI (by omega) (by omega)) dX9_put_100 (fun H locs hP hD hS => ?_)
    rw [nI_clamp (by omega)] at hP hD
    have hP : va_P G vwCl [oM q ref n num den mag fac who fnd pc ic a sta lb la fo dee kc, aI ci (q 1) 600 fl, aI ci (q 2) 1024 wd, aI cz (q 3) 8 df, aI cz (q 4) 8 ag, aI ci (q 5) 8 mk, aI ci (q 6) 8 sc, aI ci (q 7) 12 nu, aI ci (q 8) 12 co, aI ci (q 9) 12 fi, aI ci (q 10) 12 ad, aI ci (q 11) 1800 (upd (upd (upd (upd (upd (upd it (9 * ic) x) ((9 * ic) + 1) y) ((9 * ic) + 2) (sp 0)) ((9 * ic) + 3) (sp 1)) ((9 * ic) + 4) (sp 6)) ((9 * ic) + 5) (sp 7)), aI ci (q 12) 8 sp, aI ci (q 13) 160 stk] H := hP
    have hD : va_D A [oM q ref n num den mag fac who fnd pc ic a sta lb la fo dee kc, aI ci (q 1) 600 fl, aI ci (q 2) 1024 wd, aI cz (q 3) 8 df, aI cz (q 4) 8 ag, aI ci (q 5) 8 mk, aI ci (q 6) 8 sc, aI ci (q 7) 12 nu, aI ci (q 8) 12 co, aI ci (q 9) 12 fi, aI ci (q 10) 12 ad, aI ci (q 11) 1800 (upd (upd (upd (upd (upd (upd it (9 * ic) x) ((9 * ic) + 1) y) ((9 * ic) + 2) (sp 0)) ((9 * ic) + 3) (sp 1)) ((9 * ic) + 4) (sp 6)) ((9 * ic) + 5) (sp 7)), aI ci (q 12) 8 sp, aI ci (q 13) 160 stk] := hD
    refine lv_aload_n hx hb dX9_put_101 rfl (lv_at hl 1 rfl) ?_
    refine va_get (D := G) (ci := 8) (v := .ref (q 11)) (C := RX9) (T := TX9) (N := 30) hx hb hts hi_X9 hown hK hP 0 rfl rfl 20 (by decide) f_45 (fun _ h9 => h9) rfl dX9_put_102 ?_
    refine lv_iload hx hb dX9_put_105 (lv_at hl 0 rfl) ?_
    refine lv_bipush (v := nI 6) hx hb dX9_put_107 (by decide) ?_
    refine lv_iadd hx hb dX9_put_109 ?_
    refine tp (nI_add _ _) ?_
    refine lv_iload_n hx hb dX9_put_110 rfl (lv_at hl 4 rfl) ?_
    refine va_iast hx hb hK hP hD hS 11 0 rfl rfl (vp_in_nI (by omega) (by omega)) dX9_put_111 (fun H locs hP hD hS => ?_)
    rw [nI_clamp (by omega)] at hP hD
    have hP : va_P G vwCl [oM q ref n num den mag fac who fnd pc ic a sta lb la fo dee kc, aI ci (q 1) 600 fl, aI ci (q 2) 1024 wd, aI cz (q 3) 8 df, aI cz (q 4) 8 ag, aI ci (q 5) 8 mk, aI ci (q 6) 8 sc, aI ci (q 7) 12 nu, aI ci (q 8) 12 co, aI ci (q 9) 12 fi, aI ci (q 10) 12 ad, aI ci (q 11) 1800 (upd (upd (upd (upd (upd (upd (upd it (9 * ic) x) ((9 * ic) + 1) y) ((9 * ic) + 2) (sp 0)) ((9 * ic) + 3) (sp 1)) ((9 * ic) + 4) (sp 6)) ((9 * ic) + 5) (sp 7)) ((9 * ic) + 6) z), aI ci (q 12) 8 sp, aI ci (q 13) 160 stk] H := hP
    have hD : va_D A [oM q ref n num den mag fac who fnd pc ic a sta lb la fo dee kc, aI ci (q 1) 600 fl, aI ci (q 2) 1024 wd, aI cz (q 3) 8 df, aI cz (q 4) 8 ag, aI ci (q 5) 8 mk, aI ci (q 6) 8 sc, aI ci (q 7) 12 nu, aI ci (q 8) 12 co, aI ci (q 9) 12 fi, aI ci (q 10) 12 ad, aI ci (q 11) 1800 (upd (upd (upd (upd (upd (upd (upd it (9 * ic) x) ((9 * ic) + 1) y) ((9 * ic) + 2) (sp 0)) ((9 * ic) + 3) (sp 1)) ((9 * ic) + 4) (sp 6)) ((9 * ic) + 5) (sp 7)) ((9 * ic) + 6) z), aI ci (q 12) 8 sp, aI ci (q 13) 160 stk] := hD
    refine lv_aload_n hx hb dX9_put_112 rfl (lv_at hl 1 rfl) ?_
    refine va_get (D := G) (ci := 8) (v := .ref (q 11)) (C := RX9) (T := TX9) (N := 30) hx hb hts hi_X9 hown hK hP 0 rfl rfl 20 (by decide) f_45 (fun _ h9 => h9) rfl dX9_put_113 ?_
    refine lv_iload hx hb dX9_put_116 (lv_at hl 0 rfl) ?_
    refine lv_bipush (v := nI 7) hx hb dX9_put_118 (by decide) ?_
    refine lv_iadd hx hb dX9_put_120 ?_
    refine tp (nI_add _ _) ?_
    refine lv_iload_n hx hb dX9_put_121 rfl (lv_at hl 2 rfl) ?_
    refine lv_sipush (v := nI 128) hx hb dX9_put_122 (by decide) ?_
    refine lv_icmp_ne (tgt := 136) hx hb dX9_put_125 (by decide) (fun c_2 => ?_) (fun c_2 => ?_)
    · skip
      refine lv_iconst (v := nI 0) hx hb dX9_put_136 (by decide) ?_
      refine va_iast hx hb hK hP hD hS 11 0 rfl rfl (vp_in_nI (by omega) (by omega)) dX9_put_137 (fun H locs hP hD hS => ?_)
      rw [nI_clamp (by omega)] at hP hD
      have hP : va_P G vwCl [oM q ref n num den mag fac who fnd pc ic a sta lb la fo dee kc, aI ci (q 1) 600 fl, aI ci (q 2) 1024 wd, aI cz (q 3) 8 df, aI cz (q 4) 8 ag, aI ci (q 5) 8 mk, aI ci (q 6) 8 sc, aI ci (q 7) 12 nu, aI ci (q 8) 12 co, aI ci (q 9) 12 fi, aI ci (q 10) 12 ad, aI ci (q 11) 1800 (upd (upd (upd (upd (upd (upd (upd (upd it (9 * ic) x) ((9 * ic) + 1) y) ((9 * ic) + 2) (sp 0)) ((9 * ic) + 3) (sp 1)) ((9 * ic) + 4) (sp 6)) ((9 * ic) + 5) (sp 7)) ((9 * ic) + 6) z) ((9 * ic) + 7) (nI 0)), aI ci (q 12) 8 sp, aI ci (q 13) 160 stk] H := hP
      have hD : va_D A [oM q ref n num den mag fac who fnd pc ic a sta lb la fo dee kc, aI ci (q 1) 600 fl, aI ci (q 2) 1024 wd, aI cz (q 3) 8 df, aI cz (q 4) 8 ag, aI ci (q 5) 8 mk, aI ci (q 6) 8 sc, aI ci (q 7) 12 nu, aI ci (q 8) 12 co, aI ci (q 9) 12 fi, aI ci (q 10) 12 ad, aI ci (q 11) 1800 (upd (upd (upd (upd (upd (upd (upd (upd it (9 * ic) x) ((9 * ic) + 1) y) ((9 * ic) + 2) (sp 0)) ((9 * ic) + 3) (sp 1)) ((9 * ic) + 4) (sp 6)) ((9 * ic) + 5) (sp 7)) ((9 * ic) + 6) z) ((9 * ic) + 7) (nI 0)), aI ci (q 12) 8 sp, aI ci (q 13) 160 stk] := hD
      refine lv_aload_n hx hb dX9_put_138 rfl (lv_at hl 1 rfl) ?_
      refine va_get (D := G) (ci := 8) (v := .ref (q 11)) (C := RX9) (T := TX9) (N := 30) hx hb hts hi_X9 hown hK hP 0 rfl rfl 20 (by decide) f_45 (fun _ h9 => h9) rfl dX9_put_139 ?_
      refine lv_iload hx hb dX9_put_142 (lv_at hl 0 rfl) ?_
      refine lv_bipush (v := nI 8) hx hb dX9_put_144 (by decide) ?_
      refine lv_iadd hx hb dX9_put_146 ?_
      refine tp (nI_add _ _) ?_
      refine lv_iload_n hx hb dX9_put_147 rfl (lv_at hl 2 rfl) ?_
      refine lv_sipush (v := nI 128) hx hb dX9_put_148 (by decide) ?_
      refine lv_icmp_ne (tgt := 162) hx hb dX9_put_151 (by decide) (fun c_3 => ?_) (fun c_3 => ?_)
      · skip
        refine lv_iconst (v := nI 0) hx hb dX9_put_162 (by decide) ?_
        refine va_iast hx hb hK hP hD hS 11 0 rfl rfl (vp_in_nI (by omega) (by omega)) dX9_put_163 (fun H locs hP hD hS => ?_)
        rw [nI_clamp (by omega)] at hP hD
        have hP : va_P G vwCl [oM q ref n num den mag fac who fnd pc ic a sta lb la fo dee kc, aI ci (q 1) 600 fl, aI ci (q 2) 1024 wd, aI cz (q 3) 8 df, aI cz (q 4) 8 ag, aI ci (q 5) 8 mk, aI ci (q 6) 8 sc, aI ci (q 7) 12 nu, aI ci (q 8) 12 co, aI ci (q 9) 12 fi, aI ci (q 10) 12 ad, aI ci (q 11) 1800 (upd (upd (upd (upd (upd (upd (upd (upd (upd it (9 * ic) x) ((9 * ic) + 1) y) ((9 * ic) + 2) (sp 0)) ((9 * ic) + 3) (sp 1)) ((9 * ic) + 4) (sp 6)) ((9 * ic) + 5) (sp 7)) ((9 * ic) + 6) z) ((9 * ic) + 7) (nI 0)) ((9 * ic) + 8) (nI 0)), aI ci (q 12) 8 sp, aI ci (q 13) 160 stk] H := hP
        have hD : va_D A [oM q ref n num den mag fac who fnd pc ic a sta lb la fo dee kc, aI ci (q 1) 600 fl, aI ci (q 2) 1024 wd, aI cz (q 3) 8 df, aI cz (q 4) 8 ag, aI ci (q 5) 8 mk, aI ci (q 6) 8 sc, aI ci (q 7) 12 nu, aI ci (q 8) 12 co, aI ci (q 9) 12 fi, aI ci (q 10) 12 ad, aI ci (q 11) 1800 (upd (upd (upd (upd (upd (upd (upd (upd (upd it (9 * ic) x) ((9 * ic) + 1) y) ((9 * ic) + 2) (sp 0)) ((9 * ic) + 3) (sp 1)) ((9 * ic) + 4) (sp 6)) ((9 * ic) + 5) (sp 7)) ((9 * ic) + 6) z) ((9 * ic) + 7) (nI 0)) ((9 * ic) + 8) (nI 0)), aI ci (q 12) 8 sp, aI ci (q 13) 160 stk] := hD
        refine lv_aload_n hx hb dX9_put_164 rfl (lv_at hl 1 rfl) ?_
        refine lv_dup hx hb dX9_put_165 rfl ?_
        refine va_get (D := G) (ci := 8) (v := .int (nI ic)) (C := RX9) (T := TX9) (N := 30) hx hb hts hi_X9 hown hK hP 0 rfl rfl 19 (by decide) f_89 (fun _ h9 => h9) rfl dX9_put_166 ?_
        refine lv_iconst (v := nI 1) hx hb dX9_put_169 (by decide) ?_
        refine lv_iadd hx hb dX9_put_170 ?_
        refine tp (nI_add _ _) ?_
        refine va_put (D := G) (ci := 8) (v := .int (nI (ic + 1))) (ty := .int) (C := RX9) (T := TX9) (N := 30) hx hb hts hi_X9 tyX9 tyX9_ok nmX9 hown hK hP hD hS 0 rfl rfl 19 (by decide) f_89 (fun _ h9 => h9) rfl (by decide +kernel) rfl rfl (Nat.le_of_ble_eq_true rfl) dX9_put_171 (fun H locs hP hD hS => ?_)
        have hP : va_P G vwCl [oM q ref n num den mag fac who fnd pc (ic + 1) a sta lb la fo dee kc, aI ci (q 1) 600 fl, aI ci (q 2) 1024 wd, aI cz (q 3) 8 df, aI cz (q 4) 8 ag, aI ci (q 5) 8 mk, aI ci (q 6) 8 sc, aI ci (q 7) 12 nu, aI ci (q 8) 12 co, aI ci (q 9) 12 fi, aI ci (q 10) 12 ad, aI ci (q 11) 1800 (upd (upd (upd (upd (upd (upd (upd (upd (upd it (9 * ic) x) ((9 * ic) + 1) y) ((9 * ic) + 2) (sp 0)) ((9 * ic) + 3) (sp 1)) ((9 * ic) + 4) (sp 6)) ((9 * ic) + 5) (sp 7)) ((9 * ic) + 6) z) ((9 * ic) + 7) (nI 0)) ((9 * ic) + 8) (nI 0)), aI ci (q 12) 8 sp, aI ci (q 13) 160 stk] H := hP
        have hD : va_D A [oM q ref n num den mag fac who fnd pc (ic + 1) a sta lb la fo dee kc, aI ci (q 1) 600 fl, aI ci (q 2) 1024 wd, aI cz (q 3) 8 df, aI cz (q 4) 8 ag, aI ci (q 5) 8 mk, aI ci (q 6) 8 sc, aI ci (q 7) 12 nu, aI ci (q 8) 12 co, aI ci (q 9) 12 fi, aI ci (q 10) 12 ad, aI ci (q 11) 1800 (upd (upd (upd (upd (upd (upd (upd (upd (upd it (9 * ic) x) ((9 * ic) + 1) y) ((9 * ic) + 2) (sp 0)) ((9 * ic) + 3) (sp 1)) ((9 * ic) + 4) (sp 6)) ((9 * ic) + 5) (sp 7)) ((9 * ic) + 6) z) ((9 * ic) + 7) (nI 0)) ((9 * ic) + 8) (nI 0)), aI ci (q 12) 8 sp, aI ci (q 13) 160 stk] := hD
        refine lv_aload_n hx hb dX9_put_174 rfl (lv_at hl 1 rfl) ?_
        refine va_get (D := G) (ci := 8) (v := .ref (q 8)) (C := RX9) (T := TX9) (N := 30) hx hb hts hi_X9 hown hK hP 0 rfl rfl 16 (by decide) f_36 (fun _ h9 => h9) rfl dX9_put_175 ?_
        refine lv_aload_n hx hb dX9_put_178 rfl (lv_at hl 1 rfl) ?_
        refine va_get (D := G) (ci := 8) (v := .int (nI pc)) (C := RX9) (T := TX9) (N := 30) hx hb hts hi_X9 hown hK hP 0 rfl rfl 14 (by decide) f_95 (fun _ h9 => h9) rfl dX9_put_179 ?_
        refine lv_iconst (v := nI 1) hx hb dX9_put_182 (by decide) ?_
        refine lv_isub hx hb dX9_put_183 ?_
        refine tp (pk_sub (by omega)) ?_
        refine lv_dup2_11 hx hb dX9_put_184 rfl rfl ?_
        refine va_iald hx hb hK hP 8 0 rfl rfl (vp_in_nI (by omega) (by omega)) dX9_put_185 ?_
        refine tp (y := co (pc - 1)) (congrArg co (nI_clamp (by omega))) ?_
        refine lv_iconst (v := nI 1) hx hb dX9_put_186 (by decide) ?_
        refine lv_iadd hx hb dX9_put_187 ?_
        refine va_iast hx hb hK hP hD hS 8 0 rfl rfl (vp_in_nI (by omega) (by omega)) dX9_put_188 (fun H locs hP hD hS => ?_)
        rw [nI_clamp (by omega)] at hP hD
        have hP : va_P G vwCl [oM q ref n num den mag fac who fnd pc (ic + 1) a sta lb la fo dee kc, aI ci (q 1) 600 fl, aI ci (q 2) 1024 wd, aI cz (q 3) 8 df, aI cz (q 4) 8 ag, aI ci (q 5) 8 mk, aI ci (q 6) 8 sc, aI ci (q 7) 12 nu, aI ci (q 8) 12 (upd co (pc - 1) ((co (pc - 1)) + (nI 1))), aI ci (q 9) 12 fi, aI ci (q 10) 12 ad, aI ci (q 11) 1800 (upd (upd (upd (upd (upd (upd (upd (upd (upd it (9 * ic) x) ((9 * ic) + 1) y) ((9 * ic) + 2) (sp 0)) ((9 * ic) + 3) (sp 1)) ((9 * ic) + 4) (sp 6)) ((9 * ic) + 5) (sp 7)) ((9 * ic) + 6) z) ((9 * ic) + 7) (nI 0)) ((9 * ic) + 8) (nI 0)), aI ci (q 12) 8 sp, aI ci (q 13) 160 stk] H := hP
        have hD : va_D A [oM q ref n num den mag fac who fnd pc (ic + 1) a sta lb la fo dee kc, aI ci (q 1) 600 fl, aI ci (q 2) 1024 wd, aI cz (q 3) 8 df, aI cz (q 4) 8 ag, aI ci (q 5) 8 mk, aI ci (q 6) 8 sc, aI ci (q 7) 12 nu, aI ci (q 8) 12 (upd co (pc - 1) ((co (pc - 1)) + (nI 1))), aI ci (q 9) 12 fi, aI ci (q 10) 12 ad, aI ci (q 11) 1800 (upd (upd (upd (upd (upd (upd (upd (upd (upd it (9 * ic) x) ((9 * ic) + 1) y) ((9 * ic) + 2) (sp 0)) ((9 * ic) + 3) (sp 1)) ((9 * ic) + 4) (sp 6)) ((9 * ic) + 5) (sp 7)) ((9 * ic) + 6) z) ((9 * ic) + 7) (nI 0)) ((9 * ic) + 8) (nI 0)), aI ci (q 12) 8 sp, aI ci (q 13) 160 stk] := hD
        refine lv_iconst (v := nI 1) hx hb dX9_put_189 (by decide) ?_
        exact rI (v := nI 1) hx hb hr hlocks nb1 hK hP hD hS [0, 1, 2, 3, 4, 5, 6, 7, 8, 9, 10, 11, 12, 13] (1, ic + 1, upd co (pc - 1) ((co (pc - 1)) + (nI 1)), upd (upd (upd (upd (upd (upd (upd (upd (upd it (9 * ic) x) ((9 * ic) + 1) y) ((9 * ic) + 2) (sp 0)) ((9 * ic) + 3) (sp 1)) ((9 * ic) + 4) (sp 6)) ((9 * ic) + 5) (sp 7)) ((9 * ic) + 6) z) ((9 * ic) + 7) (nI 0)) ((9 * ic) + 8) (nI 0)) rfl (by decide) ⟨rfl, Or.inl ⟨rfl, rfl, rfl, by (try dsimp only); omega, RPut_u⟩, PI_place hPI (by (try dsimp only); omega)⟩ dX9_put_190
      · skip
        refine lv_aload_n hx hb dX9_put_154 rfl (lv_at hl 1 rfl) ?_
        refine lv_iload_n hx hb dX9_put_155 rfl (lv_at hl 3 rfl) ?_
        refine jI (va_runV (As := [.int y]) (rest := [.int (nI ((9 * ic) + 8)), .ref (q 11)]) ⟨hx, hb, hml, hown, hts⟩ (c_X9_upwards l G ci cz cl q H.size y ref n num den mag fac who fnd pc ic a sta lb la fo dee kc fl wd df ag mk sc nu co fi ad (upd (upd (upd (upd (upd (upd (upd (upd it (9 * ic) x) ((9 * ic) + 1) y) ((9 * ic) + 2) (sp 0)) ((9 * ic) + 3) (sp 1)) ((9 * ic) + 4) (sp 6)) ((9 * ic) + 5) (sp 7)) ((9 * ic) + 6) z) ((9 * ic) + 7) (nI 0)) sp stk (by assumption)) (cwV 1 hts gX9_put_X9_upwards rfl rfl rfl (by decide +kernel) ⟨(Nat.le_of_ble_eq_true rfl), (Nat.le_of_ble_eq_true rfl)⟩) (pV (wc := [oM q ref n num den mag fac who fnd pc ic a sta lb la fo dee kc, aI ci (q 1) 600 fl, aI ci (q 2) 1024 wd, aI cz (q 3) 8 df, aI cz (q 4) 8 ag, aI ci (q 5) 8 mk, aI ci (q 6) 8 sc, aI ci (q 7) 12 nu, aI ci (q 8) 12 co, aI ci (q 9) 12 fi, aI ci (q 10) 12 ad, aI ci (q 11) 1800 (upd (upd (upd (upd (upd (upd (upd (upd it (9 * ic) x) ((9 * ic) + 1) y) ((9 * ic) + 2) (sp 0)) ((9 * ic) + 3) (sp 1)) ((9 * ic) + 4) (sp 6)) ((9 * ic) + 5) (sp 7)) ((9 * ic) + 6) z) ((9 * ic) + 7) (nI 0)), aI ci (q 12) 8 sp, aI ci (q 13) 160 stk]) ok hK hP hD hS hA hO [0, 1, 2, 3, 4, 5, 6, 7, 8, 9, 10, 11, 12, 13] rfl (by decide) 0 rfl rfl) rfl rfl hl.1 rfl (lv_room (Nat.le_of_ble_eq_true rfl)) dX9_put_156 ⟨(Nat.le_of_ble_eq_true rfl), (Nat.le_of_ble_eq_true rfl)⟩) (wr := []) hP hD hS hA [0, 1, 2, 3, 4, 5, 6, 7, 8, 9, 10, 11, 12, 13] [] rfl rfl (by decide) (by decide) (fun r_4 u H locs hw_4 hP hD hS => ?_)
        try dsimp only at hw_4
        have hP : va_P G vwCl [oM q ref n num den mag fac who fnd pc ic a sta lb la fo dee kc, aI ci (q 1) 600 fl, aI ci (q 2) 1024 wd, aI cz (q 3) 8 df, aI cz (q 4) 8 ag, aI ci (q 5) 8 mk, aI ci (q 6) 8 sc, aI ci (q 7) 12 nu, aI ci (q 8) 12 co, aI ci (q 9) 12 fi, aI ci (q 10) 12 ad, aI ci (q 11) 1800 (upd (upd (upd (upd (upd (upd (upd (upd it (9 * ic) x) ((9 * ic) + 1) y) ((9 * ic) + 2) (sp 0)) ((9 * ic) + 3) (sp 1)) ((9 * ic) + 4) (sp 6)) ((9 * ic) + 5) (sp 7)) ((9 * ic) + 6) z) ((9 * ic) + 7) (nI 0)), aI ci (q 12) 8 sp, aI ci (q 13) 160 stk] H := hP
        have hD : va_D A [oM q ref n num den mag fac who fnd pc ic a sta lb la fo dee kc, aI ci (q 1) 600 fl, aI ci (q 2) 1024 wd, aI cz (q 3) 8 df, aI cz (q 4) 8 ag, aI ci (q 5) 8 mk, aI ci (q 6) 8 sc, aI ci (q 7) 12 nu, aI ci (q 8) 12 co, aI ci (q 9) 12 fi, aI ci (q 10) 12 ad, aI ci (q 11) 1800 (upd (upd (upd (upd (upd (upd (upd (upd it (9 * ic) x) ((9 * ic) + 1) y) ((9 * ic) + 2) (sp 0)) ((9 * ic) + 3) (sp 1)) ((9 * ic) + 4) (sp 6)) ((9 * ic) + 5) (sp 7)) ((9 * ic) + 6) z) ((9 * ic) + 7) (nI 0)), aI ci (q 12) 8 sp, aI ci (q 13) 160 stk] := hD
        refine lv_goto (tgt := 163) hx hb dX9_put_159 (by decide) ?_
        refine va_iast hx hb hK hP hD hS 11 0 rfl rfl (vp_in_nI (by omega) (by omega)) dX9_put_163 (fun H locs hP hD hS => ?_)
        rw [nI_clamp (by omega)] at hP hD
        have hP : va_P G vwCl [oM q ref n num den mag fac who fnd pc ic a sta lb la fo dee kc, aI ci (q 1) 600 fl, aI ci (q 2) 1024 wd, aI cz (q 3) 8 df, aI cz (q 4) 8 ag, aI ci (q 5) 8 mk, aI ci (q 6) 8 sc, aI ci (q 7) 12 nu, aI ci (q 8) 12 co, aI ci (q 9) 12 fi, aI ci (q 10) 12 ad, aI ci (q 11) 1800 (upd (upd (upd (upd (upd (upd (upd (upd (upd it (9 * ic) x) ((9 * ic) + 1) y) ((9 * ic) + 2) (sp 0)) ((9 * ic) + 3) (sp 1)) ((9 * ic) + 4) (sp 6)) ((9 * ic) + 5) (sp 7)) ((9 * ic) + 6) z) ((9 * ic) + 7) (nI 0)) ((9 * ic) + 8) r_4), aI ci (q 12) 8 sp, aI ci (q 13) 160 stk] H := hP
        have hD : va_D A [oM q ref n num den mag fac who fnd pc ic a sta lb la fo dee kc, aI ci (q 1) 600 fl, aI ci (q 2) 1024 wd, aI cz (q 3) 8 df, aI cz (q 4) 8 ag, aI ci (q 5) 8 mk, aI ci (q 6) 8 sc, aI ci (q 7) 12 nu, aI ci (q 8) 12 co, aI ci (q 9) 12 fi, aI ci (q 10) 12 ad, aI ci (q 11) 1800 (upd (upd (upd (upd (upd (upd (upd (upd (upd it (9 * ic) x) ((9 * ic) + 1) y) ((9 * ic) + 2) (sp 0)) ((9 * ic) + 3) (sp 1)) ((9 * ic) + 4) (sp 6)) ((9 * ic) + 5) (sp 7)) ((9 * ic) + 6) z) ((9 * ic) + 7) (nI 0)) ((9 * ic) + 8) r_4), aI ci (q 12) 8 sp, aI ci (q 13) 160 stk] := hD
        refine lv_aload_n hx hb dX9_put_164 rfl (lv_at hl 1 rfl) ?_
        refine lv_dup hx hb dX9_put_165 rfl ?_
        refine va_get (D := G) (ci := 8) (v := .int (nI ic)) (C := RX9) (T := TX9) (N := 30) hx hb hts hi_X9 hown hK hP 0 rfl rfl 19 (by decide) f_89 (fun _ h9 => h9) rfl dX9_put_166 ?_
        refine lv_iconst (v := nI 1) hx hb dX9_put_169 (by decide) ?_
        refine lv_iadd hx hb dX9_put_170 ?_
        refine tp (nI_add _ _) ?_
        refine va_put (D := G) (ci := 8) (v := .int (nI (ic + 1))) (ty := .int) (C := RX9) (T := TX9) (N := 30) hx hb hts hi_X9 tyX9 tyX9_ok nmX9 hown hK hP hD hS 0 rfl rfl 19 (by decide) f_89 (fun _ h9 => h9) rfl (by decide +kernel) rfl rfl (Nat.le_of_ble_eq_true rfl) dX9_put_171 (fun H locs hP hD hS => ?_)
        have hP : va_P G vwCl [oM q ref n num den mag fac who fnd pc (ic + 1) a sta lb la fo dee kc, aI ci (q 1) 600 fl, aI ci (q 2) 1024 wd, aI cz (q 3) 8 df, aI cz (q 4) 8 ag, aI ci (q 5) 8 mk, aI ci (q 6) 8 sc, aI ci (q 7) 12 nu, aI ci (q 8) 12 co, aI ci (q 9) 12 fi, aI ci (q 10) 12 ad, aI ci (q 11) 1800 (upd (upd (upd (upd (upd (upd (upd (upd (upd it (9 * ic) x) ((9 * ic) + 1) y) ((9 * ic) + 2) (sp 0)) ((9 * ic) + 3) (sp 1)) ((9 * ic) + 4) (sp 6)) ((9 * ic) + 5) (sp 7)) ((9 * ic) + 6) z) ((9 * ic) + 7) (nI 0)) ((9 * ic) + 8) r_4), aI ci (q 12) 8 sp, aI ci (q 13) 160 stk] H := hP
        have hD : va_D A [oM q ref n num den mag fac who fnd pc (ic + 1) a sta lb la fo dee kc, aI ci (q 1) 600 fl, aI ci (q 2) 1024 wd, aI cz (q 3) 8 df, aI cz (q 4) 8 ag, aI ci (q 5) 8 mk, aI ci (q 6) 8 sc, aI ci (q 7) 12 nu, aI ci (q 8) 12 co, aI ci (q 9) 12 fi, aI ci (q 10) 12 ad, aI ci (q 11) 1800 (upd (upd (upd (upd (upd (upd (upd (upd (upd it (9 * ic) x) ((9 * ic) + 1) y) ((9 * ic) + 2) (sp 0)) ((9 * ic) + 3) (sp 1)) ((9 * ic) + 4) (sp 6)) ((9 * ic) + 5) (sp 7)) ((9 * ic) + 6) z) ((9 * ic) + 7) (nI 0)) ((9 * ic) + 8) r_4), aI ci (q 12) 8 sp, aI ci (q 13) 160 stk] := hD
        refine lv_aload_n hx hb dX9_put_174 rfl (lv_at hl 1 rfl) ?_
        refine va_get (D := G) (ci := 8) (v := .ref (q 8)) (C := RX9) (T := TX9) (N := 30) hx hb hts hi_X9 hown hK hP 0 rfl rfl 16 (by decide) f_36 (fun _ h9 => h9) rfl dX9_put_175 ?_
        refine lv_aload_n hx hb dX9_put_178 rfl (lv_at hl 1 rfl) ?_
        refine va_get (D := G) (ci := 8) (v := .int (nI pc)) (C := RX9) (T := TX9) (N := 30) hx hb hts hi_X9 hown hK hP 0 rfl rfl 14 (by decide) f_95 (fun _ h9 => h9) rfl dX9_put_179 ?_
        refine lv_iconst (v := nI 1) hx hb dX9_put_182 (by decide) ?_
        refine lv_isub hx hb dX9_put_183 ?_
        refine tp (pk_sub (by omega)) ?_
        refine lv_dup2_11 hx hb dX9_put_184 rfl rfl ?_
        refine va_iald hx hb hK hP 8 0 rfl rfl (vp_in_nI (by omega) (by omega)) dX9_put_185 ?_
        refine tp (y := co (pc - 1)) (congrArg co (nI_clamp (by omega))) ?_
        refine lv_iconst (v := nI 1) hx hb dX9_put_186 (by decide) ?_
        refine lv_iadd hx hb dX9_put_187 ?_
        refine va_iast hx hb hK hP hD hS 8 0 rfl rfl (vp_in_nI (by omega) (by omega)) dX9_put_188 (fun H locs hP hD hS => ?_)
        rw [nI_clamp (by omega)] at hP hD
        have hP : va_P G vwCl [oM q ref n num den mag fac who fnd pc (ic + 1) a sta lb la fo dee kc, aI ci (q 1) 600 fl, aI ci (q 2) 1024 wd, aI cz (q 3) 8 df, aI cz (q 4) 8 ag, aI ci (q 5) 8 mk, aI ci (q 6) 8 sc, aI ci (q 7) 12 nu, aI ci (q 8) 12 (upd co (pc - 1) ((co (pc - 1)) + (nI 1))), aI ci (q 9) 12 fi, aI ci (q 10) 12 ad, aI ci (q 11) 1800 (upd (upd (upd (upd (upd (upd (upd (upd (upd it (9 * ic) x) ((9 * ic) + 1) y) ((9 * ic) + 2) (sp 0)) ((9 * ic) + 3) (sp 1)) ((9 * ic) + 4) (sp 6)) ((9 * ic) + 5) (sp 7)) ((9 * ic) + 6) z) ((9 * ic) + 7) (nI 0)) ((9 * ic) + 8) r_4), aI ci (q 12) 8 sp, aI ci (q 13) 160 stk] H := hP
        have hD : va_D A [oM q ref n num den mag fac who fnd pc (ic + 1) a sta lb la fo dee kc, aI ci (q 1) 600 fl, aI ci (q 2) 1024 wd, aI cz (q 3) 8 df, aI cz (q 4) 8 ag, aI ci (q 5) 8 mk, aI ci (q 6) 8 sc, aI ci (q 7) 12 nu, aI ci (q 8) 12 (upd co (pc - 1) ((co (pc - 1)) + (nI 1))), aI ci (q 9) 12 fi, aI ci (q 10) 12 ad, aI ci (q 11) 1800 (upd (upd (upd (upd (upd (upd (upd (upd (upd it (9 * ic) x) ((9 * ic) + 1) y) ((9 * ic) + 2) (sp 0)) ((9 * ic) + 3) (sp 1)) ((9 * ic) + 4) (sp 6)) ((9 * ic) + 5) (sp 7)) ((9 * ic) + 6) z) ((9 * ic) + 7) (nI 0)) ((9 * ic) + 8) r_4), aI ci (q 12) 8 sp, aI ci (q 13) 160 stk] := hD
        refine lv_iconst (v := nI 1) hx hb dX9_put_189 (by decide) ?_
        exact rI (v := nI 1) hx hb hr hlocks nb1 hK hP hD hS [0, 1, 2, 3, 4, 5, 6, 7, 8, 9, 10, 11, 12, 13] (1, ic + 1, upd co (pc - 1) ((co (pc - 1)) + (nI 1)), upd (upd (upd (upd (upd (upd (upd (upd (upd it (9 * ic) x) ((9 * ic) + 1) y) ((9 * ic) + 2) (sp 0)) ((9 * ic) + 3) (sp 1)) ((9 * ic) + 4) (sp 6)) ((9 * ic) + 5) (sp 7)) ((9 * ic) + 6) z) ((9 * ic) + 7) (nI 0)) ((9 * ic) + 8) r_4) rfl (by decide) ⟨rfl, Or.inl ⟨rfl, rfl, rfl, by (try dsimp only); omega, RPut_u⟩, PI_place hPI (by (try dsimp only); omega)⟩ dX9_put_190
    · skip
      refine lv_aload_n hx hb dX9_put_128 rfl (lv_at hl 1 rfl) ?_
      refine lv_iload_n hx hb dX9_put_129 rfl (lv_at hl 4 rfl) ?_
      refine jI (va_runV (As := [.int z]) (rest := [.int (nI ((9 * ic) + 7)), .ref (q 11)]) ⟨hx, hb, hml, hown, hts⟩ (c_X9_upwards l G ci cz cl q H.size z ref n num den mag fac who fnd pc ic a sta lb la fo dee kc fl wd df ag mk sc nu co fi ad (upd (upd (upd (upd (upd (upd (upd it (9 * ic) x) ((9 * ic) + 1) y) ((9 * ic) + 2) (sp 0)) ((9 * ic) + 3) (sp 1)) ((9 * ic) + 4) (sp 6)) ((9 * ic) + 5) (sp 7)) ((9 * ic) + 6) z) sp stk (by assumption)) (cwV 1 hts gX9_put_X9_upwards rfl rfl rfl (by decide +kernel) ⟨(Nat.le_of_ble_eq_true rfl), (Nat.le_of_ble_eq_true rfl)⟩) (pV (wc := [oM q ref n num den mag fac who fnd pc ic a sta lb la fo dee kc, aI ci (q 1) 600 fl, aI ci (q 2) 1024 wd, aI cz (q 3) 8 df, aI cz (q 4) 8 ag, aI ci (q 5) 8 mk, aI ci (q 6) 8 sc, aI ci (q 7) 12 nu, aI ci (q 8) 12 co, aI ci (q 9) 12 fi, aI ci (q 10) 12 ad, aI ci (q 11) 1800 (upd (upd (upd (upd (upd (upd (upd it (9 * ic) x) ((9 * ic) + 1) y) ((9 * ic) + 2) (sp 0)) ((9 * ic) + 3) (sp 1)) ((9 * ic) + 4) (sp 6)) ((9 * ic) + 5) (sp 7)) ((9 * ic) + 6) z), aI ci (q 12) 8 sp, aI ci (q 13) 160 stk]) ok hK hP hD hS hA hO [0, 1, 2, 3, 4, 5, 6, 7, 8, 9, 10, 11, 12, 13] rfl (by decide) 0 rfl rfl) rfl rfl hl.1 rfl (lv_room (Nat.le_of_ble_eq_true rfl)) dX9_put_130 ⟨(Nat.le_of_ble_eq_true rfl), (Nat.le_of_ble_eq_true rfl)⟩) (wr := []) hP hD hS hA [0, 1, 2, 3, 4, 5, 6, 7, 8, 9, 10, 11, 12, 13] [] rfl rfl (by decide) (by decide) (fun r_5 u H locs hw_5 hP hD hS => ?_)
      try dsimp only at hw_5
      have hP : va_P G vwCl [oM q ref n num den mag fac who fnd pc ic a sta lb la fo dee kc, aI ci (q 1) 600 fl, aI ci (q 2) 1024 wd, aI cz (q 3) 8 df, aI cz (q 4) 8 ag, aI ci (q 5) 8 mk, aI ci (q 6) 8 sc, aI ci (q 7) 12 nu, aI ci (q 8) 12 co, aI ci (q 9) 12 fi, aI ci (q 10) 12 ad, aI ci (q 11) 1800 (upd (upd (upd (upd (upd (upd (upd it (9 * ic) x) ((9 * ic) + 1) y) ((9 * ic) + 2) (sp 0)) ((9 * ic) + 3) (sp 1)) ((9 * ic) + 4) (sp 6)) ((9 * ic) + 5) (sp 7)) ((9 * ic) + 6) z), aI ci (q 12) 8 sp, aI ci (q 13) 160 stk] H := hP
      have hD : va_D A [oM q ref n num den mag fac who fnd pc ic a sta lb la fo dee kc, aI ci (q 1) 600 fl, aI ci (q 2) 1024 wd, aI cz (q 3) 8 df, aI cz (q 4) 8 ag, aI ci (q 5) 8 mk, aI ci (q 6) 8 sc, aI ci (q 7) 12 nu, aI ci (q 8) 12 co, aI ci (q 9) 12 fi, aI ci (q 10) 12 ad, aI ci (q 11) 1800 (upd (upd (upd (upd (upd (upd (upd it (9 * ic) x) ((9 * ic) + 1) y) ((9 * ic) + 2) (sp 0)) ((9 * ic) + 3) (sp 1)) ((9 * ic) + 4) (sp 6)) ((9 * ic) + 5) (sp 7)) ((9 * ic) + 6) z), aI ci (q 12) 8 sp, aI ci (q 13) 160 stk] := hD
      refine lv_goto (tgt := 137) hx hb dX9_put_133 (by decide) ?_
      refine va_iast hx hb hK hP hD hS 11 0 rfl rfl (vp_in_nI (by omega) (by omega)) dX9_put_137 (fun H locs hP hD hS => ?_)
      rw [nI_clamp (by omega)] at hP hD
      have hP : va_P G vwCl [oM q ref n num den mag fac who fnd pc ic a sta lb la fo dee kc, aI ci (q 1) 600 fl, aI ci (q 2) 1024 wd, aI cz (q 3) 8 df, aI cz (q 4) 8 ag, aI ci (q 5) 8 mk, aI ci (q 6) 8 sc, aI ci (q 7) 12 nu, aI ci (q 8) 12 co, aI ci (q 9) 12 fi, aI ci (q 10) 12 ad, aI ci (q 11) 1800 (upd (upd (upd (upd (upd (upd (upd (upd it (9 * ic) x) ((9 * ic) + 1) y) ((9 * ic) + 2) (sp 0)) ((9 * ic) + 3) (sp 1)) ((9 * ic) + 4) (sp 6)) ((9 * ic) + 5) (sp 7)) ((9 * ic) + 6) z) ((9 * ic) + 7) r_5), aI ci (q 12) 8 sp, aI ci (q 13) 160 stk] H := hP
      have hD : va_D A [oM q ref n num den mag fac who fnd pc ic a sta lb la fo dee kc, aI ci (q 1) 600 fl, aI ci (q 2) 1024 wd, aI cz (q 3) 8 df, aI cz (q 4) 8 ag, aI ci (q 5) 8 mk, aI ci (q 6) 8 sc, aI ci (q 7) 12 nu, aI ci (q 8) 12 co, aI ci (q 9) 12 fi, aI ci (q 10) 12 ad, aI ci (q 11) 1800 (upd (upd (upd (upd (upd (upd (upd (upd it (9 * ic) x) ((9 * ic) + 1) y) ((9 * ic) + 2) (sp 0)) ((9 * ic) + 3) (sp 1)) ((9 * ic) + 4) (sp 6)) ((9 * ic) + 5) (sp 7)) ((9 * ic) + 6) z) ((9 * ic) + 7) r_5), aI ci (q 12) 8 sp, aI ci (q 13) 160 stk] := hD
      refine lv_aload_n hx hb dX9_put_138 rfl (lv_at hl 1 rfl) ?_
      refine va_get (D := G) (ci := 8) (v := .ref (q 11)) (C := RX9) (T := TX9) (N := 30) hx hb hts hi_X9 hown hK hP 0 rfl rfl 20 (by decide) f_45 (fun _ h9 => h9) rfl dX9_put_139 ?_
      refine lv_iload hx hb dX9_put_142 (lv_at hl 0 rfl) ?_
      refine lv_bipush (v := nI 8) hx hb dX9_put_144 (by decide) ?_
      refine lv_iadd hx hb dX9_put_146 ?_
      refine tp (nI_add _ _) ?_
      refine lv_iload_n hx hb dX9_put_147 rfl (lv_at hl 2 rfl) ?_
      refine lv_sipush (v := nI 128) hx hb dX9_put_148 (by decide) ?_
      refine lv_icmp_ne (tgt := 162) hx hb dX9_put_151 (by decide) (fun c_6 => ?_) (fun c_6 => ?_)
      · skip
        refine lv_iconst (v := nI 0) hx hb dX9_put_162 (by decide) ?_
        refine va_iast hx hb hK hP hD hS 11 0 rfl rfl (vp_in_nI (by omega) (by omega)) dX9_put_163 (fun H locs hP hD hS => ?_)
        rw [nI_clamp (by omega)] at hP hD
        have hP : va_P G vwCl [oM q ref n num den mag fac who fnd pc ic a sta lb la fo dee kc, aI ci (q 1) 600 fl, aI ci (q 2) 1024 wd, aI cz (q 3) 8 df, aI cz (q 4) 8 ag, aI ci (q 5) 8 mk, aI ci (q 6) 8 sc, aI ci (q 7) 12 nu, aI ci (q 8) 12 co, aI ci (q 9) 12 fi, aI ci (q 10) 12 ad, aI ci (q 11) 1800 (upd (upd (upd (upd (upd (upd (upd (upd (upd it (9 * ic) x) ((9 * ic) + 1) y) ((9 * ic) + 2) (sp 0)) ((9 * ic) + 3) (sp 1)) ((9 * ic) + 4) (sp 6)) ((9 * ic) + 5) (sp 7)) ((9 * ic) + 6) z) ((9 * ic) + 7) r_5) ((9 * ic) + 8) (nI 0)), aI ci (q 12) 8 sp, aI ci (q 13) 160 stk] H := hP
        have hD : va_D A [oM q ref n num den mag fac who fnd pc ic a sta lb la fo dee kc, aI ci (q 1) 600 fl, aI ci (q 2) 1024 wd, aI cz (q 3) 8 df, aI cz (q 4) 8 ag, aI ci (q 5) 8 mk, aI ci (q 6) 8 sc, aI ci (q 7) 12 nu, aI ci (q 8) 12 co, aI ci (q 9) 12 fi, aI ci (q 10) 12 ad, aI ci (q 11) 1800 (upd (upd (upd (upd (upd (upd (upd (upd (upd it (9 * ic) x) ((9 * ic) + 1) y) ((9 * ic) + 2) (sp 0)) ((9 * ic) + 3) (sp 1)) ((9 * ic) + 4) (sp 6)) ((9 * ic) + 5) (sp 7)) ((9 * ic) + 6) z) ((9 * ic) + 7) r_5) ((9 * ic) + 8) (nI 0)), aI ci (q 12) 8 sp, aI ci (q 13) 160 stk] := hD
        refine lv_aload_n hx hb dX9_put_164 rfl (lv_at hl 1 rfl) ?_
        refine lv_dup hx hb dX9_put_165 rfl ?_
        refine va_get (D := G) (ci := 8) (v := .int (nI ic)) (C := RX9) (T := TX9) (N := 30) hx hb hts hi_X9 hown hK hP 0 rfl rfl 19 (by decide) f_89 (fun _ h9 => h9) rfl dX9_put_166 ?_
        refine lv_iconst (v := nI 1) hx hb dX9_put_169 (by decide) ?_
        refine lv_iadd hx hb dX9_put_170 ?_
        refine tp (nI_add _ _) ?_
        refine va_put (D := G) (ci := 8) (v := .int (nI (ic + 1))) (ty := .int) (C := RX9) (T := TX9) (N := 30) hx hb hts hi_X9 tyX9 tyX9_ok nmX9 hown hK hP hD hS 0 rfl rfl 19 (by decide) f_89 (fun _ h9 => h9) rfl (by decide +kernel) rfl rfl (Nat.le_of_ble_eq_true rfl) dX9_put_171 (fun H locs hP hD hS => ?_)
        have hP : va_P G vwCl [oM q ref n num den mag fac who fnd pc (ic + 1) a sta lb la fo dee kc, aI ci (q 1) 600 fl, aI ci (q 2) 1024 wd, aI cz (q 3) 8 df, aI cz (q 4) 8 ag, aI ci (q 5) 8 mk, aI ci (q 6) 8 sc, aI ci (q 7) 12 nu, aI ci (q 8) 12 co, aI ci (q 9) 12 fi, aI ci (q 10) 12 ad, aI ci (q 11) 1800 (upd (upd (upd (upd (upd (upd (upd (upd (upd it (9 * ic) x) ((9 * ic) + 1) y) ((9 * ic) + 2) (sp 0)) ((9 * ic) + 3) (sp 1)) ((9 * ic) + 4) (sp 6)) ((9 * ic) + 5) (sp 7)) ((9 * ic) + 6) z) ((9 * ic) + 7) r_5) ((9 * ic) + 8) (nI 0)), aI ci (q 12) 8 sp, aI ci (q 13) 160 stk] H := hP
        have hD : va_D A [oM q ref n num den mag fac who fnd pc (ic + 1) a sta lb la fo dee kc, aI ci (q 1) 600 fl, aI ci (q 2) 1024 wd, aI cz (q 3) 8 df, aI cz (q 4) 8 ag, aI ci (q 5) 8 mk, aI ci (q 6) 8 sc, aI ci (q 7) 12 nu, aI ci (q 8) 12 co, aI ci (q 9) 12 fi, aI ci (q 10) 12 ad, aI ci (q 11) 1800 (upd (upd (upd (upd (upd (upd (upd (upd (upd it (9 * ic) x) ((9 * ic) + 1) y) ((9 * ic) + 2) (sp 0)) ((9 * ic) + 3) (sp 1)) ((9 * ic) + 4) (sp 6)) ((9 * ic) + 5) (sp 7)) ((9 * ic) + 6) z) ((9 * ic) + 7) r_5) ((9 * ic) + 8) (nI 0)), aI ci (q 12) 8 sp, aI ci (q 13) 160 stk] := hD
        refine lv_aload_n hx hb dX9_put_174 rfl (lv_at hl 1 rfl) ?_
        refine va_get (D := G) (ci := 8) (v := .ref (q 8)) (C := RX9) (T := TX9) (N := 30) hx hb hts hi_X9 hown hK hP 0 rfl rfl 16 (by decide) f_36 (fun _ h9 => h9) rfl dX9_put_175 ?_
        refine lv_aload_n hx hb dX9_put_178 rfl (lv_at hl 1 rfl) ?_
        refine va_get (D := G) (ci := 8) (v := .int (nI pc)) (C := RX9) (T := TX9) (N := 30) hx hb hts hi_X9 hown hK hP 0 rfl rfl 14 (by decide) f_95 (fun _ h9 => h9) rfl dX9_put_179 ?_
        refine lv_iconst (v := nI 1) hx hb dX9_put_182 (by decide) ?_
        refine lv_isub hx hb dX9_put_183 ?_
        refine tp (pk_sub (by omega)) ?_
        refine lv_dup2_11 hx hb dX9_put_184 rfl rfl ?_
        refine va_iald hx hb hK hP 8 0 rfl rfl (vp_in_nI (by omega) (by omega)) dX9_put_185 ?_
        refine tp (y := co (pc - 1)) (congrArg co (nI_clamp (by omega))) ?_
        refine lv_iconst (v := nI 1) hx hb dX9_put_186 (by decide) ?_
        refine lv_iadd hx hb dX9_put_187 ?_
        refine va_iast hx hb hK hP hD hS 8 0 rfl rfl (vp_in_nI (by omega) (by omega)) dX9_put_188 (fun H locs hP hD hS => ?_)
        rw [nI_clamp (by omega)] at hP hD
        have hP : va_P G vwCl [oM q ref n num den mag fac who fnd pc (ic + 1) a sta lb la fo dee kc, aI ci (q 1) 600 fl, aI ci (q 2) 1024 wd, aI cz (q 3) 8 df, aI cz (q 4) 8 ag, aI ci (q 5) 8 mk, aI ci (q 6) 8 sc, aI ci (q 7) 12 nu, aI ci (q 8) 12 (upd co (pc - 1) ((co (pc - 1)) + (nI 1))), aI ci (q 9) 12 fi, aI ci (q 10) 12 ad, aI ci (q 11) 1800 (upd (upd (upd (upd (upd (upd (upd (upd (upd it (9 * ic) x) ((9 * ic) + 1) y) ((9 * ic) + 2) (sp 0)) ((9 * ic) + 3) (sp 1)) ((9 * ic) + 4) (sp 6)) ((9 * ic) + 5) (sp 7)) ((9 * ic) + 6) z) ((9 * ic) + 7) r_5) ((9 * ic) + 8) (nI 0)), aI ci (q 12) 8 sp, aI ci (q 13) 160 stk] H := hP
        have hD : va_D A [oM q ref n num den mag fac who fnd pc (ic + 1) a sta lb la fo dee kc, aI ci (q 1) 600 fl, aI ci (q 2) 1024 wd, aI cz (q 3) 8 df, aI cz (q 4) 8 ag, aI ci (q 5) 8 mk, aI ci (q 6) 8 sc, aI ci (q 7) 12 nu, aI ci (q 8) 12 (upd co (pc - 1) ((co (pc - 1)) + (nI 1))), aI ci (q 9) 12 fi, aI ci (q 10) 12 ad, aI ci (q 11) 1800 (upd (upd (upd (upd (upd (upd (upd (upd (upd it (9 * ic) x) ((9 * ic) + 1) y) ((9 * ic) + 2) (sp 0)) ((9 * ic) + 3) (sp 1)) ((9 * ic) + 4) (sp 6)) ((9 * ic) + 5) (sp 7)) ((9 * ic) + 6) z) ((9 * ic) + 7) r_5) ((9 * ic) + 8) (nI 0)), aI ci (q 12) 8 sp, aI ci (q 13) 160 stk] := hD
        refine lv_iconst (v := nI 1) hx hb dX9_put_189 (by decide) ?_
        exact rI (v := nI 1) hx hb hr hlocks nb1 hK hP hD hS [0, 1, 2, 3, 4, 5, 6, 7, 8, 9, 10, 11, 12, 13] (1, ic + 1, upd co (pc - 1) ((co (pc - 1)) + (nI 1)), upd (upd (upd (upd (upd (upd (upd (upd (upd it (9 * ic) x) ((9 * ic) + 1) y) ((9 * ic) + 2) (sp 0)) ((9 * ic) + 3) (sp 1)) ((9 * ic) + 4) (sp 6)) ((9 * ic) + 5) (sp 7)) ((9 * ic) + 6) z) ((9 * ic) + 7) r_5) ((9 * ic) + 8) (nI 0)) rfl (by decide) ⟨rfl, Or.inl ⟨rfl, rfl, rfl, by (try dsimp only); omega, RPut_u⟩, PI_place hPI (by (try dsimp only); omega)⟩ dX9_put_190
      · skip
        refine lv_aload_n hx hb dX9_put_154 rfl (lv_at hl 1 rfl) ?_
        refine lv_iload_n hx hb dX9_put_155 rfl (lv_at hl 3 rfl) ?_
        refine jI (va_runV (As := [.int y]) (rest := [.int (nI ((9 * ic) + 8)), .ref (q 11)]) ⟨hx, hb, hml, hown, hts⟩ (c_X9_upwards l G ci cz cl q H.size y ref n num den mag fac who fnd pc ic a sta lb la fo dee kc fl wd df ag mk sc nu co fi ad (upd (upd (upd (upd (upd (upd (upd (upd it (9 * ic) x) ((9 * ic) + 1) y) ((9 * ic) + 2) (sp 0)) ((9 * ic) + 3) (sp 1)) ((9 * ic) + 4) (sp 6)) ((9 * ic) + 5) (sp 7)) ((9 * ic) + 6) z) ((9 * ic) + 7) r_5) sp stk (by assumption)) (cwV 1 hts gX9_put_X9_upwards rfl rfl rfl (by decide +kernel) ⟨(Nat.le_of_ble_eq_true rfl), (Nat.le_of_ble_eq_true rfl)⟩) (pV (wc := [oM q ref n num den mag fac who fnd pc ic a sta lb la fo dee kc, aI ci (q 1) 600 fl, aI ci (q 2) 1024 wd, aI cz (q 3) 8 df, aI cz (q 4) 8 ag, aI ci (q 5) 8 mk, aI ci (q 6) 8 sc, aI ci (q 7) 12 nu, aI ci (q 8) 12 co, aI ci (q 9) 12 fi, aI ci (q 10) 12 ad, aI ci (q 11) 1800 (upd (upd (upd (upd (upd (upd (upd (upd it (9 * ic) x) ((9 * ic) + 1) y) ((9 * ic) + 2) (sp 0)) ((9 * ic) + 3) (sp 1)) ((9 * ic) + 4) (sp 6)) ((9 * ic) + 5) (sp 7)) ((9 * ic) + 6) z) ((9 * ic) + 7) r_5), aI ci (q 12) 8 sp, aI ci (q 13) 160 stk]) ok hK hP hD hS hA hO [0, 1, 2, 3, 4, 5, 6, 7, 8, 9, 10, 11, 12, 13] rfl (by decide) 0 rfl rfl) rfl rfl hl.1 rfl (lv_room (Nat.le_of_ble_eq_true rfl)) dX9_put_156 ⟨(Nat.le_of_ble_eq_true rfl), (Nat.le_of_ble_eq_true rfl)⟩) (wr := []) hP hD hS hA [0, 1, 2, 3, 4, 5, 6, 7, 8, 9, 10, 11, 12, 13] [] rfl rfl (by decide) (by decide) (fun r_7 u H locs hw_7 hP hD hS => ?_)
        try dsimp only at hw_7
        have hP : va_P G vwCl [oM q ref n num den mag fac who fnd pc ic a sta lb la fo dee kc, aI ci (q 1) 600 fl, aI ci (q 2) 1024 wd, aI cz (q 3) 8 df, aI cz (q 4) 8 ag, aI ci (q 5) 8 mk, aI ci (q 6) 8 sc, aI ci (q 7) 12 nu, aI ci (q 8) 12 co, aI ci (q 9) 12 fi, aI ci (q 10) 12 ad, aI ci (q 11) 1800 (upd (upd (upd (upd (upd (upd (upd (upd it (9 * ic) x) ((9 * ic) + 1) y) ((9 * ic) + 2) (sp 0)) ((9 * ic) + 3) (sp 1)) ((9 * ic) + 4) (sp 6)) ((9 * ic) + 5) (sp 7)) ((9 * ic) + 6) z) ((9 * ic) + 7) r_5), aI ci (q 12) 8 sp, aI ci (q 13) 160 stk] H := hP
        have hD : va_D A [oM q ref n num den mag fac who fnd pc ic a sta lb la fo dee kc, aI ci (q 1) 600 fl, aI ci (q 2) 1024 wd, aI cz (q 3) 8 df, aI cz (q 4) 8 ag, aI ci (q 5) 8 mk, aI ci (q 6) 8 sc, aI ci (q 7) 12 nu, aI ci (q 8) 12 co, aI ci (q 9) 12 fi, aI ci (q 10) 12 ad, aI ci (q 11) 1800 (upd (upd (upd (upd (upd (upd (upd (upd it (9 * ic) x) ((9 * ic) + 1) y) ((9 * ic) + 2) (sp 0)) ((9 * ic) + 3) (sp 1)) ((9 * ic) + 4) (sp 6)) ((9 * ic) + 5) (sp 7)) ((9 * ic) + 6) z) ((9 * ic) + 7) r_5), aI ci (q 12) 8 sp, aI ci (q 13) 160 stk] := hD
        refine lv_goto (tgt := 163) hx hb dX9_put_159 (by decide) ?_
        refine va_iast hx hb hK hP hD hS 11 0 rfl rfl (vp_in_nI (by omega) (by omega)) dX9_put_163 (fun H locs hP hD hS => ?_)
        rw [nI_clamp (by omega)] at hP hD
        have hP : va_P G vwCl [oM q ref n num den mag fac who fnd pc ic a sta lb la fo dee kc, aI ci (q 1) 600 fl, aI ci (q 2) 1024 wd, aI cz (q 3) 8 df, aI cz (q 4) 8 ag, aI ci (q 5) 8 mk, aI ci (q 6) 8 sc, aI ci (q 7) 12 nu, aI ci (q 8) 12 co, aI ci (q 9) 12 fi, aI ci (q 10) 12 ad, aI ci (q 11) 1800 (upd (upd (upd (upd (upd (upd (upd (upd (upd it (9 * ic) x) ((9 * ic) + 1) y) ((9 * ic) + 2) (sp 0)) ((9 * ic) + 3) (sp 1)) ((9 * ic) + 4) (sp 6)) ((9 * ic) + 5) (sp 7)) ((9 * ic) + 6) z) ((9 * ic) + 7) r_5) ((9 * ic) + 8) r_7), aI ci (q 12) 8 sp, aI ci (q 13) 160 stk] H := hP
        have hD : va_D A [oM q ref n num den mag fac who fnd pc ic a sta lb la fo dee kc, aI ci (q 1) 600 fl, aI ci (q 2) 1024 wd, aI cz (q 3) 8 df, aI cz (q 4) 8 ag, aI ci (q 5) 8 mk, aI ci (q 6) 8 sc, aI ci (q 7) 12 nu, aI ci (q 8) 12 co, aI ci (q 9) 12 fi, aI ci (q 10) 12 ad, aI ci (q 11) 1800 (upd (upd (upd (upd (upd (upd (upd (upd (upd it (9 * ic) x) ((9 * ic) + 1) y) ((9 * ic) + 2) (sp 0)) ((9 * ic) + 3) (sp 1)) ((9 * ic) + 4) (sp 6)) ((9 * ic) + 5) (sp 7)) ((9 * ic) + 6) z) ((9 * ic) + 7) r_5) ((9 * ic) + 8) r_7), aI ci (q 12) 8 sp, aI ci (q 13) 160 stk] := hD
        refine lv_aload_n hx hb dX9_put_164 rfl (lv_at hl 1 rfl) ?_
        refine lv_dup hx hb dX9_put_165 rfl ?_
        refine va_get (D := G) (ci := 8) (v := .int (nI ic)) (C := RX9) (T := TX9) (N := 30) hx hb hts hi_X9 hown hK hP 0 rfl rfl 19 (by decide) f_89 (fun _ h9 => h9) rfl dX9_put_166 ?_
        refine lv_iconst (v := nI 1) hx hb dX9_put_169 (by decide) ?_
        refine lv_iadd hx hb dX9_put_170 ?_
        refine tp (nI_add _ _) ?_
        refine va_put (D := G) (ci := 8) (v := .int (nI (ic + 1))) (ty := .int) (C := RX9) (T := TX9) (N := 30) hx hb hts hi_X9 tyX9 tyX9_ok nmX9 hown hK hP hD hS 0 rfl rfl 19 (by decide) f_89 (fun _ h9 => h9) rfl (by decide +kernel) rfl rfl (Nat.le_of_ble_eq_true rfl) dX9_put_171 (fun H locs hP hD hS => ?_)
        have hP : va_P G vwCl [oM q ref n num den mag fac who fnd pc (ic + 1) a sta lb la fo dee kc, aI ci (q 1) 600 fl, aI ci (q 2) 1024 wd, aI cz (q 3) 8 df, aI cz (q 4) 8 ag, aI ci (q 5) 8 mk, aI ci (q 6) 8 sc, aI ci (q 7) 12 nu, aI ci (q 8) 12 co, aI ci (q 9) 12 fi, aI ci (q 10) 12 ad, aI ci (q 11) 1800 (upd (upd (upd (upd (upd (upd (upd (upd (upd it (9 * ic) x) ((9 * ic) + 1) y) ((9 * ic) + 2) (sp 0)) ((9 * ic) + 3) (sp 1)) ((9 * ic) + 4) (sp 6)) ((9 * ic) + 5) (sp 7)) ((9 * ic) + 6) z) ((9 * ic) + 7) r_5) ((9 * ic) + 8) r_7), aI ci (q 12) 8 sp, aI ci (q 13) 160 stk] H := hP
        have hD : va_D A [oM q ref n num den mag fac who fnd pc (ic + 1) a sta lb la fo dee kc, aI ci (q 1) 600 fl, aI ci (q 2) 1024 wd, aI cz (q 3) 8 df, aI cz (q 4) 8 ag, aI ci (q 5) 8 mk, aI ci (q 6) 8 sc, aI ci (q 7) 12 nu, aI ci (q 8) 12 co, aI ci (q 9) 12 fi, aI ci (q 10) 12 ad, aI ci (q 11) 1800 (upd (upd (upd (upd (upd (upd (upd (upd (upd it (9 * ic) x) ((9 * ic) + 1) y) ((9 * ic) + 2) (sp 0)) ((9 * ic) + 3) (sp 1)) ((9 * ic) + 4) (sp 6)) ((9 * ic) + 5) (sp 7)) ((9 * ic) + 6) z) ((9 * ic) + 7) r_5) ((9 * ic) + 8) r_7), aI ci (q 12) 8 sp, aI ci (q 13) 160 stk] := hD
        refine lv_aload_n hx hb dX9_put_174 rfl (lv_at hl 1 rfl) ?_
        refine va_get (D := G) (ci := 8) (v := .ref (q 8)) (C := RX9) (T := TX9) (N := 30) hx hb hts hi_X9 hown hK hP 0 rfl rfl 16 (by decide) f_36 (fun _ h9 => h9) rfl dX9_put_175 ?_
        refine lv_aload_n hx hb dX9_put_178 rfl (lv_at hl 1 rfl) ?_
        refine va_get (D := G) (ci := 8) (v := .int (nI pc)) (C := RX9) (T := TX9) (N := 30) hx hb hts hi_X9 hown hK hP 0 rfl rfl 14 (by decide) f_95 (fun _ h9 => h9) rfl dX9_put_179 ?_
        refine lv_iconst (v := nI 1) hx hb dX9_put_182 (by decide) ?_
        refine lv_isub hx hb dX9_put_183 ?_
        refine tp (pk_sub (by omega)) ?_
        refine lv_dup2_11 hx hb dX9_put_184 rfl rfl ?_
        refine va_iald hx hb hK hP 8 0 rfl rfl (vp_in_nI (by omega) (by omega)) dX9_put_185 ?_
        refine tp (y := co (pc - 1)) (congrArg co (nI_clamp (by omega))) ?_
        refine lv_iconst (v := nI 1) hx hb dX9_put_186 (by decide) ?_
        refine lv_iadd hx hb dX9_put_187 ?_
        refine va_iast hx hb hK hP hD hS 8 0 rfl rfl (vp_in_nI (by omega) (by omega)) dX9_put_188 (fun H locs hP hD hS => ?_)
        rw [nI_clamp (by omega)] at hP hD
        have hP : va_P G vwCl [oM q ref n num den mag fac who fnd pc (ic + 1) a sta lb la fo dee kc, aI ci (q 1) 600 fl, aI ci (q 2) 1024 wd, aI cz (q 3) 8 df, aI cz (q 4) 8 ag, aI ci (q 5) 8 mk, aI ci (q 6) 8 sc, aI ci (q 7) 12 nu, aI ci (q 8) 12 (upd co (pc - 1) ((co (pc - 1)) + (nI 1))), aI ci (q 9) 12 fi, aI ci (q 10) 12 ad, aI ci (q 11) 1800 (upd (upd (upd (upd (upd (upd (upd (upd (upd it (9 * ic) x) ((9 * ic) + 1) y) ((9 * ic) + 2) (sp 0)) ((9 * ic) + 3) (sp 1)) ((9 * ic) + 4) (sp 6)) ((9 * ic) + 5) (sp 7)) ((9 * ic) + 6) z) ((9 * ic) + 7) r_5) ((9 * ic) + 8) r_7), aI ci (q 12) 8 sp, aI ci (q 13) 160 stk] H := hP
        have hD : va_D A [oM q ref n num den mag fac who fnd pc (ic + 1) a sta lb la fo dee kc, aI ci (q 1) 600 fl, aI ci (q 2) 1024 wd, aI cz (q 3) 8 df, aI cz (q 4) 8 ag, aI ci (q 5) 8 mk, aI ci (q 6) 8 sc, aI ci (q 7) 12 nu, aI ci (q 8) 12 (upd co (pc - 1) ((co (pc - 1)) + (nI 1))), aI ci (q 9) 12 fi, aI ci (q 10) 12 ad, aI ci (q 11) 1800 (upd (upd (upd (upd (upd (upd (upd (upd (upd it (9 * ic) x) ((9 * ic) + 1) y) ((9 * ic) + 2) (sp 0)) ((9 * ic) + 3) (sp 1)) ((9 * ic) + 4) (sp 6)) ((9 * ic) + 5) (sp 7)) ((9 * ic) + 6) z) ((9 * ic) + 7) r_5) ((9 * ic) + 8) r_7), aI ci (q 12) 8 sp, aI ci (q 13) 160 stk] := hD
        refine lv_iconst (v := nI 1) hx hb dX9_put_189 (by decide) ?_
        exact rI (v := nI 1) hx hb hr hlocks nb1 hK hP hD hS [0, 1, 2, 3, 4, 5, 6, 7, 8, 9, 10, 11, 12, 13] (1, ic + 1, upd co (pc - 1) ((co (pc - 1)) + (nI 1)), upd (upd (upd (upd (upd (upd (upd (upd (upd it (9 * ic) x) ((9 * ic) + 1) y) ((9 * ic) + 2) (sp 0)) ((9 * ic) + 3) (sp 1)) ((9 * ic) + 4) (sp 6)) ((9 * ic) + 5) (sp 7)) ((9 * ic) + 6) z) ((9 * ic) + 7) r_5) ((9 * ic) + 8) r_7) rfl (by decide) ⟨rfl, Or.inl ⟨rfl, rfl, rfl, by (try dsimp only); omega, RPut_u⟩, PI_place hPI (by (try dsimp only); omega)⟩ dX9_put_190
  · skip
    have z_1 := (nI_eq (a := ic) (b := 200) (by omega) (by omega)).mp c_1
    refine lv_iconst (v := nI 0) hx hb dX9_put_10 (by decide) ?_
    exact rI (v := nI 0) hx hb hr hlocks nb0 hK hP hD hS [0, 1, 2, 3, 4, 5, 6, 7, 8, 9, 10, 11, 12, 13] (0, ic, co, it) rfl (by decide) ⟨rfl, Or.inr ⟨rfl, rfl, rfl, rfl, by (try dsimp only); omega⟩, hPI⟩ dX9_put_11
