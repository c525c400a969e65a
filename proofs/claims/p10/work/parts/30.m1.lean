set_option maxHeartbeats 4000000 in
set_option maxRecDepth 100000 in
theorem c_X9_refuse (l : Launch) (G : va_G) (ci cz cl : ClassId) (q : Nat → Nat) (sz : Nat) (x : Int32) (ref : Int32) (n : Nat) (num : Nat) (den : Nat) (mag : Nat) (fac : UInt64) (who : Nat) (fnd : Int32) (pc : Nat) (ic : Nat) (a : Nat) (sta : Nat) (lb : Nat) (la : Nat) (fo : Int32) (dee : Nat) (kc : Nat) (fl : Nat → Int32) (wd : Nat → Int32) (df : Nat → Int32) (ag : Nat → Int32) (mk : Nat → Int32) (sc : Nat → Int32) (nu : Nat → Int32) (co : Nat → Int32) (fi : Nat → Int32) (ad : Nat → Int32) (it : Nat → Int32) (sp : Nat → Int32) (stk : Nat → Int32) : CtI l yX9_refuse wsX9_refuse ({ frames := 0, cells := 0, slots := 0, locals := 0 }) G (TY ci cz cl) O0 [.ref (q 0), .int x] [oM q ref n num den mag fac who fnd pc ic a sta lb la fo dee kc, aI ci (q 1) 600 fl, aI ci (q 2) 1024 wd, aI cz (q 3) 8 df, aI cz (q 4) 8 ag, aI ci (q 5) 8 mk, aI ci (q 6) 8 sc, aI ci (q 7) 12 nu, aI ci (q 8) 12 co, aI ci (q 9) 12 fi, aI ci (q 10) 12 ad, aI ci (q 11) 1800 it, aI ci (q 12) 8 sp, aI ci (q 13) 160 stk] sz (fun (r : Int32) (u : Unit) => r = nI 0) (fun u : Unit => [oM q x n num den mag fac who fnd pc ic a sta lb la fo dee kc, aI ci (q 1) 600 fl, aI ci (q 2) 1024 wd, aI cz (q 3) 8 df, aI cz (q 4) 8 ag, aI ci (q 5) 8 mk, aI ci (q 6) 8 sc, aI ci (q 7) 12 nu, aI ci (q 8) 12 co, aI ci (q 9) 12 fi, aI ci (q 10) 12 ad, aI ci (q 11) 1800 it, aI ci (q 12) 8 sp, aI ci (q 13) 160 stk]) 0 0 := by
  refine Met.ofW (cc := cX9_refuse) (maxL := 2) (ret := (some .int)) (by decide) rfl ?_
  intro p e s m args below meth c s₁ B hml hv
  obtain ⟨rfl, ⟨hsz, hP, hK, hD0⟩, hO⟩ := hv
  have hx := B.exec
  have hb := B.bytes
  have hr := B.returns
  have hts := atoms_spec (ws := wsX9_refuse) B.pre
  have hown : s.vm.findClass RX9 = some m.cls := findClass_of_methodNamed B.named
  have hlocks := B.notSynchronized
  subst hsz
  have hD := hD0.self (sz := s.heap.size)
  generalize hAe : va_A [oM q ref n num den mag fac who fnd pc ic a sta lb la fo dee kc, aI ci (q 1) 600 fl, aI ci (q 2) 1024 wd, aI cz (q 3) 8 df, aI cz (q 4) 8 ag, aI ci (q 5) 8 mk, aI ci (q 6) 8 sc, aI ci (q 7) 12 nu, aI ci (q 8) 12 co, aI ci (q 9) 12 fi, aI ci (q 10) 12 ad, aI ci (q 11) 1800 it, aI ci (q 12) 8 sp, aI ci (q 13) 160 stk] s.heap.size = A at hD hO ⊢
  have hA : ∀ q : Nat, s.heap.size ≤ q → A q := fun q h => by rw [← hAe]; exact Or.inr h
  have ok := ok0
  refine startH (A := A) (fun H locs hP hS => ?_) hP
  have hi_X9 := (by decide +kernel : ∀ w ∈ wsX90, w ∈ wsX9_refuse)
  have f_54 := hts (.fieldLink RX9 54 "PageReaderModel" "refusal" "I") (by decide +kernel)
  have hl := lv_entry ([.ref (q 0), .int x]) (n := 2) (Nat.le_of_ble_eq_true rfl)
  rw [lg_entry_eq]
  generalize (lg_sl ([.ref (q 0), .int x]) ++ List.replicate (2 - (lg_sl ([.ref (q 0), .int x])).length) Slot.unset).toArray = ls at hl ⊢
  have hl : lv_has ls 2 [(0, .ref (q 0)), (1, .int x)] := hl
  refine lv_aload_n hx hb dX9_refuse_0 rfl (lv_at hl 0 rfl) ?_
  refine lv_iload_n hx hb dX9_refuse_1 rfl (lv_at hl 1 rfl) ?_
  refine va_put (D := G) (ci := 8) (v := .int x) (ty := .int) (C := RX9) (T := TX9) (N := 30) hx hb hts hi_X9 tyX9 tyX9_ok nmX9 hown hK hP hD hS 0 rfl rfl 0 (by decide) f_54 (fun _ h9 => h9) rfl (by decide +kernel) rfl rfl (Nat.le_of_ble_eq_true rfl) dX9_refuse_2 (fun H locs hP hD hS => ?_)
  have hP : va_P G vwCl [oM q x n num den mag fac who fnd pc ic a sta lb la fo dee kc, aI ci (q 1) 600 fl, aI ci (q 2) 1024 wd, aI cz (q 3) 8 df, aI cz (q 4) 8 ag, aI ci (q 5) 8 mk, aI ci (q 6) 8 sc, aI ci (q 7) 12 nu, aI ci (q 8) 12 co, aI ci (q 9) 12 fi, aI ci (q 10) 12 ad, aI ci (q 11) 1800 it, aI ci (q 12) 8 sp, aI ci (q 13) 160 stk] H := hP
  have hD : va_D A [oM q x n num den mag fac who fnd pc ic a sta lb la fo dee kc, aI ci (q 1) 600 fl, aI ci (q 2) 1024 wd, aI cz (q 3) 8 df, aI cz (q 4) 8 ag, aI ci (q 5) 8 mk, aI ci (q 6) 8 sc, aI ci (q 7) 12 nu, aI ci (q 8) 12 co, aI ci (q 9) 12 fi, aI ci (q 10) 12 ad, aI ci (q 11) 1800 it, aI ci (q 12) 8 sp, aI ci (q 13) 160 stk] := hD
  refine lv_iconst (v := nI 0) hx hb dX9_refuse_5 (by decide) ?_
  exact rI (v := nI 0) hx hb hr hlocks rfl hK hP hD hS [0, 1, 2, 3, 4, 5, 6, 7, 8, 9, 10, 11, 12, 13] () rfl (by decide) rfl dX9_refuse_6
set_option maxHeartbeats 4000000 in
set_option maxRecDepth 100000 in
theorem c_X9_wrong (l : Launch) (G : va_G) (ci cz cl : ClassId) (q : Nat → Nat) (sz : Nat) (ref : Int32) (n : Nat) (num : Nat) (den : Nat) (mag : Nat) (fac : UInt64) (who : Nat) (fnd : Int32) (pc : Nat) (ic : Nat) (a : Nat) (sta : Nat) (lb : Nat) (la : Nat) (fo : Int32) (dee : Nat) (kc : Nat) (fl : Nat → Int32) (wd : Nat → Int32) (df : Nat → Int32) (ag : Nat → Int32) (mk : Nat → Int32) (sc : Nat → Int32) (nu : Nat → Int32) (co : Nat → Int32) (fi : Nat → Int32) (ad : Nat → Int32) (it : Nat → Int32) (sp : Nat → Int32) (stk : Nat → Int32) : CtI l yX9_wrong wsX9_wrong ({ frames := 0, cells := 0, slots := 0, locals := 0 }) G (TY ci cz cl) O0 [.ref (q 0)] [oM q ref n num den mag fac who fnd pc ic a sta lb la fo dee kc, aI ci (q 1) 600 fl, aI ci (q 2) 1024 wd, aI cz (q 3) 8 df, aI cz (q 4) 8 ag, aI ci (q 5) 8 mk, aI ci (q 6) 8 sc, aI ci (q 7) 12 nu, aI ci (q 8) 12 co, aI ci (q 9) 12 fi, aI ci (q 10) 12 ad, aI ci (q 11) 1800 it, aI ci (q 12) 8 sp, aI ci (q 13) 160 stk] sz (fun (r : Int32) (u : Unit) => r = fnd) (fun u : Unit => [oM q (nI 0) n num den mag fac who fnd pc ic a sta lb la fo dee kc, aI ci (q 1) 600 fl, aI ci (q 2) 1024 wd, aI cz (q 3) 8 df, aI cz (q 4) 8 ag, aI ci (q 5) 8 mk, aI ci (q 6) 8 sc, aI ci (q 7) 12 nu, aI ci (q 8) 12 co, aI ci (q 9) 12 fi, aI ci (q 10) 12 ad, aI ci (q 11) 1800 it, aI ci (q 12) 8 sp, aI ci (q 13) 160 stk]) 0 0 := by
  refine Met.ofW (cc := cX9_wrong) (maxL := 1) (ret := (some .int)) (by decide) rfl ?_
  intro p e s m args below meth c s₁ B hml hv
  obtain ⟨rfl, ⟨hsz, hP, hK, hD0⟩, hO⟩ := hv
  have hx := B.exec
  have hb := B.bytes
  have hr := B.returns
  have hts := atoms_spec (ws := wsX9_wrong) B.pre
  have hown : s.vm.findClass RX9 = some m.cls := findClass_of_methodNamed B.named
  have hlocks := B.notSynchronized
  subst hsz
  have hD := hD0.self (sz := s.heap.size)
  generalize hAe : va_A [oM q ref n num den mag fac who fnd pc ic a sta lb la fo dee kc, aI ci (q 1) 600 fl, aI ci (q 2) 1024 wd, aI cz (q 3) 8 df, aI cz (q 4) 8 ag, aI ci (q 5) 8 mk, aI ci (q 6) 8 sc, aI ci (q 7) 12 nu, aI ci (q 8) 12 co, aI ci (q 9) 12 fi, aI ci (q 10) 12 ad, aI ci (q 11) 1800 it, aI ci (q 12) 8 sp, aI ci (q 13) 160 stk] s.heap.size = A at hD hO ⊢
  have hA : ∀ q : Nat, s.heap.size ≤ q → A q := fun q h => by rw [← hAe]; exact Or.inr h
  have ok := ok0
  refine startH (A := A) (fun H locs hP hS => ?_) hP
  have hi_X9 := (by decide +kernel : ∀ w ∈ wsX90, w ∈ wsX9_wrong)
  have f_54 := hts (.fieldLink RX9 54 "PageReaderModel" "refusal" "I") (by decide +kernel)
  have f_29 := hts (.fieldLink RX9 29 "PageReaderModel" "found" "I") (by decide +kernel)
  have hl := lv_entry ([.ref (q 0)]) (n := 1) (Nat.le_of_ble_eq_true rfl)
  rw [lg_entry_eq]
  generalize (lg_sl ([.ref (q 0)]) ++ List.replicate (1 - (lg_sl ([.ref (q 0)])).length) Slot.unset).toArray = ls at hl ⊢
  have hl : lv_has ls 1 [(0, .ref (q 0))] := hl
  refine lv_aload_n hx hb dX9_wrong_0 rfl (lv_at hl 0 rfl) ?_
  refine lv_iconst (v := nI 0) hx hb dX9_wrong_1 (by decide) ?_
  refine va_put (D := G) (ci := 8) (v := .int (nI 0)) (ty := .int) (C := RX9) (T := TX9) (N := 30) hx hb hts hi_X9 tyX9 tyX9_ok nmX9 hown hK hP hD hS 0 rfl rfl 0 (by decide) f_54 (fun _ h9 => h9) rfl (by decide +kernel) rfl rfl (Nat.le_of_ble_eq_true rfl) dX9_wrong_2 (fun H locs hP hD hS => ?_)
  have hP : va_P G vwCl [oM q (nI 0) n num den mag fac who fnd pc ic a sta lb la fo dee kc, aI ci (q 1) 600 fl, aI ci (q 2) 1024 wd, aI cz (q 3) 8 df, aI cz (q 4) 8 ag, aI ci (q 5) 8 mk, aI ci (q 6) 8 sc, aI ci (q 7) 12 nu, aI ci (q 8) 12 co, aI ci (q 9) 12 fi, aI ci (q 10) 12 ad, aI ci (q 11) 1800 it, aI ci (q 12) 8 sp, aI ci (q 13) 160 stk] H := hP
  have hD : va_D A [oM q (nI 0) n num den mag fac who fnd pc ic a sta lb la fo dee kc, aI ci (q 1) 600 fl, aI ci (q 2) 1024 wd, aI cz (q 3) 8 df, aI cz (q 4) 8 ag, aI ci (q 5) 8 mk, aI ci (q 6) 8 sc, aI ci (q 7) 12 nu, aI ci (q 8) 12 co, aI ci (q 9) 12 fi, aI ci (q 10) 12 ad, aI ci (q 11) 1800 it, aI ci (q 12) 8 sp, aI ci (q 13) 160 stk] := hD
  refine lv_aload_n hx hb dX9_wrong_5 rfl (lv_at hl 0 rfl) ?_
  refine va_get (D := G) (ci := 8) (v := .int fnd) (C := RX9) (T := TX9) (N := 30) hx hb hts hi_X9 hown hK hP 0 rfl rfl 13 (by decide) f_29 (fun _ h9 => h9) rfl dX9_wrong_6 ?_
  exact rI (v := fnd) hx hb hr hlocks rfl hK hP hD hS [0, 1, 2, 3, 4, 5, 6, 7, 8, 9, 10, 11, 12, 13] () rfl (by decide) rfl dX9_wrong_9
set_option maxHeartbeats 4000000 in
set_option maxRecDepth 100000 in
theorem c_X9_conv (l : Launch) (G : va_G) (ci cz cl : ClassId) (q : Nat → Nat) (sz : Nat) (ref : Int32) (n : Nat) (num : Nat) (den : Nat) (mag : Nat) (fac : UInt64) (who : Nat) (fnd : Int32) (pc : Nat) (ic : Nat) (a : Nat) (sta : Nat) (lb : Nat) (la : Nat) (fo : Int32) (dee : Nat) (kc : Nat) (fl : Nat → Int32) (wd : Nat → Int32) (df : Nat → Int32) (ag : Nat → Int32) (mk : Nat → Int32) (sc : Nat → Int32) (nu : Nat → Int32) (co : Nat → Int32) (fi : Nat → Int32) (ad : Nat → Int32) (it : Nat → Int32) (sp : Nat → Int32) (stk : Nat → Int32) (hwh : who ≤ 1) : CtD l yX9_conv wsX9_conv ({ frames := 0, cells := 0, slots := 0, locals := 0 }) G (TY ci cz cl) O0 [.ref (q 0)] [oM q ref n num den mag fac who fnd pc ic a sta lb la fo dee kc, aI ci (q 1) 600 fl, aI ci (q 2) 1024 wd, aI cz (q 3) 8 df, aI cz (q 4) 8 ag, aI ci (q 5) 8 mk, aI ci (q 6) 8 sc, aI ci (q 7) 12 nu, aI ci (q 8) 12 co, aI ci (q 9) 12 fi, aI ci (q 10) 12 ad, aI ci (q 11) 1800 it, aI ci (q 12) 8 sp, aI ci (q 13) 160 stk] sz (fun (r : UInt64) (u : Unit) => (who = 0 ∧ r = FP.dconst0) ∨ (who = 1 ∧ r = fac)) (fun u : Unit => [oM q (nI 0) n num den mag fac who fnd pc ic a sta lb la fo dee kc, aI ci (q 1) 600 fl, aI ci (q 2) 1024 wd, aI cz (q 3) 8 df, aI cz (q 4) 8 ag, aI ci (q 5) 8 mk, aI ci (q 6) 8 sc, aI ci (q 7) 12 nu, aI ci (q 8) 12 co, aI ci (q 9) 12 fi, aI ci (q 10) 12 ad, aI ci (q 11) 1800 it, aI ci (q 12) 8 sp, aI ci (q 13) 160 stk]) 0 0 := by
  refine Met.ofW (cc := cX9_conv) (maxL := 1) (ret := (some .double)) (by decide) rfl ?_
  intro p e s m args below meth c s₁ B hml hv
  obtain ⟨rfl, ⟨hsz, hP, hK, hD0⟩, hO⟩ := hv
  have hx := B.exec
  have hb := B.bytes
  have hr := B.returns
  have hts := atoms_spec (ws := wsX9_conv) B.pre
  have hown : s.vm.findClass RX9 = some m.cls := findClass_of_methodNamed B.named
  have hlocks := B.notSynchronized
  subst hsz
  have hD := hD0.self (sz := s.heap.size)
  generalize hAe : va_A [oM q ref n num den mag fac who fnd pc ic a sta lb la fo dee kc, aI ci (q 1) 600 fl, aI ci (q 2) 1024 wd, aI cz (q 3) 8 df, aI cz (q 4) 8 ag, aI ci (q 5) 8 mk, aI ci (q 6) 8 sc, aI ci (q 7) 12 nu, aI ci (q 8) 12 co, aI ci (q 9) 12 fi, aI ci (q 10) 12 ad, aI ci (q 11) 1800 it, aI ci (q 12) 8 sp, aI ci (q 13) 160 stk] s.heap.size = A at hD hO ⊢
  have hA : ∀ q : Nat, s.heap.size ≤ q → A q := fun q h => by rw [← hAe]; exact Or.inr h
  have ok := ok0
  refine startH (A := A) (fun H locs hP hS => ?_) hP
  have hi_X9 := (by decide +kernel : ∀ w ∈ wsX90, w ∈ wsX9_conv)
  have f_54 := hts (.fieldLink RX9 54 "PageReaderModel" "refusal" "I") (by decide +kernel)
  have f_191 := hts (.fieldLink RX9 191 "PageReaderModel" "whole" "Z") (by decide +kernel)
  have f_73 := hts (.fieldLink RX9 73 "PageReaderModel" "factor" "D") (by decide +kernel)
  have hl := lv_entry ([.ref (q 0)]) (n := 1) (Nat.le_of_ble_eq_true rfl)
  rw [lg_entry_eq]
  generalize (lg_sl ([.ref (q 0)]) ++ List.replicate (1 - (lg_sl ([.ref (q 0)])).length) Slot.unset).toArray = ls at hl ⊢
  have hl : lv_has ls 1 [(0, .ref (q 0))] := hl
  refine lv_aload_n hx hb dX9_conv_0 rfl (lv_at hl 0 rfl) ?_
  refine lv_iconst (v := nI 0) hx hb dX9_conv_1 (by decide) ?_
  refine va_put (D := G) (ci := 8) (v := .int (nI 0)) (ty := .int) (C := RX9) (T := TX9) (N := 30) hx hb hts hi_X9 tyX9 tyX9_ok nmX9 hown hK hP hD hS 0 rfl rfl 0 (by decide) f_54 (fun _ h9 => h9) rfl (by decide +kernel) rfl rfl (Nat.le_of_ble_eq_true rfl) dX9_conv_2 (fun H locs hP hD hS => ?_)
  have hP : va_P G vwCl [oM q (nI 0) n num den mag fac who fnd pc ic a sta lb la fo dee kc, aI ci (q 1) 600 fl, aI ci (q 2) 1024 wd, aI cz (q 3) 8 df, aI cz (q 4) 8 ag, aI ci (q 5) 8 mk, aI ci (q 6) 8 sc, aI ci (q 7) 12 nu, aI ci (q 8) 12 co, aI ci (q 9) 12 fi, aI ci (q 10) 12 ad, aI ci (q 11) 1800 it, aI ci (q 12) 8 sp, aI ci (q 13) 160 stk] H := hP
  have hD : va_D A [oM q (nI 0) n num den mag fac who fnd pc ic a sta lb la fo dee kc, aI ci (q 1) 600 fl, aI ci (q 2) 1024 wd, aI cz (q 3) 8 df, aI cz (q 4) 8 ag, aI ci (q 5) 8 mk, aI ci (q 6) 8 sc, aI ci (q 7) 12 nu, aI ci (q 8) 12 co, aI ci (q 9) 12 fi, aI ci (q 10) 12 ad, aI ci (q 11) 1800 it, aI ci (q 12) 8 sp, aI ci (q 13) 160 stk] := hD
  refine lv_aload_n hx hb dX9_conv_5 rfl (lv_at hl 0 rfl) ?_
  refine va_get (D := G) (ci := 8) (v := .int (nI who)) (C := RX9) (T := TX9) (N := 30) hx hb hts hi_X9 hown hK hP 0 rfl rfl 12 (by decide) f_191 (fun _ h9 => h9) rfl dX9_conv_6 ?_
  refine lv_if_eq (tgt := 19) hx hb dX9_conv_9 (by decide) (fun c_1 => ?_) (fun c_1 => ?_)
  · skip
    have z_1 := (nI_eq (a := who) (b := 0) (by omega) (by omega)).mp c_1
    refine lv_dconst0 hx hb dX9_conv_19 ?_
    exact rD hx hb hr hlocks hK hP hD hS [0, 1, 2, 3, 4, 5, 6, 7, 8, 9, 10, 11, 12, 13] () rfl (by decide) (Or.inl ⟨by (try dsimp only); omega, rfl⟩) dX9_conv_20
  · skip
    have z_1 := mt (nI_eq (a := who) (b := 0) (by omega) (by omega)).mpr c_1
    refine lv_aload_n hx hb dX9_conv_12 rfl (lv_at hl 0 rfl) ?_
    refine va_get (D := G) (ci := 8) (v := .double fac) (C := RX9) (T := TX9) (N := 30) hx hb hts hi_X9 hown hK hP 0 rfl rfl 11 (by decide) f_73 (fun _ h9 => h9) rfl dX9_conv_13 ?_
    refine lv_goto (tgt := 20) hx hb dX9_conv_16 (by decide) ?_
    exact rD hx hb hr hlocks hK hP hD hS [0, 1, 2, 3, 4, 5, 6, 7, 8, 9, 10, 11, 12, 13] () rfl (by decide) (Or.inr ⟨by (try dsimp only); omega, rfl⟩) dX9_conv_20
set_option maxHeartbeats 4000000 in
set_option maxRecDepth 100000 in
theorem c_X9_cut (l : Launch) (G : va_G) (ci cz cl : ClassId) (q : Nat → Nat) (sz : Nat) (x : Int32) (ref : Int32) (n : Nat) (num : Nat) (den : Nat) (mag : Nat) (fac : UInt64) (who : Nat) (fnd : Int32) (pc : Nat) (ic : Nat) (a : Nat) (sta : Nat) (lb : Nat) (la : Nat) (fo : Int32) (dee : Nat) (kc : Nat) (fl : Nat → Int32) (wd : Nat → Int32) (df : Nat → Int32) (ag : Nat → Int32) (mk : Nat → Int32) (sc : Nat → Int32) (nu : Nat → Int32) (co : Nat → Int32) (fi : Nat → Int32) (ad : Nat → Int32) (it : Nat → Int32) (sp : Nat → Int32) (stk : Nat → Int32) (hn : n ≤ 600) : CtI l yX9_cut wsX9_cut ({ frames := 1, cells := 0, slots := 0, locals := 21 }) G (TY ci cz cl) O0 [.ref (q 0), .int x] [oM q ref n num den mag fac who fnd pc ic a sta lb la fo dee kc, aI ci (q 1) 600 fl, aI ci (q 2) 1024 wd, aI cz (q 3) 8 df, aI cz (q 4) 8 ag, aI ci (q 5) 8 mk, aI ci (q 6) 8 sc, aI ci (q 7) 12 nu, aI ci (q 8) 12 co, aI ci (q 9) 12 fi, aI ci (q 10) 12 ad, aI ci (q 11) 1800 it, aI ci (q 12) 8 sp, aI ci (q 13) 160 stk] sz (fun (r : Int32) (u : Int32 × Nat) => ((∃ k : Nat, x = nI k ∧ k ≤ n ∧ u.2 = n - k ∧ r = nI u.2 ∧ u.1 = nI 0) ∨ (¬ (0 ≤ x.toInt ∧ x.toInt ≤ n) ∧ u.2 = n ∧ r = nI 0 ∧ u.1 = nI 1))) (fun u : Int32 × Nat => [oM q u.1 u.2 num den mag fac who fnd pc ic a sta lb la fo dee kc, aI ci (q 1) 600 fl, aI ci (q 2) 1024 wd, aI cz (q 3) 8 df, aI cz (q 4) 8 ag, aI ci (q 5) 8 mk, aI ci (q 6) 8 sc, aI ci (q 7) 12 nu, aI ci (q 8) 12 co, aI ci (q 9) 12 fi, aI ci (q 10) 12 ad, aI ci (q 11) 1800 it, aI ci (q 12) 8 sp, aI ci (q 13) 160 stk]) 0 0 := by
  refine Met.ofW (cc := cX9_cut) (maxL := 2) (ret := (some .int)) (by decide) rfl ?_
  intro p e s m args below meth c s₁ B hml hv
  obtain ⟨rfl, ⟨hsz, hP, hK, hD0⟩, hO⟩ := hv
  have hx := B.exec
  have hb := B.bytes
  have hr := B.returns
  have hts := atoms_spec (ws := wsX9_cut) B.pre
  have hown : s.vm.findClass RX9 = some m.cls := findClass_of_methodNamed B.named
  have hlocks := B.notSynchronized
  subst hsz
  have hD := hD0.self (sz := s.heap.size)
  generalize hAe : va_A [oM q ref n num den mag fac who fnd pc ic a sta lb la fo dee kc, aI ci (q 1) 600 fl, aI ci (q 2) 1024 wd, aI cz (q 3) 8 df, aI cz (q 4) 8 ag, aI ci (q 5) 8 mk, aI ci (q 6) 8 sc, aI ci (q 7) 12 nu, aI ci (q 8) 12 co, aI ci (q 9) 12 fi, aI ci (q 10) 12 ad, aI ci (q 11) 1800 it, aI ci (q 12) 8 sp, aI ci (q 13) 160 stk] s.heap.size = A at hD hO ⊢
  have hA : ∀ q : Nat, s.heap.size ≤ q → A q := fun q h => by rw [← hAe]; exact Or.inr h
  have ok := ok0
  refine startH (A := A) (fun H locs hP hS => ?_) hP
  have hi_X9 := (by decide +kernel : ∀ w ∈ wsX90, w ∈ wsX9_cut)
  have f_54 := hts (.fieldLink RX9 54 "PageReaderModel" "refusal" "I") (by decide +kernel)
  have f_61 := hts (.fieldLink RX9 61 "PageReaderModel" "length" "I") (by decide +kernel)
  have hl := lv_entry ([.ref (q 0), .int x]) (n := 2) (Nat.le_of_ble_eq_true rfl)
  rw [lg_entry_eq]
  generalize (lg_sl ([.ref (q 0), .int x]) ++ List.replicate (2 - (lg_sl ([.ref (q 0), .int x])).length) Slot.unset).toArray = ls at hl ⊢
  have hl : lv_has ls 2 [(0, .ref (q 0)), (1, .int x)] := hl
  refine lv_aload_n hx hb dX9_cut_0 rfl (lv_at hl 0 rfl) ?_
  refine lv_iconst (v := nI 0) hx hb dX9_cut_1 (by decide) ?_
  refine va_put (D := G) (ci := 8) (v := .int (nI 0)) (ty := .int) (C := RX9) (T := TX9) (N := 30) hx hb hts hi_X9 tyX9 tyX9_ok nmX9 hown hK hP hD hS 0 rfl rfl 0 (by decide) f_54 (fun _ h9 => h9) rfl (by decide +kernel) rfl rfl (Nat.le_of_ble_eq_true rfl) dX9_cut_2 (fun H locs hP hD hS => ?_)
  have hP : va_P G vwCl [oM q (nI 0) n num den mag fac who fnd pc ic a sta lb la fo dee kc, aI ci (q 1) 600 fl, aI ci (q 2) 1024 wd, aI cz (q 3) 8 df, aI cz (q 4) 8 ag, aI ci (q 5) 8 mk, aI ci (q 6) 8 sc, aI ci (q 7) 12 nu, aI ci (q 8) 12 co, aI ci (q 9) 12 fi, aI ci (q 10) 12 ad, aI ci (q 11) 1800 it, aI ci (q 12) 8 sp, aI ci (q 13) 160 stk] H := hP
  have hD : va_D A [oM q (nI 0) n num den mag fac who fnd pc ic a sta lb la fo dee kc, aI ci (q 1) 600 fl, aI ci (q 2) 1024 wd, aI cz (q 3) 8 df, aI cz (q 4) 8 ag, aI ci (q 5) 8 mk, aI ci (q 6) 8 sc, aI ci (q 7) 12 nu, aI ci (q 8) 12 co, aI ci (q 9) 12 fi, aI ci (q 10) 12 ad, aI ci (q 11) 1800 it, aI ci (q 12) 8 sp, aI ci (q 13) 160 stk] := hD
  refine lv_iload_n hx hb dX9_cut_5 rfl (lv_at hl 1 rfl) ?_
  refine lv_if_lt (tgt := 17) hx hb dX9_cut_6 (by decide) (fun c_1 => ?_) (fun c_1 => ?_)
  · skip
    have z_1 := (i_lt x (nI 0)).mp c_1
    rw [nI_toInt (n := 0) (by omega)] at z_1
    refine lv_aload_n hx hb dX9_cut_17 rfl (lv_at hl 0 rfl) ?_
    refine lv_iconst (v := nI 1) hx hb dX9_cut_18 (by decide) ?_
    refine jI (va_runV (As := [.int (nI 1)]) (rest := []) ⟨hx, hb, hml, hown, hts⟩ (c_X9_refuse l G ci cz cl q H.size (nI 1) (nI 0) n num den mag fac who fnd pc ic a sta lb la fo dee kc fl wd df ag mk sc nu co fi ad it sp stk ) (cwV 1 hts gX9_cut_X9_refuse rfl rfl rfl (by decide +kernel) ⟨(Nat.le_of_ble_eq_true rfl), (Nat.le_of_ble_eq_true rfl)⟩) (pV (wc := [oM q (nI 0) n num den mag fac who fnd pc ic a sta lb la fo dee kc, aI ci (q 1) 600 fl, aI ci (q 2) 1024 wd, aI cz (q 3) 8 df, aI cz (q 4) 8 ag, aI ci (q 5) 8 mk, aI ci (q 6) 8 sc, aI ci (q 7) 12 nu, aI ci (q 8) 12 co, aI ci (q 9) 12 fi, aI ci (q 10) 12 ad, aI ci (q 11) 1800 it, aI ci (q 12) 8 sp, aI ci (q 13) 160 stk]) ok hK hP hD hS hA hO [0, 1, 2, 3, 4, 5, 6, 7, 8, 9, 10, 11, 12, 13] rfl (by decide) 0 rfl rfl) rfl rfl hl.1 rfl (lv_room (Nat.le_of_ble_eq_true rfl)) dX9_cut_19 ⟨(Nat.le_of_ble_eq_true rfl), (Nat.le_of_ble_eq_true rfl)⟩) (wr := []) hP hD hS hA [0, 1, 2, 3, 4, 5, 6, 7, 8, 9, 10, 11, 12, 13] [] rfl rfl (by decide) (by decide) (fun r_2 u H locs hw_2 hP hD hS => ?_)
    try dsimp only at hw_2
    subst r_2
    have hP : va_P G vwCl [oM q (nI 1) n num den mag fac who fnd pc ic a sta lb la fo dee kc, aI ci (q 1) 600 fl, aI ci (q 2) 1024 wd, aI cz (q 3) 8 df, aI cz (q 4) 8 ag, aI ci (q 5) 8 mk, aI ci (q 6) 8 sc, aI ci (q 7) 12 nu, aI ci (q 8) 12 co, aI ci (q 9) 12 fi, aI ci (q 10) 12 ad, aI ci (q 11) 1800 it, aI ci (q 12) 8 sp, aI ci (q 13) 160 stk] H := hP
    have hD : va_D A [oM q (nI 1) n num den mag fac who fnd pc ic a sta lb la fo dee kc, aI ci (q 1) 600 fl, aI ci (q 2) 1024 wd, aI cz (q 3) 8 df, aI cz (q 4) 8 ag, aI ci (q 5) 8 mk, aI ci (q 6) 8 sc, aI ci (q 7) 12 nu, aI ci (q 8) 12 co, aI ci (q 9) 12 fi, aI ci (q 10) 12 ad, aI ci (q 11) 1800 it, aI ci (q 12) 8 sp, aI ci (q 13) 160 stk] := hD
    exact rI (v := nI 0) hx hb hr hlocks rfl hK hP hD hS [0, 1, 2, 3, 4, 5, 6, 7, 8, 9, 10, 11, 12, 13] (nI 1, n) rfl (by decide) (Or.inr ⟨by (try dsimp only); omega, rfl, rfl, rfl⟩) dX9_cut_22
  · skip
    have z_1 := mt (i_lt x (nI 0)).mpr c_1
    rw [nI_toInt (n := 0) (by omega)] at z_1
    refine lv_iload_n hx hb dX9_cut_9 rfl (lv_at hl 1 rfl) ?_
    refine lv_aload_n hx hb dX9_cut_10 rfl (lv_at hl 0 rfl) ?_
    refine va_get (D := G) (ci := 8) (v := .int (nI n)) (C := RX9) (T := TX9) (N := 30) hx hb hts hi_X9 hown hK hP 0 rfl rfl 2 (by decide) f_61 (fun _ h9 => h9) rfl dX9_cut_11 ?_
    refine lv_icmp_le (tgt := 23) hx hb dX9_cut_14 (by decide) (fun c_3 => ?_) (fun c_3 => ?_)
    · skip
      have z_3 := (i_le x (nI n)).mp c_3
      rw [nI_toInt (n := n) (by omega)] at z_3
      refine lv_aload_n hx hb dX9_cut_23 rfl (lv_at hl 0 rfl) ?_
      refine lv_dup hx hb dX9_cut_24 rfl ?_
      refine va_get (D := G) (ci := 8) (v := .int (nI n)) (C := RX9) (T := TX9) (N := 30) hx hb hts hi_X9 hown hK hP 0 rfl rfl 2 (by decide) f_61 (fun _ h9 => h9) rfl dX9_cut_25 ?_
      refine lv_iload_n hx hb dX9_cut_28 rfl (lv_at hl 1 rfl) ?_
      obtain ⟨k, hk, ek, ek2⟩ := i_nonneg (x := x) (by omega)
      refine tp (y := nI k) ek ?_
      refine lv_isub hx hb dX9_cut_29 ?_
      refine tp (pk_sub (by omega)) ?_
      refine va_put (D := G) (ci := 8) (v := .int (nI (n - k))) (ty := .int) (C := RX9) (T := TX9) (N := 30) hx hb hts hi_X9 tyX9 tyX9_ok nmX9 hown hK hP hD hS 0 rfl rfl 2 (by decide) f_61 (fun _ h9 => h9) rfl (by decide +kernel) rfl rfl (Nat.le_of_ble_eq_true rfl) dX9_cut_30 (fun H locs hP hD hS => ?_)
      have hP : va_P G vwCl [oM q (nI 0) (n - k) num den mag fac who fnd pc ic a sta lb la fo dee kc, aI ci (q 1) 600 fl, aI ci (q 2) 1024 wd, aI cz (q 3) 8 df, aI cz (q 4) 8 ag, aI ci (q 5) 8 mk, aI ci (q 6) 8 sc, aI ci (q 7) 12 nu, aI ci (q 8) 12 co, aI ci (q 9) 12 fi, aI ci (q 10) 12 ad, aI ci (q 11) 1800 it, aI ci (q 12) 8 sp, aI ci (q 13) 160 stk] H := hP
      have hD : va_D A [oM q (nI 0) (n - k) num den mag fac who fnd pc ic a sta lb la fo dee kc, aI ci (q 1) 600 fl, aI ci (q 2) 1024 wd, aI cz (q 3) 8 df, aI cz (q 4) 8 ag, aI ci (q 5) 8 mk, aI ci (q 6) 8 sc, aI ci (q 7) 12 nu, aI ci (q 8) 12 co, aI ci (q 9) 12 fi, aI ci (q 10) 12 ad, aI ci (q 11) 1800 it, aI ci (q 12) 8 sp, aI ci (q 13) 160 stk] := hD
      refine lv_aload_n hx hb dX9_cut_33 rfl (lv_at hl 0 rfl) ?_
      refine va_get (D := G) (ci := 8) (v := .int (nI (n - k))) (C := RX9) (T := TX9) (N := 30) hx hb hts hi_X9 hown hK hP 0 rfl rfl 2 (by decide) f_61 (fun _ h9 => h9) rfl dX9_cut_34 ?_
      exact rI (v := nI (n - k)) hx hb hr hlocks rfl hK hP hD hS [0, 1, 2, 3, 4, 5, 6, 7, 8, 9, 10, 11, 12, 13] (nI 0, n - k) rfl (by decide) (Or.inl ⟨k, ek, by (try dsimp only); omega, rfl, rfl, rfl⟩) dX9_cut_37
    · skip
      have z_3 := mt (i_le x (nI n)).mpr c_3
      rw [nI_toInt (n := n) (by omega)] at z_3
      refine lv_aload_n hx hb dX9_cut_17 rfl (lv_at hl 0 rfl) ?_
      refine lv_iconst (v := nI 1) hx hb dX9_cut_18 (by decide) ?_
      refine jI (va_runV (As := [.int (nI 1)]) (rest := []) ⟨hx, hb, hml, hown, hts⟩ (c_X9_refuse l G ci cz cl q H.size (nI 1) (nI 0) n num den mag fac who fnd pc ic a sta lb la fo dee kc fl wd df ag mk sc nu co fi ad it sp stk ) (cwV 1 hts gX9_cut_X9_refuse rfl rfl rfl (by decide +kernel) ⟨(Nat.le_of_ble_eq_true rfl), (Nat.le_of_ble_eq_true rfl)⟩) (pV (wc := [oM q (nI 0) n num den mag fac who fnd pc ic a sta lb la fo dee kc, aI ci (q 1) 600 fl, aI ci (q 2) 1024 wd, aI cz (q 3) 8 df, aI cz (q 4) 8 ag, aI ci (q 5) 8 mk, aI ci (q 6) 8 sc, aI ci (q 7) 12 nu, aI ci (q 8) 12 co, aI ci (q 9) 12 fi, aI ci (q 10) 12 ad, aI ci (q 11) 1800 it, aI ci (q 12) 8 sp, aI ci (q 13) 160 stk]) ok hK hP hD hS hA hO [0, 1, 2, 3, 4, 5, 6, 7, 8, 9, 10, 11, 12, 13] rfl (by decide) 0 rfl rfl) rfl rfl hl.1 rfl (lv_room (Nat.le_of_ble_eq_true rfl)) dX9_cut_19 ⟨(Nat.le_of_ble_eq_true rfl), (Nat.le_of_ble_eq_true rfl)⟩) (wr := []) hP hD hS hA [0, 1, 2, 3, 4, 5, 6, 7, 8, 9, 10, 11, 12, 13] [] rfl rfl (by decide) (by decide) (fun r_4 u H locs hw_4 hP hD hS => ?_)
      try dsimp only at hw_4
      subst r_4
      have hP : va_P G vwCl [oM q (nI 1) n num den mag fac who fnd pc ic a sta lb la fo dee kc, aI ci (q 1) 600 fl, aI ci (q 2) 1024 wd, aI cz (q 3) 8 df, aI cz (q 4) 8 ag, aI ci (q 5) 8 mk, aI ci (q 6) 8 sc, aI ci (q 7) 12 nu, aI ci (q 8) 12 co, aI ci (q 9) 12 fi, aI ci (q 10) 12 ad, aI ci (q 11) 1800 it, aI ci (q 12) 8 sp, aI ci (q 13) 160 stk] H := hP
      have hD : va_D A [oM q (nI 1) n num den mag fac who fnd pc ic a sta lb la fo dee kc, aI ci (q 1) 600 fl, aI ci (q 2) 1024 wd, aI cz (q 3) 8 df, aI cz (q 4) 8 ag, aI ci (q 5) 8 mk, aI ci (q 6) 8 sc, aI ci (q 7) 12 nu, aI ci (q 8) 12 co, aI ci (q 9) 12 fi, aI ci (q 10) 12 ad, aI ci (q 11) 1800 it, aI ci (q 12) 8 sp, aI ci (q 13) 160 stk] := hD
      exact rI (v := nI 0) hx hb hr hlocks rfl hK hP hD hS [0, 1, 2, 3, 4, 5, 6, 7, 8, 9, 10, 11, 12, 13] (nI 1, n) rfl (by decide) (Or.inr ⟨by (try dsimp only); omega, rfl, rfl, rfl⟩) dX9_cut_22
set_option maxHeartbeats 4000000 in
set_option maxRecDepth 100000 in
theorem c_X9_add (l : Launch) (G : va_G) (ci cz cl : ClassId) (q : Nat → Nat) (sz : Nat) (bl : Int64) (x : Int32) (ref : Int32) (n : Nat) (num : Nat) (den : Nat) (mag : Nat) (fac : UInt64) (who : Nat) (fnd : Int32) (pc : Nat) (ic : Nat) (a : Nat) (sta : Nat) (lb : Nat) (la : Nat) (fo : Int32) (dee : Nat) (kc : Nat) (fl : Nat → Int32) (wd : Nat → Int32) (df : Nat → Int32) (ag : Nat → Int32) (mk : Nat → Int32) (sc : Nat → Int32) (nu : Nat → Int32) (co : Nat → Int32) (fi : Nat → Int32) (ad : Nat → Int32) (it : Nat → Int32) (sp : Nat → Int32) (stk : Nat → Int32) (hn : n ≤ 600) : CtI l yX9_add wsX9_add ({ frames := 1, cells := 0, slots := 0, locals := 21 }) G (TY ci cz cl) O0 [.ref (q 0), .long bl, .int x] [oM q ref n num den mag fac who fnd pc ic a sta lb la fo dee kc, aI ci (q 1) 600 fl, aI ci (q 2) 1024 wd, aI cz (q 3) 8 df, aI cz (q 4) 8 ag, aI ci (q 5) 8 mk, aI ci (q 6) 8 sc, aI ci (q 7) 12 nu, aI ci (q 8) 12 co, aI ci (q 9) 12 fi, aI ci (q 10) 12 ad, aI ci (q 11) 1800 it, aI ci (q 12) 8 sp, aI ci (q 13) 160 stk] sz (fun (r : Int32) (u : Int32 × Nat × (Nat → Int32)) => ((∃ k : Nat, x = nI k ∧ 1 ≤ k ∧ k ≤ 8 ∧ n + k ≤ 600 ∧ u.2.1 = n + k ∧ u.2.2 = mApp fl n bl k ∧ r = nI u.2.1 ∧ u.1 = nI 0) ∨ ((x.toInt < 1 ∨ 8 < x.toInt) ∧ u.2.1 = n ∧ u.2.2 = fl ∧ r = nI 0 ∧ u.1 = nI 1) ∨ (∃ k : Nat, x = nI k ∧ 1 ≤ k ∧ k ≤ 8 ∧ 600 < n + k ∧ u.2.1 = n ∧ u.2.2 = fl ∧ r = nI 0 ∧ u.1 = nI 2))) (fun u : Int32 × Nat × (Nat → Int32) => [oM q u.1 u.2.1 num den mag fac who fnd pc ic a sta lb la fo dee kc, aI ci (q 1) 600 u.2.2, aI ci (q 2) 1024 wd, aI cz (q 3) 8 df, aI cz (q 4) 8 ag, aI ci (q 5) 8 mk, aI ci (q 6) 8 sc, aI ci (q 7) 12 nu, aI ci (q 8) 12 co, aI ci (q 9) 12 fi, aI ci (q 10) 12 ad, aI ci (q 11) 1800 it, aI ci (q 12) 8 sp, aI ci (q 13) 160 stk]) 0 0 := by
  refine Met.ofW (cc := cX9_add) (maxL := 5) (ret := (some .int)) (by decide) rfl ?_
  intro p e s m args below meth c s₁ B hml hv
  obtain ⟨rfl, ⟨hsz, hP, hK, hD0⟩, hO⟩ := hv
  have hx := B.exec
  have hb := B.bytes
  have hr := B.returns
  have hts := atoms_spec (ws := wsX9_add) B.pre
  have hown : s.vm.findClass RX9 = some m.cls := findClass_of_methodNamed B.named
  have hlocks := B.notSynchronized
  subst hsz
  have hD := hD0.self (sz := s.heap.size)
  generalize hAe : va_A [oM q ref n num den mag fac who fnd pc ic a sta lb la fo dee kc, aI ci (q 1) 600 fl, aI ci (q 2) 1024 wd, aI cz (q 3) 8 df, aI cz (q 4) 8 ag, aI ci (q 5) 8 mk, aI ci (q 6) 8 sc, aI ci (q 7) 12 nu, aI ci (q 8) 12 co, aI ci (q 9) 12 fi, aI ci (q 10) 12 ad, aI ci (q 11) 1800 it, aI ci (q 12) 8 sp, aI ci (q 13) 160 stk] s.heap.size = A at hD hO ⊢
  have hA : ∀ q : Nat, s.heap.size ≤ q → A q := fun q h => by rw [← hAe]; exact Or.inr h
  have ok := ok0
  refine startH (A := A) (fun H locs hP hS => ?_) hP
  have hi_X9 := (by decide +kernel : ∀ w ∈ wsX90, w ∈ wsX9_add)
  have f_54 := hts (.fieldLink RX9 54 "PageReaderModel" "refusal" "I") (by decide +kernel)
  have f_61 := hts (.fieldLink RX9 61 "PageReaderModel" "length" "I") (by decide +kernel)
  have f_7 := hts (.fieldLink RX9 7 "PageReaderModel" "file" "[I") (by decide +kernel)
  have k_64 := hts (.constantLong RX9 64 (255)) (by decide +kernel)
  have hl := lv_entry ([.ref (q 0), .long bl, .int x]) (n := 5) (Nat.le_of_ble_eq_true rfl)
  rw [lg_entry_eq]
  generalize (lg_sl ([.ref (q 0), .long bl, .int x]) ++ List.replicate (5 - (lg_sl ([.ref (q 0), .long bl, .int x])).length) Slot.unset).toArray = ls at hl ⊢
  have hl : lv_has ls 5 [(0, .ref (q 0)), (1, .long bl), (3, .int x)] := hl
  refine lv_aload_n hx hb dX9_add_0 rfl (lv_at hl 0 rfl) ?_
  refine lv_iconst (v := nI 0) hx hb dX9_add_1 (by decide) ?_
  refine va_put (D := G) (ci := 8) (v := .int (nI 0)) (ty := .int) (C := RX9) (T := TX9) (N := 30) hx hb hts hi_X9 tyX9 tyX9_ok nmX9 hown hK hP hD hS 0 rfl rfl 0 (by decide) f_54 (fun _ h9 => h9) rfl (by decide +kernel) rfl rfl (Nat.le_of_ble_eq_true rfl) dX9_add_2 (fun H locs hP hD hS => ?_)
  have hP : va_P G vwCl [oM q (nI 0) n num den mag fac who fnd pc ic a sta lb la fo dee kc, aI ci (q 1) 600 fl, aI ci (q 2) 1024 wd, aI cz (q 3) 8 df, aI cz (q 4) 8 ag, aI ci (q 5) 8 mk, aI ci (q 6) 8 sc, aI ci (q 7) 12 nu, aI ci (q 8) 12 co, aI ci (q 9) 12 fi, aI ci (q 10) 12 ad, aI ci (q 11) 1800 it, aI ci (q 12) 8 sp, aI ci (q 13) 160 stk] H := hP
  have hD : va_D A [oM q (nI 0) n num den mag fac who fnd pc ic a sta lb la fo dee kc, aI ci (q 1) 600 fl, aI ci (q 2) 1024 wd, aI cz (q 3) 8 df, aI cz (q 4) 8 ag, aI ci (q 5) 8 mk, aI ci (q 6) 8 sc, aI ci (q 7) 12 nu, aI ci (q 8) 12 co, aI ci (q 9) 12 fi, aI ci (q 10) 12 ad, aI ci (q 11) 1800 it, aI ci (q 12) 8 sp, aI ci (q 13) 160 stk] := hD
  refine lv_iload_n hx hb dX9_add_5 rfl (lv_at hl 2 rfl) ?_
  refine lv_iconst (v := nI 1) hx hb dX9_add_6 (by decide) ?_
  refine lv_icmp_lt (tgt := 16) hx hb dX9_add_7 (by decide) (fun c_1 => ?_) (fun c_1 => ?_)
  · skip
    have z_1 := (i_lt x (nI 1)).mp c_1
    rw [nI_toInt (n := 1) (by omega)] at z_1
    refine lv_aload_n hx hb dX9_add_16 rfl (lv_at hl 0 rfl) ?_
    refine lv_iconst (v := nI 1) hx hb dX9_add_17 (by decide) ?_
    refine jI (va_runV (As := [.int (nI 1)]) (rest := []) ⟨hx, hb, hml, hown, hts⟩ (c_X9_refuse l G ci cz cl q H.size (nI 1) (nI 0) n num den mag fac who fnd pc ic a sta lb la fo dee kc fl wd df ag mk sc nu co fi ad it sp stk ) (cwV 1 hts gX9_add_X9_refuse rfl rfl rfl (by decide +kernel) ⟨(Nat.le_of_ble_eq_true rfl), (Nat.le_of_ble_eq_true rfl)⟩) (pV (wc := [oM q (nI 0) n num den mag fac who fnd pc ic a sta lb la fo dee kc, aI ci (q 1) 600 fl, aI ci (q 2) 1024 wd, aI cz (q 3) 8 df, aI cz (q 4) 8 ag, aI ci (q 5) 8 mk, aI ci (q 6) 8 sc, aI ci (q 7) 12 nu, aI ci (q 8) 12 co, aI ci (q 9) 12 fi, aI ci (q 10) 12 ad, aI ci (q 11) 1800 it, aI ci (q 12) 8 sp, aI ci (q 13) 160 stk]) ok hK hP hD hS hA hO [0, 1, 2, 3, 4, 5, 6, 7, 8, 9, 10, 11, 12, 13] rfl (by decide) 0 rfl rfl) rfl rfl hl.1 rfl (lv_room (Nat.le_of_ble_eq_true rfl)) dX9_add_18 ⟨(Nat.le_of_ble_eq_true rfl), (Nat.le_of_ble_eq_true rfl)⟩) (wr := []) hP hD hS hA [0, 1, 2, 3, 4, 5, 6, 7, 8, 9, 10, 11, 12, 13] [] rfl rfl (by decide) (by decide) (fun r_2 u H locs hw_2 hP hD hS => ?_)
    try dsimp only at hw_2
    subst r_2
    have hP : va_P G vwCl [oM q (nI 1) n num den mag fac who fnd pc ic a sta lb la fo dee kc, aI ci (q 1) 600 fl, aI ci (q 2) 1024 wd, aI cz (q 3) 8 df, aI cz (q 4) 8 ag, aI ci (q 5) 8 mk, aI ci (q 6) 8 sc, aI ci (q 7) 12 nu, aI ci (q 8) 12 co, aI ci (q 9) 12 fi, aI ci (q 10) 12 ad, aI ci (q 11) 1800 it, aI ci (q 12) 8 sp, aI ci (q 13) 160 stk] H := hP
    have hD : va_D A [oM q (nI 1) n num den mag fac who fnd pc ic a sta lb la fo dee kc, aI ci (q 1) 600 fl, aI ci (q 2) 1024 wd, aI cz (q 3) 8 df, aI cz (q 4) 8 ag, aI ci (q 5) 8 mk, aI ci (q 6) 8 sc, aI ci (q 7) 12 nu, aI ci (q 8) 12 co, aI ci (q 9) 12 fi, aI ci (q 10) 12 ad, aI ci (q 11) 1800 it, aI ci (q 12) 8 sp, aI ci (q 13) 160 stk] := hD
    exact rI (v := nI 0) hx hb hr hlocks rfl hK hP hD hS [0, 1, 2, 3, 4, 5, 6, 7, 8, 9, 10, 11, 12, 13] (nI 1, n, fl) rfl (by decide) (Or.inr (Or.inl ⟨by (try dsimp only); omega, rfl, rfl, rfl, rfl⟩)) dX9_add_21
  · skip
    have z_1 := mt (i_lt x (nI 1)).mpr c_1
    rw [nI_toInt (n := 1) (by omega)] at z_1
    refine lv_iload_n hx hb dX9_add_10 rfl (lv_at hl 2 rfl) ?_
    refine lv_bipush (v := nI 8) hx hb dX9_add_11 (by decide) ?_
    refine lv_icmp_le (tgt := 22) hx hb dX9_add_13 (by decide) (fun c_3 => ?_) (fun c_3 => ?_)
    · skip
      have z_3 := (i_le x (nI 8)).mp c_3
      rw [nI_toInt (n := 8) (by omega)] at z_3
      obtain ⟨k, hk, ek, ek2⟩ := i_nonneg (x := x) (by omega)
      refine lv_aload_n hx hb dX9_add_22 rfl (lv_at hl 0 rfl) ?_
      refine va_get (D := G) (ci := 8) (v := .int (nI n)) (C := RX9) (T := TX9) (N := 30) hx hb hts hi_X9 hown hK hP 0 rfl rfl 2 (by decide) f_61 (fun _ h9 => h9) rfl dX9_add_23 ?_
      refine lv_iload_n hx hb dX9_add_26 rfl (lv_at hl 2 rfl) ?_
      refine tp (y := nI k) ek ?_
      refine lv_iadd hx hb dX9_add_27 ?_
      refine tp (nI_add _ _) ?_
      refine lv_sipush (v := nI 600) hx hb dX9_add_28 (by decide) ?_
      refine lv_icmp_le (tgt := 40) hx hb dX9_add_31 (by decide) (fun c_4 => ?_) (fun c_4 => ?_)
      · skip
        have z_4 := (nI_leI (a := (n + k)) (b := 600) (by omega) (by omega)).mp c_4
        refine lv_iconst (v := nI 0) hx hb dX9_add_40 (by decide) ?_
        refine lv_istore (lv' := [(4, .int (nI 0)), (0, .ref (q 0)), (1, .long bl), (3, .int x)]) hx hb dX9_add_41 hl (by decide) rfl (fun ls hl => ?_)
        have loop_43 : ∀ (fuel : Nat) (i : Nat) (H : Heap) (locs : List Loc), k - i < fuel → (i ≤ k) → va_P G vwCl [oM q (nI 0) (n + i) num den mag fac who fnd pc ic a sta lb la fo dee kc, aI ci (q 1) 600 (mApp fl n bl i), aI ci (q 2) 1024 wd, aI cz (q 3) 8 df, aI cz (q 4) 8 ag, aI ci (q 5) 8 mk, aI ci (q 6) 8 sc, aI ci (q 7) 12 nu, aI ci (q 8) 12 co, aI ci (q 9) 12 fi, aI ci (q 10) 12 ad, aI ci (q 11) 1800 it, aI ci (q 12) 8 sp, aI ci (q 13) 160 stk] H → va_D A [oM q (nI 0) (n + i) num den mag fac who fnd pc ic a sta lb la fo dee kc, aI ci (q 1) 600 (mApp fl n bl i), aI ci (q 2) 1024 wd, aI cz (q 3) 8 df, aI cz (q 4) 8 ag, aI ci (q 5) 8 mk, aI ci (q 6) 8 sc, aI ci (q 7) 12 nu, aI ci (q 8) 12 co, aI ci (q 9) 12 fi, aI ci (q 10) 12 ad, aI ci (q 11) 1800 it, aI ci (q 12) 8 sp, aI ci (q 13) 160 stk] → va_S A s.heap H locs → ∀ ls : Array Slot, lv_has ls 5 [(0, .ref (q 0)), (1, .long bl), (3, .int x), (4, .int (nI i))] → W p l e (headSpec wsX9_add ({ frames := 1, cells := 0, slots := 0, locals := 21 })).room s m ([.ref (q 0), .long bl, .int x] : List Value).toArray below meth c H locs 0 0 (MQ below (va_Qi (fun (r : Int32) (u : Int32 × Nat × (Nat → Int32)) => ((∃ k : Nat, x = nI k ∧ 1 ≤ k ∧ k ≤ 8 ∧ n + k ≤ 600 ∧ u.2.1 = n + k ∧ u.2.2 = mApp fl n bl k ∧ r = nI u.2.1 ∧ u.1 = nI 0) ∨ ((x.toInt < 1 ∨ 8 < x.toInt) ∧ u.2.1 = n ∧ u.2.2 = fl ∧ r = nI 0 ∧ u.1 = nI 1) ∨ (∃ k : Nat, x = nI k ∧ 1 ≤ k ∧ k ≤ 8 ∧ 600 < n + k ∧ u.2.1 = n ∧ u.2.2 = fl ∧ r = nI 0 ∧ u.1 = nI 2))) (fun u t => PQ G (TY ci cz cl) A [oM q u.1 u.2.1 num den mag fac who fnd pc ic a sta lb la fo dee kc, aI ci (q 1) 600 u.2.2, aI ci (q 2) 1024 wd, aI cz (q 3) 8 df, aI cz (q 4) 8 ag, aI ci (q 5) 8 mk, aI ci (q 6) 8 sc, aI ci (q 7) 12 nu, aI ci (q 8) 12 co, aI ci (q 9) 12 fi, aI ci (q 10) 12 ad, aI ci (q 11) 1800 it, aI ci (q 12) 8 sp, aI ci (q 13) 160 stk] t) A) ([.ref (q 0), .long bl, .int x] : List Value).toArray s 0 0 A) (F0 m 43 ls []) := by
          intro fuel
          induction fuel with
          | zero => intro i H locs hf; exact absurd hf (by omega)
          | succ fuel ih =>
            intro i H locs hf hi hP hD hS ls hl
            refine lv_iload hx hb dX9_add_43 (lv_at hl 3 rfl) ?_
            refine lv_iload_n hx hb dX9_add_45 rfl (lv_at hl 2 rfl) ?_
            refine tp (y := nI k) ek ?_
            refine lv_icmp_ge (tgt := 86) hx hb dX9_add_46 (by decide) (fun c_5 => ?_) (fun c_5 => ?_)
            · skip
              have z_5 := (nI_leI (a := k) (b := i) (by omega) (by omega)).mp c_5
              have e_i : i = k := by omega
              subst e_i
              refine lv_aload_n hx hb dX9_add_86 rfl (lv_at hl 0 rfl) ?_
              refine va_get (D := G) (ci := 8) (v := .int (nI (n + i))) (C := RX9) (T := TX9) (N := 30) hx hb hts hi_X9 hown hK hP 0 rfl rfl 2 (by decide) f_61 (fun _ h9 => h9) rfl dX9_add_87 ?_
              exact rI (v := nI (n + i)) hx hb hr hlocks rfl hK hP hD hS [0, 1, 2, 3, 4, 5, 6, 7, 8, 9, 10, 11, 12, 13] ((nI 0), n + i, mApp fl n bl i) rfl (by decide) (Or.inl ⟨i, ek, by (try dsimp only); omega, by (try dsimp only); omega, by (try dsimp only); omega, rfl, rfl, rfl, rfl⟩) dX9_add_90
            · skip
              have z_5 := mt (nI_leI (a := k) (b := i) (by omega) (by omega)).mpr c_5
              refine lv_aload_n hx hb dX9_add_49 rfl (lv_at hl 0 rfl) ?_
              refine va_get (D := G) (ci := 8) (v := .ref (q 1)) (C := RX9) (T := TX9) (N := 30) hx hb hts hi_X9 hown hK hP 0 rfl rfl 1 (by decide) f_7 (fun _ h9 => h9) rfl dX9_add_50 ?_
              refine lv_aload_n hx hb dX9_add_53 rfl (lv_at hl 0 rfl) ?_
              refine va_get (D := G) (ci := 8) (v := .int (nI (n + i))) (C := RX9) (T := TX9) (N := 30) hx hb hts hi_X9 hown hK hP 0 rfl rfl 2 (by decide) f_61 (fun _ h9 => h9) rfl dX9_add_54 ?_
              refine lv_lload_n hx hb dX9_add_57 rfl (lv_at hl 1 rfl) ?_
              refine lv_bipush (v := nI 8) hx hb dX9_add_58 (by decide) ?_
              refine lv_iload hx hb dX9_add_60 (lv_at hl 3 rfl) ?_
              refine lv_imul hx hb dX9_add_62 ?_
              refine tp (pk_mul _ _) ?_
              refine lv_lshr hx hb dX9_add_63 rfl ?_
              refine lv_ldc2 hx hb hown k_64 dX9_add_64 ?_
              refine lv_land hx hb dX9_add_67 ?_
              refine lv_l2i hx hb dX9_add_68 rfl ?_
              refine va_iast hx hb hK hP hD hS 1 0 rfl rfl (vp_in_nI (by omega) (by omega)) dX9_add_69 (fun H locs hP hD hS => ?_)
              rw [nI_clamp (by omega)] at hP hD
              have hP : va_P G vwCl [oM q (nI 0) (n + i) num den mag fac who fnd pc ic a sta lb la fo dee kc, aI ci (q 1) 600 (upd (mApp fl n bl i) (n + i) (((bl >>> ((nI (8 * i)).toInt64 &&& 63)) &&& 255).toInt32)), aI ci (q 2) 1024 wd, aI cz (q 3) 8 df, aI cz (q 4) 8 ag, aI ci (q 5) 8 mk, aI ci (q 6) 8 sc, aI ci (q 7) 12 nu, aI ci (q 8) 12 co, aI ci (q 9) 12 fi, aI ci (q 10) 12 ad, aI ci (q 11) 1800 it, aI ci (q 12) 8 sp, aI ci (q 13) 160 stk] H := hP
              have hD : va_D A [oM q (nI 0) (n + i) num den mag fac who fnd pc ic a sta lb la fo dee kc, aI ci (q 1) 600 (upd (mApp fl n bl i) (n + i) (((bl >>> ((nI (8 * i)).toInt64 &&& 63)) &&& 255).toInt32)), aI ci (q 2) 1024 wd, aI cz (q 3) 8 df, aI cz (q 4) 8 ag, aI ci (q 5) 8 mk, aI ci (q 6) 8 sc, aI ci (q 7) 12 nu, aI ci (q 8) 12 co, aI ci (q 9) 12 fi, aI ci (q 10) 12 ad, aI ci (q 11) 1800 it, aI ci (q 12) 8 sp, aI ci (q 13) 160 stk] := hD
              refine lv_aload_n hx hb dX9_add_70 rfl (lv_at hl 0 rfl) ?_
              refine lv_dup hx hb dX9_add_71 rfl ?_
              refine va_get (D := G) (ci := 8) (v := .int (nI (n + i))) (C := RX9) (T := TX9) (N := 30) hx hb hts hi_X9 hown hK hP 0 rfl rfl 2 (by decide) f_61 (fun _ h9 => h9) rfl dX9_add_72 ?_
              refine lv_iconst (v := nI 1) hx hb dX9_add_75 (by decide) ?_
              refine lv_iadd hx hb dX9_add_76 ?_
              refine tp (nI_add _ _) ?_
              refine va_put (D := G) (ci := 8) (v := .int (nI ((n + i) + 1))) (ty := .int) (C := RX9) (T := TX9) (N := 30) hx hb hts hi_X9 tyX9 tyX9_ok nmX9 hown hK hP hD hS 0 rfl rfl 2 (by decide) f_61 (fun _ h9 => h9) rfl (by decide +kernel) rfl rfl (Nat.le_of_ble_eq_true rfl) dX9_add_77 (fun H locs hP hD hS => ?_)
              have hP : va_P G vwCl [oM q (nI 0) ((n + i) + 1) num den mag fac who fnd pc ic a sta lb la fo dee kc, aI ci (q 1) 600 (upd (mApp fl n bl i) (n + i) (((bl >>> ((nI (8 * i)).toInt64 &&& 63)) &&& 255).toInt32)), aI ci (q 2) 1024 wd, aI cz (q 3) 8 df, aI cz (q 4) 8 ag, aI ci (q 5) 8 mk, aI ci (q 6) 8 sc, aI ci (q 7) 12 nu, aI ci (q 8) 12 co, aI ci (q 9) 12 fi, aI ci (q 10) 12 ad, aI ci (q 11) 1800 it, aI ci (q 12) 8 sp, aI ci (q 13) 160 stk] H := hP
              have hD : va_D A [oM q (nI 0) ((n + i) + 1) num den mag fac who fnd pc ic a sta lb la fo dee kc, aI ci (q 1) 600 (upd (mApp fl n bl i) (n + i) (((bl >>> ((nI (8 * i)).toInt64 &&& 63)) &&& 255).toInt32)), aI ci (q 2) 1024 wd, aI cz (q 3) 8 df, aI cz (q 4) 8 ag, aI ci (q 5) 8 mk, aI ci (q 6) 8 sc, aI ci (q 7) 12 nu, aI ci (q 8) 12 co, aI ci (q 9) 12 fi, aI ci (q 10) 12 ad, aI ci (q 11) 1800 it, aI ci (q 12) 8 sp, aI ci (q 13) 160 stk] := hD
              refine lv_iinc (v := nI (i + 1)) (lv' := [(4, .int (nI (i + 1))), (0, .ref (q 0)), (1, .long bl), (3, .int x)]) hx hb dX9_add_80 hl (k := 3) rfl (nI_add _ _) (by decide) rfl (fun ls hl => ?_)
              refine lv_goto (tgt := 43) hx hb dX9_add_83 (by decide) ?_
              exact ih (i + 1) H locs (by omega) (by omega) (hP.sub [0, 1, 2, 3, 4, 5, 6, 7, 8, 9, 10, 11, 12, 13] rfl) (hD.sub [0, 1, 2, 3, 4, 5, 6, 7, 8, 9, 10, 11, 12, 13] (by decide) rfl) hS ls (lv_sub hl [1, 2, 3, 0] rfl)
        exact loop_43 (k - 0 + 1) 0 H locs (Nat.lt_succ_self _) (by omega) (hP.sub [0, 1, 2, 3, 4, 5, 6, 7, 8, 9, 10, 11, 12, 13] rfl) (hD.sub [0, 1, 2, 3, 4, 5, 6, 7, 8, 9, 10, 11, 12, 13] (by decide) rfl) hS ls (lv_sub hl [1, 2, 3, 0] rfl)
      · skip
        have z_4 := mt (nI_leI (a := (n + k)) (b := 600) (by omega) (by omega)).mpr c_4
        refine lv_aload_n hx hb dX9_add_34 rfl (lv_at hl 0 rfl) ?_
        refine lv_iconst (v := nI 2) hx hb dX9_add_35 (by decide) ?_
        refine jI (va_runV (As := [.int (nI 2)]) (rest := []) ⟨hx, hb, hml, hown, hts⟩ (c_X9_refuse l G ci cz cl q H.size (nI 2) (nI 0) n num den mag fac who fnd pc ic a sta lb la fo dee kc fl wd df ag mk sc nu co fi ad it sp stk ) (cwV 1 hts gX9_add_X9_refuse rfl rfl rfl (by decide +kernel) ⟨(Nat.le_of_ble_eq_true rfl), (Nat.le_of_ble_eq_true rfl)⟩) (pV (wc := [oM q (nI 0) n num den mag fac who fnd pc ic a sta lb la fo dee kc, aI ci (q 1) 600 fl, aI ci (q 2) 1024 wd, aI cz (q 3) 8 df, aI cz (q 4) 8 ag, aI ci (q 5) 8 mk, aI ci (q 6) 8 sc, aI ci (q 7) 12 nu, aI ci (q 8) 12 co, aI ci (q 9) 12 fi, aI ci (q 10) 12 ad, aI ci (q 11) 1800 it, aI ci (q 12) 8 sp, aI ci (q 13) 160 stk]) ok hK hP hD hS hA hO [0, 1, 2, 3, 4, 5, 6, 7, 8, 9, 10, 11, 12, 13] rfl (by decide) 0 rfl rfl) rfl rfl hl.1 rfl (lv_room (Nat.le_of_ble_eq_true rfl)) dX9_add_36 ⟨(Nat.le_of_ble_eq_true rfl), (Nat.le_of_ble_eq_true rfl)⟩) (wr := []) hP hD hS hA [0, 1, 2, 3, 4, 5, 6, 7, 8, 9, 10, 11, 12, 13] [] rfl rfl (by decide) (by decide) (fun r_6 u H locs hw_6 hP hD hS => ?_)
        try dsimp only at hw_6
        subst r_6
        have hP : va_P G vwCl [oM q (nI 2) n num den mag fac who fnd pc ic a sta lb la fo dee kc, aI ci (q 1) 600 fl, aI ci (q 2) 1024 wd, aI cz (q 3) 8 df, aI cz (q 4) 8 ag, aI ci (q 5) 8 mk, aI ci (q 6) 8 sc, aI ci (q 7) 12 nu, aI ci (q 8) 12 co, aI ci (q 9) 12 fi, aI ci (q 10) 12 ad, aI ci (q 11) 1800 it, aI ci (q 12) 8 sp, aI ci (q 13) 160 stk] H := hP
        have hD : va_D A [oM q (nI 2) n num den mag fac who fnd pc ic a sta lb la fo dee kc, aI ci (q 1) 600 fl, aI ci (q 2) 1024 wd, aI cz (q 3) 8 df, aI cz (q 4) 8 ag, aI ci (q 5) 8 mk, aI ci (q 6) 8 sc, aI ci (q 7) 12 nu, aI ci (q 8) 12 co, aI ci (q 9) 12 fi, aI ci (q 10) 12 ad, aI ci (q 11) 1800 it, aI ci (q 12) 8 sp, aI ci (q 13) 160 stk] := hD
        exact rI (v := nI 0) hx hb hr hlocks rfl hK hP hD hS [0, 1, 2, 3, 4, 5, 6, 7, 8, 9, 10, 11, 12, 13] (nI 2, n, fl) rfl (by decide) (Or.inr (Or.inr ⟨k, ek, by (try dsimp only); omega, by (try dsimp only); omega, by (try dsimp only); omega, rfl, rfl, rfl, rfl⟩)) dX9_add_39
    · skip
      have z_3 := mt (i_le x (nI 8)).mpr c_3
      rw [nI_toInt (n := 8) (by omega)] at z_3
      refine lv_aload_n hx hb dX9_add_16 rfl (lv_at hl 0 rfl) ?_
      refine lv_iconst (v := nI 1) hx hb dX9_add_17 (by decide) ?_
      refine jI (va_runV (As := [.int (nI 1)]) (rest := []) ⟨hx, hb, hml, hown, hts⟩ (c_X9_refuse l G ci cz cl q H.size (nI 1) (nI 0) n num den mag fac who fnd pc ic a sta lb la fo dee kc fl wd df ag mk sc nu co fi ad it sp stk ) (cwV 1 hts gX9_add_X9_refuse rfl rfl rfl (by decide +kernel) ⟨(Nat.le_of_ble_eq_true rfl), (Nat.le_of_ble_eq_true rfl)⟩) (pV (wc := [oM q (nI 0) n num den mag fac who fnd pc ic a sta lb la fo dee kc, aI ci (q 1) 600 fl, aI ci (q 2) 1024 wd, aI cz (q 3) 8 df, aI cz (q 4) 8 ag, aI ci (q 5) 8 mk, aI ci (q 6) 8 sc, aI ci (q 7) 12 nu, aI ci (q 8) 12 co, aI ci (q 9) 12 fi, aI ci (q 10) 12 ad, aI ci (q 11) 1800 it, aI ci (q 12) 8 sp, aI ci (q 13) 160 stk]) ok hK hP hD hS hA hO [0, 1, 2, 3, 4, 5, 6, 7, 8, 9, 10, 11, 12, 13] rfl (by decide) 0 rfl rfl) rfl rfl hl.1 rfl (lv_room (Nat.le_of_ble_eq_true rfl)) dX9_add_18 ⟨(Nat.le_of_ble_eq_true rfl), (Nat.le_of_ble_eq_true rfl)⟩) (wr := []) hP hD hS hA [0, 1, 2, 3, 4, 5, 6, 7, 8, 9, 10, 11, 12, 13] [] rfl rfl (by decide) (by decide) (fun r_7 u H locs hw_7 hP hD hS => ?_)
      try dsimp only at hw_7
      subst r_7
      have hP : va_P G vwCl [oM q (nI 1) n num den mag fac who fnd pc ic a sta lb la fo dee kc, aI ci (q 1) 600 fl, aI ci (q 2) 1024 wd, aI cz (q 3) 8 df, aI cz (q 4) 8 ag, aI ci (q 5) 8 mk, aI ci (q 6) 8 sc, aI ci (q 7) 12 nu, aI ci (q 8) 12 co, aI ci (q 9) 12 fi, aI ci (q 10) 12 ad, aI ci (q 11) 1800 it, aI ci (q 12) 8 sp, aI ci (q 13) 160 stk] H := hP
      have hD : va_D A [oM q (nI 1) n num den mag fac who fnd pc ic a sta lb la fo dee kc, aI ci (q 1) 600 fl, aI ci (q 2) 1024 wd, aI cz (q 3) 8 df, aI cz (q 4) 8 ag, aI ci (q 5) 8 mk, aI ci (q 6) 8 sc, aI ci (q 7) 12 nu, aI ci (q 8) 12 co, aI ci (q 9) 12 fi, aI ci (q 10) 12 ad, aI ci (q 11) 1800 it, aI ci (q 12) 8 sp, aI ci (q 13) 160 stk] := hD
      exact rI (v := nI 0) hx hb hr hlocks rfl hK hP hD hS [0, 1, 2, 3, 4, 5, 6, 7, 8, 9, 10, 11, 12, 13] (nI 1, n, fl) rfl (by decide) (Or.inr (Or.inl ⟨by (try dsimp only); omega, rfl, rfl, rfl, rfl⟩)) dX9_add_21
set_option maxHeartbeats 4000000 in
set_option maxRecDepth 100000 in
theorem c_X9_width (l : Launch) (G : va_G) (ci cz cl : ClassId) (q : Nat → Nat) (sz : Nat) (x : Int32) (y : Int32) (z : Int32) (ref : Int32) (n : Nat) (num : Nat) (den : Nat) (mag : Nat) (fac : UInt64) (who : Nat) (fnd : Int32) (pc : Nat) (ic : Nat) (a : Nat) (sta : Nat) (lb : Nat) (la : Nat) (fo : Int32) (dee : Nat) (kc : Nat) (fl : Nat → Int32) (wd : Nat → Int32) (df : Nat → Int32) (ag : Nat → Int32) (mk : Nat → Int32) (sc : Nat → Int32) (nu : Nat → Int32) (co : Nat → Int32) (fi : Nat → Int32) (ad : Nat → Int32) (it : Nat → Int32) (sp : Nat → Int32) (stk : Nat → Int32) : CtI l yX9_width wsX9_width ({ frames := 0, cells := 0, slots := 0, locals := 0 }) G (TY ci cz cl) O0 [.ref (q 0), .int x, .int y, .int z] [oM q ref n num den mag fac who fnd pc ic a sta lb la fo dee kc, aI ci (q 1) 600 fl, aI ci (q 2) 1024 wd, aI cz (q 3) 8 df, aI cz (q 4) 8 ag, aI ci (q 5) 8 mk, aI ci (q 6) 8 sc, aI ci (q 7) 12 nu, aI ci (q 8) 12 co, aI ci (q 9) 12 fi, aI ci (q 10) 12 ad, aI ci (q 11) 1800 it, aI ci (q 12) 8 sp, aI ci (q 13) 160 stk] sz (fun (r : Int32) (u : Nat × Int32 × (Nat → Int32)) => r = nI u.1 ∧ u.2.1 = nI 0 ∧ ((u.1 = 1 ∧ ∃ a b : Nat, x = nI a ∧ y = nI b ∧ a < 8 ∧ b < 128 ∧ -30000 ≤ z.toInt ∧ z.toInt ≤ 30000 ∧ u.2.2 = upd wd (128 * a + b) z) ∨ (u.1 = 0 ∧ u.2.2 = wd ∧ ¬ (0 ≤ x.toInt ∧ x.toInt < 8 ∧ 0 ≤ y.toInt ∧ y.toInt < 128 ∧ -30000 ≤ z.toInt ∧ z.toInt ≤ 30000)))) (fun u : Nat × Int32 × (Nat → Int32) => [oM q u.2.1 n num den mag fac who fnd pc ic a sta lb la fo dee kc, aI ci (q 1) 600 fl, aI ci (q 2) 1024 u.2.2, aI cz (q 3) 8 df, aI cz (q 4) 8 ag, aI ci (q 5) 8 mk, aI ci (q 6) 8 sc, aI ci (q 7) 12 nu, aI ci (q 8) 12 co, aI ci (q 9) 12 fi, aI ci (q 10) 12 ad, aI ci (q 11) 1800 it, aI ci (q 12) 8 sp, aI ci (q 13) 160 stk]) 0 0 := by
  refine Met.ofW (cc := cX9_width) (maxL := 4) (ret := (some .boolean)) (by decide) rfl ?_
  intro p e s m args below meth c s₁ B hml hv
  obtain ⟨rfl, ⟨hsz, hP, hK, hD0⟩, hO⟩ := hv
  have hx := B.exec
  have hb := B.bytes
  have hr := B.returns
  have hts := atoms_spec (ws := wsX9_width) B.pre
  have hown : s.vm.findClass RX9 = some m.cls := findClass_of_methodNamed B.named
  have hlocks := B.notSynchronized
  subst hsz
  have hD := hD0.self (sz := s.heap.size)
  generalize hAe : va_A [oM q ref n num den mag fac who fnd pc ic a sta lb la fo dee kc, aI ci (q 1) 600 fl, aI ci (q 2) 1024 wd, aI cz (q 3) 8 df, aI cz (q 4) 8 ag, aI ci (q 5) 8 mk, aI ci (q 6) 8 sc, aI ci (q 7) 12 nu, aI ci (q 8) 12 co, aI ci (q 9) 12 fi, aI ci (q 10) 12 ad, aI ci (q 11) 1800 it, aI ci (q 12) 8 sp, aI ci (q 13) 160 stk] s.heap.size = A at hD hO ⊢
  have hA : ∀ q : Nat, s.heap.size ≤ q → A q := fun q h => by rw [← hAe]; exact Or.inr h
  have ok := ok0
  refine startH (A := A) (fun H locs hP hS => ?_) hP
  have hi_X9 := (by decide +kernel : ∀ w ∈ wsX90, w ∈ wsX9_width)
  have f_54 := hts (.fieldLink RX9 54 "PageReaderModel" "refusal" "I") (by decide +kernel)
  have f_13 := hts (.fieldLink RX9 13 "PageReaderModel" "widths" "[I") (by decide +kernel)
  have hl := lv_entry ([.ref (q 0), .int x, .int y, .int z]) (n := 4) (Nat.le_of_ble_eq_true rfl)
  rw [lg_entry_eq]
  generalize (lg_sl ([.ref (q 0), .int x, .int y, .int z]) ++ List.replicate (4 - (lg_sl ([.ref (q 0), .int x, .int y, .int z])).length) Slot.unset).toArray = ls at hl ⊢
  have hl : lv_has ls 4 [(0, .ref (q 0)), (1, .int x), (2, .int y), (3, .int z)] := hl
  refine lv_aload_n hx hb dX9_width_0 rfl (lv_at hl 0 rfl) ?_
  refine lv_iconst (v := nI 0) hx hb dX9_width_1 (by decide) ?_
  refine va_put (D := G) (ci := 8) (v := .int (nI 0)) (ty := .int) (C := RX9) (T := TX9) (N := 30) hx hb hts hi_X9 tyX9 tyX9_ok nmX9 hown hK hP hD hS 0 rfl rfl 0 (by decide) f_54 (fun _ h9 => h9) rfl (by decide +kernel) rfl rfl (Nat.le_of_ble_eq_true rfl) dX9_width_2 (fun H locs hP hD hS => ?_)
  have hP : va_P G vwCl [oM q (nI 0) n num den mag fac who fnd pc ic a sta lb la fo dee kc, aI ci (q 1) 600 fl, aI ci (q 2) 1024 wd, aI cz (q 3) 8 df, aI cz (q 4) 8 ag, aI ci (q 5) 8 mk, aI ci (q 6) 8 sc, aI ci (q 7) 12 nu, aI ci (q 8) 12 co, aI ci (q 9) 12 fi, aI ci (q 10) 12 ad, aI ci (q 11) 1800 it, aI ci (q 12) 8 sp, aI ci (q 13) 160 stk] H := hP
  have hD : va_D A [oM q (nI 0) n num den mag fac who fnd pc ic a sta lb la fo dee kc, aI ci (q 1) 600 fl, aI ci (q 2) 1024 wd, aI cz (q 3) 8 df, aI cz (q 4) 8 ag, aI ci (q 5) 8 mk, aI ci (q 6) 8 sc, aI ci (q 7) 12 nu, aI ci (q 8) 12 co, aI ci (q 9) 12 fi, aI ci (q 10) 12 ad, aI ci (q 11) 1800 it, aI ci (q 12) 8 sp, aI ci (q 13) 160 stk] := hD
  refine lv_iload_n hx hb dX9_width_5 rfl (lv_at hl 1 rfl) ?_
  refine lv_if_lt (tgt := 39) hx hb dX9_width_6 (by decide) (fun c_1 => ?_) (fun c_1 => ?_)
  · skip
    have z_1 := (i_lt x (nI 0)).mp c_1
    rw [nI_toInt (n := 0) (by omega)] at z_1
    refine lv_iconst (v := nI 0) hx hb dX9_width_39 (by decide) ?_
    exact rI (v := nI 0) hx hb hr hlocks nb0 hK hP hD hS [0, 1, 2, 3, 4, 5, 6, 7, 8, 9, 10, 11, 12, 13] (0, nI 0, wd) rfl (by decide) ⟨rfl, rfl, Or.inr ⟨rfl, rfl, by (try dsimp only); omega⟩⟩ dX9_width_40
  · skip
    have z_1 := mt (i_lt x (nI 0)).mpr c_1
    rw [nI_toInt (n := 0) (by omega)] at z_1
    refine lv_iload_n hx hb dX9_width_9 rfl (lv_at hl 1 rfl) ?_
    refine lv_bipush (v := nI 7) hx hb dX9_width_10 (by decide) ?_
    refine lv_icmp_gt (tgt := 39) hx hb dX9_width_12 (by decide) (fun c_2 => ?_) (fun c_2 => ?_)
    · skip
      have z_2 := (i_lt (nI 7) x).mp c_2
      rw [nI_toInt (n := 7) (by omega)] at z_2
      refine lv_iconst (v := nI 0) hx hb dX9_width_39 (by decide) ?_
      exact rI (v := nI 0) hx hb hr hlocks nb0 hK hP hD hS [0, 1, 2, 3, 4, 5, 6, 7, 8, 9, 10, 11, 12, 13] (0, nI 0, wd) rfl (by decide) ⟨rfl, rfl, Or.inr ⟨rfl, rfl, by (try dsimp only); omega⟩⟩ dX9_width_40
    · skip
      have z_2 := mt (i_lt (nI 7) x).mpr c_2
      rw [nI_toInt (n := 7) (by omega)] at z_2
      refine lv_iload_n hx hb dX9_width_15 rfl (lv_at hl 2 rfl) ?_
      refine lv_if_lt (tgt := 39) hx hb dX9_width_16 (by decide) (fun c_3 => ?_) (fun c_3 => ?_)
      · skip
        have z_3 := (i_lt y (nI 0)).mp c_3
        rw [nI_toInt (n := 0) (by omega)] at z_3
        refine lv_iconst (v := nI 0) hx hb dX9_width_39 (by decide) ?_
        exact rI (v := nI 0) hx hb hr hlocks nb0 hK hP hD hS [0, 1, 2, 3, 4, 5, 6, 7, 8, 9, 10, 11, 12, 13] (0, nI 0, wd) rfl (by decide) ⟨rfl, rfl, Or.inr ⟨rfl, rfl, by (try dsimp only); omega⟩⟩ dX9_width_40
      · skip
        have z_3 := mt (i_lt y (nI 0)).mpr c_3
        rw [nI_toInt (n := 0) (by omega)] at z_3
        refine lv_iload_n hx hb dX9_width_19 rfl (lv_at hl 2 rfl) ?_
        refine lv_bipush (v := nI 127) hx hb dX9_width_20 (by decide) ?_
        refine lv_icmp_gt (tgt := 39) hx hb dX9_width_22 (by decide) (fun c_4 => ?_) (fun c_4 => ?_)
        · skip
          have z_4 := (i_lt (nI 127) y).mp c_4
          rw [nI_toInt (n := 127) (by omega)] at z_4
          refine lv_iconst (v := nI 0) hx hb dX9_width_39 (by decide) ?_
          exact rI (v := nI 0) hx hb hr hlocks nb0 hK hP hD hS [0, 1, 2, 3, 4, 5, 6, 7, 8, 9, 10, 11, 12, 13] (0, nI 0, wd) rfl (by decide) ⟨rfl, rfl, Or.inr ⟨rfl, rfl, by (try dsimp only); omega⟩⟩ dX9_width_40
        · skip
          have z_4 := mt (i_lt (nI 127) y).mpr c_4
          rw [nI_toInt (n := 127) (by omega)] at z_4
          refine lv_iload_n hx hb dX9_width_25 rfl (lv_at hl 3 rfl) ?_
          refine lv_sipush (v := (-30000)) hx hb dX9_width_26 (by decide) ?_
          refine lv_icmp_lt (tgt := 39) hx hb dX9_width_29 (by decide) (fun c_5 => ?_) (fun c_5 => ?_)
          · skip
            have z_5 := (i_lt z (-30000)).mp c_5
            rw [show ((-30000) : Int32).toInt = (-30000) from by decide] at z_5
            refine lv_iconst (v := nI 0) hx hb dX9_width_39 (by decide) ?_
            exact rI (v := nI 0) hx hb hr hlocks nb0 hK hP hD hS [0, 1, 2, 3, 4, 5, 6, 7, 8, 9, 10, 11, 12, 13] (0, nI 0, wd) rfl (by decide) ⟨rfl, rfl, Or.inr ⟨rfl, rfl, by (try dsimp only); omega⟩⟩ dX9_width_40
          · skip
            have z_5 := mt (i_lt z (-30000)).mpr c_5
            rw [show ((-30000) : Int32).toInt = (-30000) from by decide] at z_5
            refine lv_iload_n hx hb dX9_width_32 rfl (lv_at hl 3 rfl) ?_
            refine lv_sipush (v := nI 30000) hx hb dX9_width_33 (by decide) ?_
            refine lv_icmp_le (tgt := 41) hx hb dX9_width_36 (by decide) (fun c_6 => ?_) (fun c_6 => ?_)
            · skip
              have z_6 := (i_le z (nI 30000)).mp c_6
              rw [nI_toInt (n := 30000) (by omega)] at z_6
              obtain ⟨x9, hx1, hx2, hx3⟩ := i_nonneg (x := x) (by omega)
              obtain ⟨y9, hy1, hy2, hy3⟩ := i_nonneg (x := y) (by omega)
              refine lv_aload_n hx hb dX9_width_41 rfl (lv_at hl 0 rfl) ?_
              refine va_get (D := G) (ci := 8) (v := .ref (q 2)) (C := RX9) (T := TX9) (N := 30) hx hb hts hi_X9 hown hK hP 0 rfl rfl 3 (by decide) f_13 (fun _ h9 => h9) rfl dX9_width_42 ?_
              refine lv_sipush (v := nI 128) hx hb dX9_width_45 (by decide) ?_
              refine lv_iload_n hx hb dX9_width_48 rfl (lv_at hl 1 rfl) ?_
              refine tp (y := nI x9) hx2 ?_
              refine lv_imul hx hb dX9_width_49 ?_
              refine tp (pk_mul _ _) ?_
              refine lv_iload_n hx hb dX9_width_50 rfl (lv_at hl 2 rfl) ?_
              refine tp (y := nI y9) hy2 ?_
              refine lv_iadd hx hb dX9_width_51 ?_
              refine tp (nI_add _ _) ?_
              refine lv_iload_n hx hb dX9_width_52 rfl (lv_at hl 3 rfl) ?_
              refine va_iast hx hb hK hP hD hS 2 0 rfl rfl (vp_in_nI (by omega) (by omega)) dX9_width_53 (fun H locs hP hD hS => ?_)
              rw [nI_clamp (by omega)] at hP hD
              have hP : va_P G vwCl [oM q (nI 0) n num den mag fac who fnd pc ic a sta lb la fo dee kc, aI ci (q 1) 600 fl, aI ci (q 2) 1024 (upd wd ((128 * x9) + y9) z), aI cz (q 3) 8 df, aI cz (q 4) 8 ag, aI ci (q 5) 8 mk, aI ci (q 6) 8 sc, aI ci (q 7) 12 nu, aI ci (q 8) 12 co, aI ci (q 9) 12 fi, aI ci (q 10) 12 ad, aI ci (q 11) 1800 it, aI ci (q 12) 8 sp, aI ci (q 13) 160 stk] H := hP
              have hD : va_D A [oM q (nI 0) n num den mag fac who fnd pc ic a sta lb la fo dee kc, aI ci (q 1) 600 fl, aI ci (q 2) 1024 (upd wd ((128 * x9) + y9) z), aI cz (q 3) 8 df, aI cz (q 4) 8 ag, aI ci (q 5) 8 mk, aI ci (q 6) 8 sc, aI ci (q 7) 12 nu, aI ci (q 8) 12 co, aI ci (q 9) 12 fi, aI ci (q 10) 12 ad, aI ci (q 11) 1800 it, aI ci (q 12) 8 sp, aI ci (q 13) 160 stk] := hD
              refine lv_iconst (v := nI 1) hx hb dX9_width_54 (by decide) ?_
              exact rI (v := nI 1) hx hb hr hlocks nb1 hK hP hD hS [0, 1, 2, 3, 4, 5, 6, 7, 8, 9, 10, 11, 12, 13] (1, nI 0, upd wd ((128 * x9) + y9) z) rfl (by decide) ⟨rfl, rfl, Or.inl ⟨rfl, x9, y9, hx2, hy2, by (try dsimp only); omega, by (try dsimp only); omega, by (try dsimp only); omega, by (try dsimp only); omega, rfl⟩⟩ dX9_width_55
            · skip
              have z_6 := mt (i_le z (nI 30000)).mpr c_6
              rw [nI_toInt (n := 30000) (by omega)] at z_6
              refine lv_iconst (v := nI 0) hx hb dX9_width_39 (by decide) ?_
              exact rI (v := nI 0) hx hb hr hlocks nb0 hK hP hD hS [0, 1, 2, 3, 4, 5, 6, 7, 8, 9, 10, 11, 12, 13] (0, nI 0, wd) rfl (by decide) ⟨rfl, rfl, Or.inr ⟨rfl, rfl, by (try dsimp only); omega⟩⟩ dX9_width_40
set_option maxHeartbeats 4000000 in
set_option maxRecDepth 100000 in
theorem c_X9_numberAt (l : Launch) (G : va_G) (ci cz cl : ClassId) (q : Nat → Nat) (sz : Nat) (aa : Nat) (k : Nat) (ref : Int32) (n : Nat) (num : Nat) (den : Nat) (mag : Nat) (fac : UInt64) (who : Nat) (fnd : Int32) (pc : Nat) (ic : Nat) (a : Nat) (sta : Nat) (lb : Nat) (la : Nat) (fo : Int32) (dee : Nat) (kc : Nat) (fl : Nat → Int32) (wd : Nat → Int32) (df : Nat → Int32) (ag : Nat → Int32) (mk : Nat → Int32) (sc : Nat → Int32) (nu : Nat → Int32) (co : Nat → Int32) (fi : Nat → Int32) (ad : Nat → Int32) (it : Nat → Int32) (sp : Nat → Int32) (stk : Nat → Int32) (hn : n ≤ 600) (hB : FB fl) (haa : aa + k ≤ n) (hk : k ≤ 3) : CtI l yX9_numberAt wsX9_numberAt ({ frames := 0, cells := 0, slots := 0, locals := 0 }) G (TY ci cz cl) O0 [.ref (q 0), .int (nI aa), .int (nI k)] [oM q ref n num den mag fac who fnd pc ic a sta lb la fo dee kc, aI ci (q 1) 600 fl, aI ci (q 2) 1024 wd, aI cz (q 3) 8 df, aI cz (q 4) 8 ag, aI ci (q 5) 8 mk, aI ci (q 6) 8 sc, aI ci (q 7) 12 nu, aI ci (q 8) 12 co, aI ci (q 9) 12 fi, aI ci (q 10) 12 ad, aI ci (q 11) 1800 it, aI ci (q 12) 8 sp, aI ci (q 13) 160 stk] sz (fun (r : Int32) (u : Unit) => r = nI (rdN fl n aa k) ∧ rdN fl n aa k ≤ 16777215) (fun u : Unit => [oM q ref n num den mag fac who fnd pc ic a sta lb la fo dee kc, aI ci (q 1) 600 fl, aI ci (q 2) 1024 wd, aI cz (q 3) 8 df, aI cz (q 4) 8 ag, aI ci (q 5) 8 mk, aI ci (q 6) 8 sc, aI ci (q 7) 12 nu, aI ci (q 8) 12 co, aI ci (q 9) 12 fi, aI ci (q 10) 12 ad, aI ci (q 11) 1800 it, aI ci (q 12) 8 sp, aI ci (q 13) 160 stk]) 0 0 := by
  refine Met.ofW (cc := cX9_numberAt) (maxL := 5) (ret := (some .int)) (by decide) rfl ?_
  intro p e s m args below meth c s₁ B hml hv
  obtain ⟨rfl, ⟨hsz, hP, hK, hD0⟩, hO⟩ := hv
  have hx := B.exec
  have hb := B.bytes
  have hr := B.returns
  have hts := atoms_spec (ws := wsX9_numberAt) B.pre
  have hown : s.vm.findClass RX9 = some m.cls := findClass_of_methodNamed B.named
  have hlocks := B.notSynchronized
  subst hsz
  have hD := hD0.self (sz := s.heap.size)
  generalize hAe : va_A [oM q ref n num den mag fac who fnd pc ic a sta lb la fo dee kc, aI ci (q 1) 600 fl, aI ci (q 2) 1024 wd, aI cz (q 3) 8 df, aI cz (q 4) 8 ag, aI ci (q 5) 8 mk, aI ci (q 6) 8 sc, aI ci (q 7) 12 nu, aI ci (q 8) 12 co, aI ci (q 9) 12 fi, aI ci (q 10) 12 ad, aI ci (q 11) 1800 it, aI ci (q 12) 8 sp, aI ci (q 13) 160 stk] s.heap.size = A at hD hO ⊢
  have hA : ∀ q : Nat, s.heap.size ≤ q → A q := fun q h => by rw [← hAe]; exact Or.inr h
  have ok := ok0
  refine startH (A := A) (fun H locs hP hS => ?_) hP
  have hi_X9 := (by decide +kernel : ∀ w ∈ wsX90, w ∈ wsX9_numberAt)
  have f_7 := hts (.fieldLink RX9 7 "PageReaderModel" "file" "[I") (by decide +kernel)
  have hl := lv_entry ([.ref (q 0), .int (nI aa), .int (nI k)]) (n := 5) (Nat.le_of_ble_eq_true rfl)
  rw [lg_entry_eq]
  generalize (lg_sl ([.ref (q 0), .int (nI aa), .int (nI k)]) ++ List.replicate (5 - (lg_sl ([.ref (q 0), .int (nI aa), .int (nI k)])).length) Slot.unset).toArray = ls at hl ⊢
  have hl : lv_has ls 5 [(0, .ref (q 0)), (1, .int (nI aa)), (2, .int (nI k))] := hl
  refine lv_iconst (v := nI 0) hx hb dX9_numberAt_0 (by decide) ?_
  refine lv_istore_n (lv' := [(3, .int (nI 0)), (0, .ref (q 0)), (1, .int (nI aa)), (2, .int (nI k))]) hx hb dX9_numberAt_1 rfl hl (by decide) rfl (fun ls hl => ?_)
  refine lv_iload_n hx hb dX9_numberAt_2 rfl (lv_at hl 2 rfl) ?_
  refine lv_istore (lv' := [(4, .int (nI aa)), (3, .int (nI 0)), (0, .ref (q 0)), (1, .int (nI aa)), (2, .int (nI k))]) hx hb dX9_numberAt_3 hl (by decide) rfl (fun ls hl => ?_)
  have loop_5 : ∀ (fuel : Nat) (i : Nat) (H : Heap) (locs : List Loc), k - i < fuel → (i ≤ k) → va_P G vwCl [oM q ref n num den mag fac who fnd pc ic a sta lb la fo dee kc, aI ci (q 1) 600 fl, aI ci (q 2) 1024 wd, aI cz (q 3) 8 df, aI cz (q 4) 8 ag, aI ci (q 5) 8 mk, aI ci (q 6) 8 sc, aI ci (q 7) 12 nu, aI ci (q 8) 12 co, aI ci (q 9) 12 fi, aI ci (q 10) 12 ad, aI ci (q 11) 1800 it, aI ci (q 12) 8 sp, aI ci (q 13) 160 stk] H → va_D A [oM q ref n num den mag fac who fnd pc ic a sta lb la fo dee kc, aI ci (q 1) 600 fl, aI ci (q 2) 1024 wd, aI cz (q 3) 8 df, aI cz (q 4) 8 ag, aI ci (q 5) 8 mk, aI ci (q 6) 8 sc, aI ci (q 7) 12 nu, aI ci (q 8) 12 co, aI ci (q 9) 12 fi, aI ci (q 10) 12 ad, aI ci (q 11) 1800 it, aI ci (q 12) 8 sp, aI ci (q 13) 160 stk] → va_S A s.heap H locs → ∀ ls : Array Slot, lv_has ls 5 [(0, .ref (q 0)), (1, .int (nI aa)), (2, .int (nI k)), (3, .int (nI (rdN fl n aa i))), (4, .int (nI (aa + i)))] → W p l e (headSpec wsX9_numberAt ({ frames := 0, cells := 0, slots := 0, locals := 0 })).room s m ([.ref (q 0), .int (nI aa), .int (nI k)] : List Value).toArray below meth c H locs 0 0 (MQ below (va_Qi (fun (r : Int32) (u : Unit) => r = nI (rdN fl n aa k) ∧ rdN fl n aa k ≤ 16777215) (fun u t => PQ G (TY ci cz cl) A [oM q ref n num den mag fac who fnd pc ic a sta lb la fo dee kc, aI ci (q 1) 600 fl, aI ci (q 2) 1024 wd, aI cz (q 3) 8 df, aI cz (q 4) 8 ag, aI ci (q 5) 8 mk, aI ci (q 6) 8 sc, aI ci (q 7) 12 nu, aI ci (q 8) 12 co, aI ci (q 9) 12 fi, aI ci (q 10) 12 ad, aI ci (q 11) 1800 it, aI ci (q 12) 8 sp, aI ci (q 13) 160 stk] t) A) ([.ref (q 0), .int (nI aa), .int (nI k)] : List Value).toArray s 0 0 A) (F0 m 5 ls []) := by
    intro fuel
    induction fuel with
    | zero => intro i H locs hf; exact absurd hf (by omega)
    | succ fuel ih =>
      intro i H locs hf hi hP hD hS ls hl
      refine lv_iload hx hb dX9_numberAt_5 (lv_at hl 4 rfl) ?_
      refine lv_iload_n hx hb dX9_numberAt_7 rfl (lv_at hl 1 rfl) ?_
      refine lv_iload_n hx hb dX9_numberAt_8 rfl (lv_at hl 2 rfl) ?_
      refine lv_iadd hx hb dX9_numberAt_9 ?_
      refine tp (nI_add _ _) ?_
      refine lv_icmp_ge (tgt := 33) hx hb dX9_numberAt_10 (by decide) (fun c_1 => ?_) (fun c_1 => ?_)
      · skip
        have z_1 := (nI_leI (a := (aa + k)) (b := (aa + i)) (by omega) (by omega)).mp c_1
        refine lv_iload_n hx hb dX9_numberAt_33 rfl (lv_at hl 3 rfl) ?_
        exact rI (v := nI (rdN fl n aa i)) hx hb hr hlocks rfl hK hP hD hS [0, 1, 2, 3, 4, 5, 6, 7, 8, 9, 10, 11, 12, 13] () rfl (by decide) ⟨congrArg nI (congrArg (rdN fl n aa) (show i = k by (try dsimp only); omega)), rdN_3 hB n aa (by (try dsimp only); omega)⟩ dX9_numberAt_34
      · skip
        have z_1 := mt (nI_leI (a := (aa + k)) (b := (aa + i)) (by omega) (by omega)).mpr c_1
        refine lv_iload_n hx hb dX9_numberAt_13 rfl (lv_at hl 3 rfl) ?_
        refine lv_sipush (v := nI 256) hx hb dX9_numberAt_14 (by decide) ?_
        refine lv_imul hx hb dX9_numberAt_17 ?_
        refine tp (pk_mul _ _) ?_
        refine lv_aload_n hx hb dX9_numberAt_18 rfl (lv_at hl 0 rfl) ?_
        refine va_get (D := G) (ci := 8) (v := .ref (q 1)) (C := RX9) (T := TX9) (N := 30) hx hb hts hi_X9 hown hK hP 0 rfl rfl 1 (by decide) f_7 (fun _ h9 => h9) rfl dX9_numberAt_19 ?_
        refine lv_iload hx hb dX9_numberAt_22 (lv_at hl 4 rfl) ?_
        refine va_iald hx hb hK hP 1 0 rfl rfl (vp_in_nI (by omega) (by omega)) dX9_numberAt_24 ?_
        refine tp (y := fl (aa + i)) (congrArg fl (nI_clamp (by omega))) ?_
        refine lv_iadd hx hb dX9_numberAt_25 ?_
        refine tp (y := nI (rdN fl n aa (i + 1))) (rdN_add hB (by omega)) ?_
        refine lv_istore_n (lv' := [(3, .int (nI (rdN fl n aa (i + 1)))), (0, .ref (q 0)), (1, .int (nI aa)), (2, .int (nI k)), (4, .int (nI (aa + i)))]) hx hb dX9_numberAt_26 rfl hl (by decide) rfl (fun ls hl => ?_)
        refine lv_iinc (v := nI (aa + i + 1)) (lv' := [(4, .int (nI (aa + i + 1))), (3, .int (nI (rdN fl n aa (i + 1)))), (0, .ref (q 0)), (1, .int (nI aa)), (2, .int (nI k))]) hx hb dX9_numberAt_27 hl (k := 4) rfl (nI_add _ _) (by decide) rfl (fun ls hl => ?_)
        refine lv_goto (tgt := 5) hx hb dX9_numberAt_30 (by decide) ?_
        exact ih (i + 1) H locs (by omega) (by omega) (hP.sub [0, 1, 2, 3, 4, 5, 6, 7, 8, 9, 10, 11, 12, 13] rfl) (hD.sub [0, 1, 2, 3, 4, 5, 6, 7, 8, 9, 10, 11, 12, 13] (by decide) rfl) hS ls (lv_sub hl [2, 3, 4, 1, 0] rfl)
  exact loop_5 (k - 0 + 1) 0 H locs (Nat.lt_succ_self _) (by omega) (hP.sub [0, 1, 2, 3, 4, 5, 6, 7, 8, 9, 10, 11, 12, 13] rfl) (hD.sub [0, 1, 2, 3, 4, 5, 6, 7, 8, 9, 10, 11, 12, 13] (by decide) rfl) hS ls (lv_sub hl [2, 3, 4, 1, 0] rfl)
set_option maxHeartbeats 4000000 in
set_option maxRecDepth 100000 in
theorem c_X9_signedAt (l : Launch) (G : va_G) (ci cz cl : ClassId) (q : Nat → Nat) (sz : Nat) (aa : Nat) (k : Nat) (ref : Int32) (n : Nat) (num : Nat) (den : Nat) (mag : Nat) (fac : UInt64) (who : Nat) (fnd : Int32) (pc : Nat) (ic : Nat) (a : Nat) (sta : Nat) (lb : Nat) (la : Nat) (fo : Int32) (dee : Nat) (kc : Nat) (fl : Nat → Int32) (wd : Nat → Int32) (df : Nat → Int32) (ag : Nat → Int32) (mk : Nat → Int32) (sc : Nat → Int32) (nu : Nat → Int32) (co : Nat → Int32) (fi : Nat → Int32) (ad : Nat → Int32) (it : Nat → Int32) (sp : Nat → Int32) (stk : Nat → Int32) (hn : n ≤ 600) (hB : FB fl) (haa : aa + k ≤ n) (hk : 1 ≤ k ∧ k ≤ 3) : CtI l yX9_signedAt wsX9_signedAt ({ frames := 1, cells := 0, slots := 0, locals := 24 }) G (TY ci cz cl) O0 [.ref (q 0), .int (nI aa), .int (nI k)] [oM q ref n num den mag fac who fnd pc ic a sta lb la fo dee kc, aI ci (q 1) 600 fl, aI ci (q 2) 1024 wd, aI cz (q 3) 8 df, aI cz (q 4) 8 ag, aI ci (q 5) 8 mk, aI ci (q 6) 8 sc, aI ci (q 7) 12 nu, aI ci (q 8) 12 co, aI ci (q 9) 12 fi, aI ci (q 10) 12 ad, aI ci (q 11) 1800 it, aI ci (q 12) 8 sp, aI ci (q 13) 160 stk] sz (fun (r : Int32) (u : Unit) => r = rdS fl n aa k) (fun u : Unit => [oM q ref n num den mag fac who fnd pc ic a sta lb la fo dee kc, aI ci (q 1) 600 fl, aI ci (q 2) 1024 wd, aI cz (q 3) 8 df, aI cz (q 4) 8 ag, aI ci (q 5) 8 mk, aI ci (q 6) 8 sc, aI ci (q 7) 12 nu, aI ci (q 8) 12 co, aI ci (q 9) 12 fi, aI ci (q 10) 12 ad, aI ci (q 11) 1800 it, aI ci (q 12) 8 sp, aI ci (q 13) 160 stk]) 0 0 := by
  refine Met.ofW (cc := cX9_signedAt) (maxL := 6) (ret := (some .int)) (by decide) rfl ?_
  intro p e s m args below meth c s₁ B hml hv
  obtain ⟨rfl, ⟨hsz, hP, hK, hD0⟩, hO⟩ := hv
  have hx := B.exec
  have hb := B.bytes
  have hr := B.returns
  have hts := atoms_spec (ws := wsX9_signedAt) B.pre
  have hown : s.vm.findClass RX9 = some m.cls := findClass_of_methodNamed B.named
  have hlocks := B.notSynchronized
  subst hsz
  have hD := hD0.self (sz := s.heap.size)
  generalize hAe : va_A [oM q ref n num den mag fac who fnd pc ic a sta lb la fo dee kc, aI ci (q 1) 600 fl, aI ci (q 2) 1024 wd, aI cz (q 3) 8 df, aI cz (q 4) 8 ag, aI ci (q 5) 8 mk, aI ci (q 6) 8 sc, aI ci (q 7) 12 nu, aI ci (q 8) 12 co, aI ci (q 9) 12 fi, aI ci (q 10) 12 ad, aI ci (q 11) 1800 it, aI ci (q 12) 8 sp, aI ci (q 13) 160 stk] s.heap.size = A at hD hO ⊢
  have hA : ∀ q : Nat, s.heap.size ≤ q → A q := fun q h => by rw [← hAe]; exact Or.inr h
  have ok := ok0
  refine startH (A := A) (fun H locs hP hS => ?_) hP
  have hl := lv_entry ([.ref (q 0), .int (nI aa), .int (nI k)]) (n := 6) (Nat.le_of_ble_eq_true rfl)
  rw [lg_entry_eq]
  generalize (lg_sl ([.ref (q 0), .int (nI aa), .int (nI k)]) ++ List.replicate (6 - (lg_sl ([.ref (q 0), .int (nI aa), .int (nI k)])).length) Slot.unset).toArray = ls at hl ⊢
  have hl : lv_has ls 6 [(0, .ref (q 0)), (1, .int (nI aa)), (2, .int (nI k))] := hl
  refine lv_aload_n hx hb dX9_signedAt_0 rfl (lv_at hl 0 rfl) ?_
  refine lv_iload_n hx hb dX9_signedAt_1 rfl (lv_at hl 1 rfl) ?_
  refine lv_iload_n hx hb dX9_signedAt_2 rfl (lv_at hl 2 rfl) ?_
  refine jI (va_runV (As := [.int (nI aa), .int (nI k)]) (rest := []) ⟨hx, hb, hml, hown, hts⟩ (c_X9_numberAt l G ci cz cl q H.size aa k ref n num den mag fac who fnd pc ic a sta lb la fo dee kc fl wd df ag mk sc nu co fi ad it sp stk (by omega) hB (by omega) (by omega)) (cwV 2 hts gX9_signedAt_X9_numberAt rfl rfl rfl (by decide +kernel) ⟨(Nat.le_of_ble_eq_true rfl), (Nat.le_of_ble_eq_true rfl)⟩) (pV (wc := [oM q ref n num den mag fac who fnd pc ic a sta lb la fo dee kc, aI ci (q 1) 600 fl, aI ci (q 2) 1024 wd, aI cz (q 3) 8 df, aI cz (q 4) 8 ag, aI ci (q 5) 8 mk, aI ci (q 6) 8 sc, aI ci (q 7) 12 nu, aI ci (q 8) 12 co, aI ci (q 9) 12 fi, aI ci (q 10) 12 ad, aI ci (q 11) 1800 it, aI ci (q 12) 8 sp, aI ci (q 13) 160 stk]) ok hK hP hD hS hA hO [0, 1, 2, 3, 4, 5, 6, 7, 8, 9, 10, 11, 12, 13] rfl (by decide) 0 rfl rfl) rfl rfl hl.1 rfl (lv_room (Nat.le_of_ble_eq_true rfl)) dX9_signedAt_3 ⟨(Nat.le_of_ble_eq_true rfl), (Nat.le_of_ble_eq_true rfl)⟩) (wr := []) hP hD hS hA [0, 1, 2, 3, 4, 5, 6, 7, 8, 9, 10, 11, 12, 13] [] rfl rfl (by decide) (by decide) (fun r_1 u H locs hw_1 hP hD hS => ?_)
  try dsimp only at hw_1
  obtain ⟨rfl, h_1⟩ := hw_1
  have hP : va_P G vwCl [oM q ref n num den mag fac who fnd pc ic a sta lb la fo dee kc, aI ci (q 1) 600 fl, aI ci (q 2) 1024 wd, aI cz (q 3) 8 df, aI cz (q 4) 8 ag, aI ci (q 5) 8 mk, aI ci (q 6) 8 sc, aI ci (q 7) 12 nu, aI ci (q 8) 12 co, aI ci (q 9) 12 fi, aI ci (q 10) 12 ad, aI ci (q 11) 1800 it, aI ci (q 12) 8 sp, aI ci (q 13) 160 stk] H := hP
  have hD : va_D A [oM q ref n num den mag fac who fnd pc ic a sta lb la fo dee kc, aI ci (q 1) 600 fl, aI ci (q 2) 1024 wd, aI cz (q 3) 8 df, aI cz (q 4) 8 ag, aI ci (q 5) 8 mk, aI ci (q 6) 8 sc, aI ci (q 7) 12 nu, aI ci (q 8) 12 co, aI ci (q 9) 12 fi, aI ci (q 10) 12 ad, aI ci (q 11) 1800 it, aI ci (q 12) 8 sp, aI ci (q 13) 160 stk] := hD
  refine lv_istore_n (lv' := [(3, .int (nI (rdN fl n aa k))), (0, .ref (q 0)), (1, .int (nI aa)), (2, .int (nI k))]) hx hb dX9_signedAt_6 rfl hl (by decide) rfl (fun ls hl => ?_)
  refine lv_sipush (v := nI 128) hx hb dX9_signedAt_7 (by decide) ?_
  refine lv_istore (lv' := [(4, .int (nI 128)), (3, .int (nI (rdN fl n aa k))), (0, .ref (q 0)), (1, .int (nI aa)), (2, .int (nI k))]) hx hb dX9_signedAt_10 hl (by decide) rfl (fun ls hl => ?_)
  refine lv_iconst (v := nI 1) hx hb dX9_signedAt_12 (by decide) ?_
  refine lv_istore (lv' := [(5, .int (nI 1)), (4, .int (nI 128)), (3, .int (nI (rdN fl n aa k))), (0, .ref (q 0)), (1, .int (nI aa)), (2, .int (nI k))]) hx hb dX9_signedAt_13 hl (by decide) rfl (fun ls hl => ?_)
  have loop_15 : ∀ (fuel : Nat) (i : Nat) (H : Heap) (locs : List Loc), k - i < fuel → (1 ≤ i ∧ i ≤ k) → va_P G vwCl [oM q ref n num den mag fac who fnd pc ic a sta lb la fo dee kc, aI ci (q 1) 600 fl, aI ci (q 2) 1024 wd, aI cz (q 3) 8 df, aI cz (q 4) 8 ag, aI ci (q 5) 8 mk, aI ci (q 6) 8 sc, aI ci (q 7) 12 nu, aI ci (q 8) 12 co, aI ci (q 9) 12 fi, aI ci (q 10) 12 ad, aI ci (q 11) 1800 it, aI ci (q 12) 8 sp, aI ci (q 13) 160 stk] H → va_D A [oM q ref n num den mag fac who fnd pc ic a sta lb la fo dee kc, aI ci (q 1) 600 fl, aI ci (q 2) 1024 wd, aI cz (q 3) 8 df, aI cz (q 4) 8 ag, aI ci (q 5) 8 mk, aI ci (q 6) 8 sc, aI ci (q 7) 12 nu, aI ci (q 8) 12 co, aI ci (q 9) 12 fi, aI ci (q 10) 12 ad, aI ci (q 11) 1800 it, aI ci (q 12) 8 sp, aI ci (q 13) 160 stk] → va_S A s.heap H locs → ∀ ls : Array Slot, lv_has ls 6 [(0, .ref (q 0)), (1, .int (nI aa)), (2, .int (nI k)), (3, .int (nI (rdN fl n aa k))), (4, .int (nI (hlf i))), (5, .int (nI i))] → W p l e (headSpec wsX9_signedAt ({ frames := 1, cells := 0, slots := 0, locals := 24 })).room s m ([.ref (q 0), .int (nI aa), .int (nI k)] : List Value).toArray below meth c H locs 0 0 (MQ below (va_Qi (fun (r : Int32) (u : Unit) => r = rdS fl n aa k) (fun u t => PQ G (TY ci cz cl) A [oM q ref n num den mag fac who fnd pc ic a sta lb la fo dee kc, aI ci (q 1) 600 fl, aI ci (q 2) 1024 wd, aI cz (q 3) 8 df, aI cz (q 4) 8 ag, aI ci (q 5) 8 mk, aI ci (q 6) 8 sc, aI ci (q 7) 12 nu, aI ci (q 8) 12 co, aI ci (q 9) 12 fi, aI ci (q 10) 12 ad, aI ci (q 11) 1800 it, aI ci (q 12) 8 sp, aI ci (q 13) 160 stk] t) A) ([.ref (q 0), .int (nI aa), .int (nI k)] : List Value).toArray s 0 0 A) (F0 m 15 ls []) := by
    intro fuel
    induction fuel with
    | zero => intro i H locs hf; exact absurd hf (by omega)
    | succ fuel ih =>
      intro i H locs hf hi hP hD hS ls hl
      refine lv_iload hx hb dX9_signedAt_15 (lv_at hl 5 rfl) ?_
      refine lv_iload_n hx hb dX9_signedAt_17 rfl (lv_at hl 2 rfl) ?_
      refine lv_icmp_ge (tgt := 35) hx hb dX9_signedAt_18 (by decide) (fun c_2 => ?_) (fun c_2 => ?_)
      · skip
        have z_2 := (nI_leI (a := k) (b := i) (by omega) (by omega)).mp c_2
        have hh := hlf_le (i := k) (by omega)
        refine lv_iload_n hx hb dX9_signedAt_35 rfl (lv_at hl 3 rfl) ?_
        refine lv_iload hx hb dX9_signedAt_36 (lv_at hl 4 rfl) ?_
        refine tp (y := nI (hlf k)) (congrArg (fun z => nI (hlf z)) (show i = k by omega)) ?_
        refine lv_icmp_ge (tgt := 45) hx hb dX9_signedAt_38 (by decide) (fun c_3 => ?_) (fun c_3 => ?_)
        · skip
          have z_3 := (nI_leI (a := (hlf k)) (b := (rdN fl n aa k)) (by omega) (by omega)).mp c_3
          refine lv_iload_n hx hb dX9_signedAt_45 rfl (lv_at hl 3 rfl) ?_
          refine lv_iconst (v := nI 2) hx hb dX9_signedAt_46 (by decide) ?_
          refine lv_iload hx hb dX9_signedAt_47 (lv_at hl 4 rfl) ?_
          refine tp (y := nI (hlf k)) (congrArg (fun z => nI (hlf z)) (show i = k by omega)) ?_
          refine lv_imul hx hb dX9_signedAt_49 ?_
          refine tp (pk_mul _ _) ?_
          refine lv_isub hx hb dX9_signedAt_50 ?_
          exact rI (v := (nI (rdN fl n aa k)) - (nI (2 * (hlf k)))) hx hb hr hlocks rfl hK hP hD hS [0, 1, 2, 3, 4, 5, 6, 7, 8, 9, 10, 11, 12, 13] () rfl (by decide) (by unfold rdS; rw [if_neg (by (try dsimp only); omega)]) dX9_signedAt_51
        · skip
          have z_3 := mt (nI_leI (a := (hlf k)) (b := (rdN fl n aa k)) (by omega) (by omega)).mpr c_3
          refine lv_iload_n hx hb dX9_signedAt_41 rfl (lv_at hl 3 rfl) ?_
          refine lv_goto (tgt := 51) hx hb dX9_signedAt_42 (by decide) ?_
          exact rI (v := nI (rdN fl n aa k)) hx hb hr hlocks rfl hK hP hD hS [0, 1, 2, 3, 4, 5, 6, 7, 8, 9, 10, 11, 12, 13] () rfl (by decide) (by unfold rdS; rw [if_pos (by (try dsimp only); omega)]) dX9_signedAt_51
      · skip
        have z_2 := mt (nI_leI (a := k) (b := i) (by omega) (by omega)).mpr c_2
        refine lv_iload hx hb dX9_signedAt_21 (lv_at hl 4 rfl) ?_
        refine lv_sipush (v := nI 256) hx hb dX9_signedAt_23 (by decide) ?_
        refine lv_imul hx hb dX9_signedAt_26 ?_
        refine tp (pk_mul _ _) ?_
        refine tp (y := nI (hlf (i + 1))) (congrArg nI (hlf_s (by omega)).symm) ?_
        refine lv_istore (lv' := [(4, .int (nI (hlf (i + 1)))), (0, .ref (q 0)), (1, .int (nI aa)), (2, .int (nI k)), (3, .int (nI (rdN fl n aa k))), (5, .int (nI i))]) hx hb dX9_signedAt_27 hl (by decide) rfl (fun ls hl => ?_)
        refine lv_iinc (v := nI (i + 1)) (lv' := [(5, .int (nI (i + 1))), (4, .int (nI (hlf (i + 1)))), (0, .ref (q 0)), (1, .int (nI aa)), (2, .int (nI k)), (3, .int (nI (rdN fl n aa k)))]) hx hb dX9_signedAt_29 hl (k := 5) rfl (nI_add _ _) (by decide) rfl (fun ls hl => ?_)
        refine lv_goto (tgt := 15) hx hb dX9_signedAt_32 (by decide) ?_
        exact ih (i + 1) H locs (by omega) (by omega) (hP.sub [0, 1, 2, 3, 4, 5, 6, 7, 8, 9, 10, 11, 12, 13] rfl) (hD.sub [0, 1, 2, 3, 4, 5, 6, 7, 8, 9, 10, 11, 12, 13] (by decide) rfl) hS ls (lv_sub hl [2, 3, 4, 5, 1, 0] rfl)
  exact loop_15 (k - 1 + 1) 1 H locs (Nat.lt_succ_self _) (by omega) (hP.sub [0, 1, 2, 3, 4, 5, 6, 7, 8, 9, 10, 11, 12, 13] rfl) (hD.sub [0, 1, 2, 3, 4, 5, 6, 7, 8, 9, 10, 11, 12, 13] (by decide) rfl) hS ls (lv_sub hl [3, 4, 5, 2, 1, 0] rfl)
set_option maxHeartbeats 4000000 in
set_option maxRecDepth 100000 in
theorem c_X9_movesBehind (l : Launch) (G : va_G) (ci cz cl : ClassId) (q : Nat → Nat) (sz : Nat) (k : Nat) (hk : 136 ≤ k ∧ k ≤ 157) : CtI l yX9_movesBehind wsX9_movesBehind ({ frames := 0, cells := 0, slots := 0, locals := 0 }) G (TY ci cz cl) O0 [.int (nI k)] [] sz (fun (r : Int32) (u : Unit) => r = nI (tbk k) ∧ tbk k ≤ 3) (fun u : Unit => []) 0 0 := by
  refine Met.ofW (cc := cX9_movesBehind) (maxL := 1) (ret := (some .int)) (by decide) rfl ?_
  intro p e s m args below meth c s₁ B hml hv
  obtain ⟨rfl, ⟨hsz, hP, hK, hD0⟩, hO⟩ := hv
  have hx := B.exec
  have hb := B.bytes
  have hr := B.returns
  have hts := atoms_spec (ws := wsX9_movesBehind) B.pre
  have hown : s.vm.findClass RX9 = some m.cls := findClass_of_methodNamed B.named
  have hlocks := B.notSynchronized
  subst hsz
  have hD := hD0.self (sz := s.heap.size)
  generalize hAe : va_A [] s.heap.size = A at hD hO ⊢
  have hA : ∀ q : Nat, s.heap.size ≤ q → A q := fun q h => by rw [← hAe]; exact Or.inr h
  have ok := ok0
  refine startH (A := A) (fun H locs hP hS => ?_) hP
  have hl := lv_entry ([.int (nI k)]) (n := 1) (Nat.le_of_ble_eq_true rfl)
  rw [lg_entry_eq]
  generalize (lg_sl ([.int (nI k)]) ++ List.replicate (1 - (lg_sl ([.int (nI k)])).length) Slot.unset).toArray = ls at hl ⊢
  have hl : lv_has ls 1 [(0, .int (nI k))] := hl
  refine lv_iload_n hx hb dX9_movesBehind_0 rfl (lv_at hl 0 rfl) ?_
  refine lv_sipush (v := nI 138) hx hb dX9_movesBehind_1 (by decide) ?_
  refine lv_icmp_gt (tgt := 13) hx hb dX9_movesBehind_4 (by decide) (fun c_1 => ?_) (fun c_1 => ?_)
  · skip
    have z_1 := (nI_ltI (a := 138) (b := k) (by omega) (by omega)).mp c_1
    refine lv_iload_n hx hb dX9_movesBehind_13 rfl (lv_at hl 0 rfl) ?_
    refine lv_sipush (v := nI 142) hx hb dX9_movesBehind_14 (by decide) ?_
    refine lv_icmp_gt (tgt := 26) hx hb dX9_movesBehind_17 (by decide) (fun c_2 => ?_) (fun c_2 => ?_)
    · skip
      have z_2 := (nI_ltI (a := 142) (b := k) (by omega) (by omega)).mp c_2
      refine lv_iload_n hx hb dX9_movesBehind_26 rfl (lv_at hl 0 rfl) ?_
      refine lv_sipush (v := nI 146) hx hb dX9_movesBehind_27 (by decide) ?_
      refine lv_icmp_gt (tgt := 39) hx hb dX9_movesBehind_30 (by decide) (fun c_3 => ?_) (fun c_3 => ?_)
      · skip
        have z_3 := (nI_ltI (a := 146) (b := k) (by omega) (by omega)).mp c_3
        refine lv_iload_n hx hb dX9_movesBehind_39 rfl (lv_at hl 0 rfl) ?_
        refine lv_sipush (v := nI 149) hx hb dX9_movesBehind_40 (by decide) ?_
        refine lv_icmp_gt (tgt := 52) hx hb dX9_movesBehind_43 (by decide) (fun c_4 => ?_) (fun c_4 => ?_)
        · skip
          have z_4 := (nI_ltI (a := 149) (b := k) (by omega) (by omega)).mp c_4
          refine lv_iload_n hx hb dX9_movesBehind_52 rfl (lv_at hl 0 rfl) ?_
          refine lv_sipush (v := nI 153) hx hb dX9_movesBehind_53 (by decide) ?_
          refine lv_icmp_gt (tgt := 67) hx hb dX9_movesBehind_56 (by decide) (fun c_5 => ?_) (fun c_5 => ?_)
          · skip
            have z_5 := (nI_ltI (a := 153) (b := k) (by omega) (by omega)).mp c_5
            refine lv_iload_n hx hb dX9_movesBehind_67 rfl (lv_at hl 0 rfl) ?_
            refine lv_sipush (v := nI 154) hx hb dX9_movesBehind_68 (by decide) ?_
            refine lv_isub hx hb dX9_movesBehind_71 ?_
            refine tp (pk_sub (by omega)) ?_
            exact rI (v := nI (k - 154)) hx hb hr hlocks rfl hK hP hD hS [] () rfl (by decide) ⟨congrArg nI (by have := tbl_mv k hk; rw [tbk_v (by (try dsimp only); omega) (by (try dsimp only); omega)]; omega), by rw [tbk_v (by (try dsimp only); omega) (by (try dsimp only); omega)]; exact tbl_3 k hk⟩ dX9_movesBehind_72
          · skip
            have z_5 := mt (nI_ltI (a := 153) (b := k) (by omega) (by omega)).mpr c_5
            refine lv_iload_n hx hb dX9_movesBehind_59 rfl (lv_at hl 0 rfl) ?_
            refine lv_sipush (v := nI 150) hx hb dX9_movesBehind_60 (by decide) ?_
            refine lv_isub hx hb dX9_movesBehind_63 ?_
            refine tp (pk_sub (by omega)) ?_
            refine lv_goto (tgt := 72) hx hb dX9_movesBehind_64 (by decide) ?_
            exact rI (v := nI (k - 150)) hx hb hr hlocks rfl hK hP hD hS [] () rfl (by decide) ⟨congrArg nI (by have := tbl_mv k hk; rw [tbk_v (by (try dsimp only); omega) (by (try dsimp only); omega)]; omega), by rw [tbk_v (by (try dsimp only); omega) (by (try dsimp only); omega)]; exact tbl_3 k hk⟩ dX9_movesBehind_72
        · skip
          have z_4 := mt (nI_ltI (a := 149) (b := k) (by omega) (by omega)).mpr c_4
          refine lv_iload_n hx hb dX9_movesBehind_46 rfl (lv_at hl 0 rfl) ?_
          refine lv_sipush (v := nI 146) hx hb dX9_movesBehind_47 (by decide) ?_
          refine lv_isub hx hb dX9_movesBehind_50 ?_
          refine tp (pk_sub (by omega)) ?_
          exact rI (v := nI (k - 146)) hx hb hr hlocks rfl hK hP hD hS [] () rfl (by decide) ⟨congrArg nI (by have := tbl_mv k hk; rw [tbk_v (by (try dsimp only); omega) (by (try dsimp only); omega)]; omega), by rw [tbk_v (by (try dsimp only); omega) (by (try dsimp only); omega)]; exact tbl_3 k hk⟩ dX9_movesBehind_51
      · skip
        have z_3 := mt (nI_ltI (a := 146) (b := k) (by omega) (by omega)).mpr c_3
        refine lv_iload_n hx hb dX9_movesBehind_33 rfl (lv_at hl 0 rfl) ?_
        refine lv_sipush (v := nI 143) hx hb dX9_movesBehind_34 (by decide) ?_
        refine lv_isub hx hb dX9_movesBehind_37 ?_
        refine tp (pk_sub (by omega)) ?_
        exact rI (v := nI (k - 143)) hx hb hr hlocks rfl hK hP hD hS [] () rfl (by decide) ⟨congrArg nI (by have := tbl_mv k hk; rw [tbk_v (by (try dsimp only); omega) (by (try dsimp only); omega)]; omega), by rw [tbk_v (by (try dsimp only); omega) (by (try dsimp only); omega)]; exact tbl_3 k hk⟩ dX9_movesBehind_38
    · skip
      have z_2 := mt (nI_ltI (a := 142) (b := k) (by omega) (by omega)).mpr c_2
      refine lv_iload_n hx hb dX9_movesBehind_20 rfl (lv_at hl 0 rfl) ?_
      refine lv_sipush (v := nI 139) hx hb dX9_movesBehind_21 (by decide) ?_
      refine lv_isub hx hb dX9_movesBehind_24 ?_
      refine tp (pk_sub (by omega)) ?_
      exact rI (v := nI (k - 139)) hx hb hr hlocks rfl hK hP hD hS [] () rfl (by decide) ⟨congrArg nI (by have := tbl_mv k hk; rw [tbk_v (by (try dsimp only); omega) (by (try dsimp only); omega)]; omega), by rw [tbk_v (by (try dsimp only); omega) (by (try dsimp only); omega)]; exact tbl_3 k hk⟩ dX9_movesBehind_25
  · skip
    have z_1 := mt (nI_ltI (a := 138) (b := k) (by omega) (by omega)).mpr c_1
    refine lv_iload_n hx hb dX9_movesBehind_7 rfl (lv_at hl 0 rfl) ?_
    refine lv_sipush (v := nI 135) hx hb dX9_movesBehind_8 (by decide) ?_
    refine lv_isub hx hb dX9_movesBehind_11 ?_
    refine tp (pk_sub (by omega)) ?_
    exact rI (v := nI (k - 135)) hx hb hr hlocks rfl hK hP hD hS [] () rfl (by decide) ⟨congrArg nI (by have := tbl_mv k hk; rw [tbk_v (by (try dsimp only); omega) (by (try dsimp only); omega)]; omega), by rw [tbk_v (by (try dsimp only); omega) (by (try dsimp only); omega)]; exact tbl_3 k hk⟩ dX9_movesBehind_12
set_option maxHeartbeats 4000000 in
set_option maxRecDepth 100000 in
theorem c_X9_behind (l : Launch) (G : va_G) (ci cz cl : ClassId) (q : Nat → Nat) (sz : Nat) (k : Nat) (hk : k ≤ 255) : CtI l yX9_behind wsX9_behind ({ frames := 1, cells := 0, slots := 0, locals := 20 }) G (TY ci cz cl) O0 [.int (nI k)] [] sz (fun (r : Int32) (u : Unit) => ((k ≤ 169 ∧ r = nI (tbk k) ∧ r.toInt = tbk k) ∨ (169 < k ∧ r = -1 ∧ r.toInt = -1))) (fun u : Unit => []) 0 0 := by
  refine Met.ofW (cc := cX9_behind) (maxL := 1) (ret := (some .int)) (by decide) rfl ?_
  intro p e s m args below meth c s₁ B hml hv
  obtain ⟨rfl, ⟨hsz, hP, hK, hD0⟩, hO⟩ := hv
  have hx := B.exec
  have hb := B.bytes
  have hr := B.returns
  have hts := atoms_spec (ws := wsX9_behind) B.pre
  have hown : s.vm.findClass RX9 = some m.cls := findClass_of_methodNamed B.named
  have hlocks := B.notSynchronized
  subst hsz
  have hD := hD0.self (sz := s.heap.size)
  generalize hAe : va_A [] s.heap.size = A at hD hO ⊢
  have hA : ∀ q : Nat, s.heap.size ≤ q → A q := fun q h => by rw [← hAe]; exact Or.inr h
  have ok := ok0
  refine startH (A := A) (fun H locs hP hS => ?_) hP
  have hl := lv_entry ([.int (nI k)]) (n := 1) (Nat.le_of_ble_eq_true rfl)
  rw [lg_entry_eq]
  generalize (lg_sl ([.int (nI k)]) ++ List.replicate (1 - (lg_sl ([.int (nI k)])).length) Slot.unset).toArray = ls at hl ⊢
  have hl : lv_has ls 1 [(0, .int (nI k))] := hl
  refine lv_iload_n hx hb dX9_behind_0 rfl (lv_at hl 0 rfl) ?_
  refine lv_sipush (v := nI 128) hx hb dX9_behind_1 (by decide) ?_
  refine lv_icmp_lt (tgt := 42) hx hb dX9_behind_4 (by decide) (fun c_1 => ?_) (fun c_1 => ?_)
  · skip
    have z_1 := (nI_ltI (a := k) (b := 128) (by omega) (by omega)).mp c_1
    refine lv_iconst (v := nI 0) hx hb dX9_behind_42 (by decide) ?_
    exact rI (v := nI 0) hx hb hr hlocks rfl hK hP hD hS [] () rfl (by decide) (bh_ok (by (try dsimp only); omega) (tbk_0 (by (try dsimp only); omega)).symm) dX9_behind_43
  · skip
    have z_1 := mt (nI_ltI (a := k) (b := 128) (by omega) (by omega)).mpr c_1
    refine lv_iload_n hx hb dX9_behind_7 rfl (lv_at hl 0 rfl) ?_
    refine lv_sipush (v := nI 131) hx hb dX9_behind_8 (by decide) ?_
    refine lv_icmp_eq (tgt := 42) hx hb dX9_behind_11 (by decide) (fun c_2 => ?_) (fun c_2 => ?_)
    · skip
      have z_2 := (nI_eq (a := k) (b := 131) (by omega) (by omega)).mp c_2
      refine lv_iconst (v := nI 0) hx hb dX9_behind_42 (by decide) ?_
      exact rI (v := nI 0) hx hb hr hlocks rfl hK hP hD hS [] () rfl (by decide) (bh_ok (by (try dsimp only); omega) (tbk_0 (by (try dsimp only); omega)).symm) dX9_behind_43
    · skip
      have z_2 := mt (nI_eq (a := k) (b := 131) (by omega) (by omega)).mpr c_2
      refine lv_iload_n hx hb dX9_behind_14 rfl (lv_at hl 0 rfl) ?_
      refine lv_sipush (v := nI 133) hx hb dX9_behind_15 (by decide) ?_
      refine lv_icmp_lt (tgt := 28) hx hb dX9_behind_18 (by decide) (fun c_3 => ?_) (fun c_3 => ?_)
      · skip
        have z_3 := (nI_ltI (a := k) (b := 133) (by omega) (by omega)).mp c_3
        refine lv_iload_n hx hb dX9_behind_28 rfl (lv_at hl 0 rfl) ?_
        refine lv_sipush (v := nI 158) hx hb dX9_behind_29 (by decide) ?_
        refine lv_icmp_lt (tgt := 44) hx hb dX9_behind_32 (by decide) (fun c_4 => ?_) (fun c_4 => ?_)
        · skip
          have z_4 := (nI_ltI (a := k) (b := 158) (by omega) (by omega)).mp c_4
          refine lv_iload_n hx hb dX9_behind_44 rfl (lv_at hl 0 rfl) ?_
          refine lv_sipush (v := nI 169) hx hb dX9_behind_45 (by decide) ?_
          refine lv_icmp_le (tgt := 53) hx hb dX9_behind_48 (by decide) (fun c_5 => ?_) (fun c_5 => ?_)
          · skip
            have z_5 := (nI_leI (a := k) (b := 169) (by omega) (by omega)).mp c_5
            refine lv_iload_n hx hb dX9_behind_53 rfl (lv_at hl 0 rfl) ?_
            by_cases sw_6_128 : (nI k) = nI 128
            · skip
              refine tp sw_6_128 ?_
              have n_6_128 := (nI_eq (a := k) (b := 128) (by omega) (by omega)).mp sw_6_128
              refine lv_lookup (off := 74) (tgt := 128) hx hb dX9_behind_54 (by decide) (by decide) (by decide) ?_
              refine lv_iconst (v := nI 1) hx hb dX9_behind_128 (by decide) ?_
              exact rI (v := nI 1) hx hb hr hlocks rfl hK hP hD hS [] () rfl (by decide) (bh_ok (by (try dsimp only); omega) (show 1 = tbk k by rcases (show k = 128 ∨ k = 129 ∨ k = 130 ∨ k = 132 ∨ k = 166 ∨ k = 167 ∨ k = 168 ∨ k = 169 by (try dsimp only); omega) with h9 | h9 | h9 | h9 | h9 | h9 | h9 | h9 <;> subst h9 <;> first | rfl | (exfalso; omega))) dX9_behind_129
            by_cases sw_6_129 : (nI k) = nI 129
            · skip
              refine tp sw_6_129 ?_
              have n_6_129 := (nI_eq (a := k) (b := 129) (by omega) (by omega)).mp sw_6_129
              refine lv_lookup (off := 76) (tgt := 130) hx hb dX9_behind_54 (by decide) (by decide) (by decide) ?_
              refine lv_iconst (v := nI 4) hx hb dX9_behind_130 (by decide) ?_
              exact rI (v := nI 4) hx hb hr hlocks rfl hK hP hD hS [] () rfl (by decide) (bh_ok (by (try dsimp only); omega) (show 4 = tbk k by rcases (show k = 128 ∨ k = 129 ∨ k = 130 ∨ k = 132 ∨ k = 166 ∨ k = 167 ∨ k = 168 ∨ k = 169 by (try dsimp only); omega) with h9 | h9 | h9 | h9 | h9 | h9 | h9 | h9 <;> subst h9 <;> first | rfl | (exfalso; omega))) dX9_behind_131
            by_cases sw_6_130 : (nI k) = nI 130
            · skip
              refine tp sw_6_130 ?_
              have n_6_130 := (nI_eq (a := k) (b := 130) (by omega) (by omega)).mp sw_6_130
              refine lv_lookup (off := 78) (tgt := 132) hx hb dX9_behind_54 (by decide) (by decide) (by decide) ?_
              refine lv_iconst (v := nI 4) hx hb dX9_behind_132 (by decide) ?_
              exact rI (v := nI 4) hx hb hr hlocks rfl hK hP hD hS [] () rfl (by decide) (bh_ok (by (try dsimp only); omega) (show 4 = tbk k by rcases (show k = 128 ∨ k = 129 ∨ k = 130 ∨ k = 132 ∨ k = 166 ∨ k = 167 ∨ k = 168 ∨ k = 169 by (try dsimp only); omega) with h9 | h9 | h9 | h9 | h9 | h9 | h9 | h9 <;> subst h9 <;> first | rfl | (exfalso; omega))) dX9_behind_133
            by_cases sw_6_132 : (nI k) = nI 132
            · skip
              refine tp sw_6_132 ?_
              have n_6_132 := (nI_eq (a := k) (b := 132) (by omega) (by omega)).mp sw_6_132
              refine lv_lookup (off := 80) (tgt := 134) hx hb dX9_behind_54 (by decide) (by decide) (by decide) ?_
              refine lv_iconst (v := nI 4) hx hb dX9_behind_134 (by decide) ?_
              exact rI (v := nI 4) hx hb hr hlocks rfl hK hP hD hS [] () rfl (by decide) (bh_ok (by (try dsimp only); omega) (show 4 = tbk k by rcases (show k = 128 ∨ k = 129 ∨ k = 130 ∨ k = 132 ∨ k = 166 ∨ k = 167 ∨ k = 168 ∨ k = 169 by (try dsimp only); omega) with h9 | h9 | h9 | h9 | h9 | h9 | h9 | h9 <;> subst h9 <;> first | rfl | (exfalso; omega))) dX9_behind_135
            by_cases sw_6_166 : (nI k) = nI 166
            · skip
              refine tp sw_6_166 ?_
              have n_6_166 := (nI_eq (a := k) (b := 166) (by omega) (by omega)).mp sw_6_166
              refine lv_lookup (off := 82) (tgt := 136) hx hb dX9_behind_54 (by decide) (by decide) (by decide) ?_
              refine lv_iconst (v := nI 5) hx hb dX9_behind_136 (by decide) ?_
              exact rI (v := nI 5) hx hb hr hlocks rfl hK hP hD hS [] () rfl (by decide) (bh_ok (by (try dsimp only); omega) (show 5 = tbk k by rcases (show k = 128 ∨ k = 129 ∨ k = 130 ∨ k = 132 ∨ k = 166 ∨ k = 167 ∨ k = 168 ∨ k = 169 by (try dsimp only); omega) with h9 | h9 | h9 | h9 | h9 | h9 | h9 | h9 <;> subst h9 <;> first | rfl | (exfalso; omega))) dX9_behind_137
            by_cases sw_6_167 : (nI k) = nI 167
            · skip
              refine tp sw_6_167 ?_
              have n_6_167 := (nI_eq (a := k) (b := 167) (by omega) (by omega)).mp sw_6_167
              refine lv_lookup (off := 84) (tgt := 138) hx hb dX9_behind_54 (by decide) (by decide) (by decide) ?_
              refine lv_bipush (v := nI 7) hx hb dX9_behind_138 (by decide) ?_
              exact rI (v := nI 7) hx hb hr hlocks rfl hK hP hD hS [] () rfl (by decide) (bh_ok (by (try dsimp only); omega) (show 7 = tbk k by rcases (show k = 128 ∨ k = 129 ∨ k = 130 ∨ k = 132 ∨ k = 166 ∨ k = 167 ∨ k = 168 ∨ k = 169 by (try dsimp only); omega) with h9 | h9 | h9 | h9 | h9 | h9 | h9 | h9 <;> subst h9 <;> first | rfl | (exfalso; omega))) dX9_behind_140
            by_cases sw_6_168 : (nI k) = nI 168
            · skip
              refine tp sw_6_168 ?_
              have n_6_168 := (nI_eq (a := k) (b := 168) (by omega) (by omega)).mp sw_6_168
              refine lv_lookup (off := 87) (tgt := 141) hx hb dX9_behind_54 (by decide) (by decide) (by decide) ?_
              refine lv_bipush (v := nI 11) hx hb dX9_behind_141 (by decide) ?_
              exact rI (v := nI 11) hx hb hr hlocks rfl hK hP hD hS [] () rfl (by decide) (bh_ok (by (try dsimp only); omega) (show 11 = tbk k by rcases (show k = 128 ∨ k = 129 ∨ k = 130 ∨ k = 132 ∨ k = 166 ∨ k = 167 ∨ k = 168 ∨ k = 169 by (try dsimp only); omega) with h9 | h9 | h9 | h9 | h9 | h9 | h9 | h9 <;> subst h9 <;> first | rfl | (exfalso; omega))) dX9_behind_143
            by_cases sw_6_169 : (nI k) = nI 169
            · skip
              refine tp sw_6_169 ?_
              have n_6_169 := (nI_eq (a := k) (b := 169) (by omega) (by omega)).mp sw_6_169
              refine lv_lookup (off := 90) (tgt := 144) hx hb dX9_behind_54 (by decide) (by decide) (by decide) ?_
              refine lv_iconst (v := nI 3) hx hb dX9_behind_144 (by decide) ?_
              exact rI (v := nI 3) hx hb hr hlocks rfl hK hP hD hS [] () rfl (by decide) (bh_ok (by (try dsimp only); omega) (show 3 = tbk k by rcases (show k = 128 ∨ k = 129 ∨ k = 130 ∨ k = 132 ∨ k = 166 ∨ k = 167 ∨ k = 168 ∨ k = 169 by (try dsimp only); omega) with h9 | h9 | h9 | h9 | h9 | h9 | h9 | h9 <;> subst h9 <;> first | rfl | (exfalso; omega))) dX9_behind_145
            have m_6_128 : ¬ k = 128 := fun h => sw_6_128 (congrArg nI h)
            have t_6_128 : ¬ (128 : Int) = ((nI k)).toInt := fun h => sw_6_128 (Int32.toInt_inj.mp (h.symm.trans (by decide)))
            have m_6_129 : ¬ k = 129 := fun h => sw_6_129 (congrArg nI h)
            have t_6_129 : ¬ (129 : Int) = ((nI k)).toInt := fun h => sw_6_129 (Int32.toInt_inj.mp (h.symm.trans (by decide)))
            have m_6_130 : ¬ k = 130 := fun h => sw_6_130 (congrArg nI h)
            have t_6_130 : ¬ (130 : Int) = ((nI k)).toInt := fun h => sw_6_130 (Int32.toInt_inj.mp (h.symm.trans (by decide)))
            have m_6_132 : ¬ k = 132 := fun h => sw_6_132 (congrArg nI h)
            have t_6_132 : ¬ (132 : Int) = ((nI k)).toInt := fun h => sw_6_132 (Int32.toInt_inj.mp (h.symm.trans (by decide)))
            have m_6_166 : ¬ k = 166 := fun h => sw_6_166 (congrArg nI h)
            have t_6_166 : ¬ (166 : Int) = ((nI k)).toInt := fun h => sw_6_166 (Int32.toInt_inj.mp (h.symm.trans (by decide)))
            have m_6_167 : ¬ k = 167 := fun h => sw_6_167 (congrArg nI h)
            have t_6_167 : ¬ (167 : Int) = ((nI k)).toInt := fun h => sw_6_167 (Int32.toInt_inj.mp (h.symm.trans (by decide)))
            have m_6_168 : ¬ k = 168 := fun h => sw_6_168 (congrArg nI h)
            have t_6_168 : ¬ (168 : Int) = ((nI k)).toInt := fun h => sw_6_168 (Int32.toInt_inj.mp (h.symm.trans (by decide)))
            have m_6_169 : ¬ k = 169 := fun h => sw_6_169 (congrArg nI h)
            have t_6_169 : ¬ (169 : Int) = ((nI k)).toInt := fun h => sw_6_169 (Int32.toInt_inj.mp (h.symm.trans (by decide)))
            refine lv_lookup (off := 92) (tgt := 146) hx hb dX9_behind_54 (by decide) (by simp [Op.lookupswitch.offset, t_6_128, t_6_129, t_6_130, t_6_132, t_6_166, t_6_167, t_6_168, t_6_169]) (by decide) ?_
            refine lv_iload_n hx hb dX9_behind_146 rfl (lv_at hl 0 rfl) ?_
            refine jI (va_runS (As := [.int (nI k)]) (rest := []) ⟨hx, hb, hml, hown, hts⟩ (c_X9_movesBehind l G ci cz cl q H.size k (by omega)) (va_cwS 1 hts gX9_behind_X9_movesBehind rfl rfl rfl (by decide +kernel) ⟨(Nat.le_of_ble_eq_true rfl), (Nat.le_of_ble_eq_true rfl)⟩) (pS (wc := []) ok hK hP hD hS hA hO [] rfl (by decide)) rfl rfl hl.1 rfl (lv_room (Nat.le_of_ble_eq_true rfl)) dX9_behind_147 ⟨(Nat.le_of_ble_eq_true rfl), (Nat.le_of_ble_eq_true rfl)⟩) (wr := []) hP hD hS hA [] [] rfl rfl (by decide) (by decide) (fun r_7 u H locs hw_7 hP hD hS => ?_)
            try dsimp only at hw_7
            obtain ⟨rfl, h_7⟩ := hw_7
            have hP : va_P G vwCl [] H := hP
            have hD : va_D A [] := hD
            exact rI (v := nI (tbk k)) hx hb hr hlocks rfl hK hP hD hS [] () rfl (by decide) (bh_ok (by (try dsimp only); omega) rfl) dX9_behind_150
          · skip
            have z_5 := mt (nI_leI (a := k) (b := 169) (by omega) (by omega)).mpr c_5
            refine lv_iconst (v := (-1)) hx hb dX9_behind_51 (by decide) ?_
            exact rI (v := (-1)) hx hb hr hlocks rfl hK hP hD hS [] () rfl (by decide) (Or.inr ⟨by (try dsimp only); omega, rfl, by decide⟩) dX9_behind_52
        · skip
          have z_4 := mt (nI_ltI (a := k) (b := 158) (by omega) (by omega)).mpr c_4
          refine lv_iload_n hx hb dX9_behind_35 rfl (lv_at hl 0 rfl) ?_
          refine lv_sipush (v := nI 165) hx hb dX9_behind_36 (by decide) ?_
          refine lv_icmp_gt (tgt := 44) hx hb dX9_behind_39 (by decide) (fun c_8 => ?_) (fun c_8 => ?_)
          · skip
            have z_8 := (nI_ltI (a := 165) (b := k) (by omega) (by omega)).mp c_8
            refine lv_iload_n hx hb dX9_behind_44 rfl (lv_at hl 0 rfl) ?_
            refine lv_sipush (v := nI 169) hx hb dX9_behind_45 (by decide) ?_
            refine lv_icmp_le (tgt := 53) hx hb dX9_behind_48 (by decide) (fun c_9 => ?_) (fun c_9 => ?_)
            · skip
              have z_9 := (nI_leI (a := k) (b := 169) (by omega) (by omega)).mp c_9
              refine lv_iload_n hx hb dX9_behind_53 rfl (lv_at hl 0 rfl) ?_
              by_cases sw_10_128 : (nI k) = nI 128
              · skip
                refine tp sw_10_128 ?_
                have n_10_128 := (nI_eq (a := k) (b := 128) (by omega) (by omega)).mp sw_10_128
                refine lv_lookup (off := 74) (tgt := 128) hx hb dX9_behind_54 (by decide) (by decide) (by decide) ?_
                refine lv_iconst (v := nI 1) hx hb dX9_behind_128 (by decide) ?_
                exact rI (v := nI 1) hx hb hr hlocks rfl hK hP hD hS [] () rfl (by decide) (bh_ok (by (try dsimp only); omega) (show 1 = tbk k by rcases (show k = 128 ∨ k = 129 ∨ k = 130 ∨ k = 132 ∨ k = 166 ∨ k = 167 ∨ k = 168 ∨ k = 169 by (try dsimp only); omega) with h9 | h9 | h9 | h9 | h9 | h9 | h9 | h9 <;> subst h9 <;> first | rfl | (exfalso; omega))) dX9_behind_129
              by_cases sw_10_129 : (nI k) = nI 129
              · skip
                refine tp sw_10_129 ?_
                have n_10_129 := (nI_eq (a := k) (b := 129) (by omega) (by omega)).mp sw_10_129
                refine lv_lookup (off := 76) (tgt := 130) hx hb dX9_behind_54 (by decide) (by decide) (by decide) ?_
                refine lv_iconst (v := nI 4) hx hb dX9_behind_130 (by decide) ?_
                exact rI (v := nI 4) hx hb hr hlocks rfl hK hP hD hS [] () rfl (by decide) (bh_ok (by (try dsimp only); omega) (show 4 = tbk k by rcases (show k = 128 ∨ k = 129 ∨ k = 130 ∨ k = 132 ∨ k = 166 ∨ k = 167 ∨ k = 168 ∨ k = 169 by (try dsimp only); omega) with h9 | h9 | h9 | h9 | h9 | h9 | h9 | h9 <;> subst h9 <;> first | rfl | (exfalso; omega))) dX9_behind_131
              by_cases sw_10_130 : (nI k) = nI 130
              · skip
                refine tp sw_10_130 ?_
                have n_10_130 := (nI_eq (a := k) (b := 130) (by omega) (by omega)).mp sw_10_130
                refine lv_lookup (off := 78) (tgt := 132) hx hb dX9_behind_54 (by decide) (by decide) (by decide) ?_
                refine lv_iconst (v := nI 4) hx hb dX9_behind_132 (by decide) ?_
                exact rI (v := nI 4) hx hb hr hlocks rfl hK hP hD hS [] () rfl (by decide) (bh_ok (by (try dsimp only); omega) (show 4 = tbk k by rcases (show k = 128 ∨ k = 129 ∨ k = 130 ∨ k = 132 ∨ k = 166 ∨ k = 167 ∨ k = 168 ∨ k = 169 by (try dsimp only); omega) with h9 | h9 | h9 | h9 | h9 | h9 | h9 | h9 <;> subst h9 <;> first | rfl | (exfalso; omega))) dX9_behind_133
              by_cases sw_10_132 : (nI k) = nI 132
              · skip
                refine tp sw_10_132 ?_
                have n_10_132 := (nI_eq (a := k) (b := 132) (by omega) (by omega)).mp sw_10_132
                refine lv_lookup (off := 80) (tgt := 134) hx hb dX9_behind_54 (by decide) (by decide) (by decide) ?_
                refine lv_iconst (v := nI 4) hx hb dX9_behind_134 (by decide) ?_
                exact rI (v := nI 4) hx hb hr hlocks rfl hK hP hD hS [] () rfl (by decide) (bh_ok (by (try dsimp only); omega) (show 4 = tbk k by rcases (show k = 128 ∨ k = 129 ∨ k = 130 ∨ k = 132 ∨ k = 166 ∨ k = 167 ∨ k = 168 ∨ k = 169 by (try dsimp only); omega) with h9 | h9 | h9 | h9 | h9 | h9 | h9 | h9 <;> subst h9 <;> first | rfl | (exfalso; omega))) dX9_behind_135
              by_cases sw_10_166 : (nI k) = nI 166
              · skip
                refine tp sw_10_166 ?_
                have n_10_166 := (nI_eq (a := k) (b := 166) (by omega) (by omega)).mp sw_10_166
                refine lv_lookup (off := 82) (tgt := 136) hx hb dX9_behind_54 (by decide) (by decide) (by decide) ?_
                refine lv_iconst (v := nI 5) hx hb dX9_behind_136 (by decide) ?_
                exact rI (v := nI 5) hx hb hr hlocks rfl hK hP hD hS [] () rfl (by decide) (bh_ok (by (try dsimp only); omega) (show 5 = tbk k by rcases (show k = 128 ∨ k = 129 ∨ k = 130 ∨ k = 132 ∨ k = 166 ∨ k = 167 ∨ k = 168 ∨ k = 169 by (try dsimp only); omega) with h9 | h9 | h9 | h9 | h9 | h9 | h9 | h9 <;> subst h9 <;> first | rfl | (exfalso; omega))) dX9_behind_137
              by_cases sw_10_167 : (nI k) = nI 167
              · skip
                refine tp sw_10_167 ?_
                have n_10_167 := (nI_eq (a := k) (b := 167) (by omega) (by omega)).mp sw_10_167
                refine lv_lookup (off := 84) (tgt := 138) hx hb dX9_behind_54 (by decide) (by decide) (by decide) ?_
                refine lv_bipush (v := nI 7) hx hb dX9_behind_138 (by decide) ?_
                exact rI (v := nI 7) hx hb hr hlocks rfl hK hP hD hS [] () rfl (by decide) (bh_ok (by (try dsimp only); omega) (show 7 = tbk k by rcases (show k = 128 ∨ k = 129 ∨ k = 130 ∨ k = 132 ∨ k = 166 ∨ k = 167 ∨ k = 168 ∨ k = 169 by (try dsimp only); omega) with h9 | h9 | h9 | h9 | h9 | h9 | h9 | h9 <;> subst h9 <;> first | rfl | (exfalso; omega))) dX9_behind_140
              by_cases sw_10_168 : (nI k) = nI 168
              · skip
                refine tp sw_10_168 ?_
                have n_10_168 := (nI_eq (a := k) (b := 168) (by omega) (by omega)).mp sw_10_168
                refine lv_lookup (off := 87) (tgt := 141) hx hb dX9_behind_54 (by decide) (by decide) (by decide) ?_
                refine lv_bipush (v := nI 11) hx hb dX9_behind_141 (by decide) ?_
                exact rI (v := nI 11) hx hb hr hlocks rfl hK hP hD hS [] () rfl (by decide) (bh_ok (by (try dsimp only); omega) (show 11 = tbk k by rcases (show k = 128 ∨ k = 129 ∨ k = 130 ∨ k = 132 ∨ k = 166 ∨ k = 167 ∨ k = 168 ∨ k = 169 by (try dsimp only); omega) with h9 | h9 | h9 | h9 | h9 | h9 | h9 | h9 <;> subst h9 <;> first | rfl | (exfalso; omega))) dX9_behind_143
              by_cases sw_10_169 : (nI k) = nI 169
              · skip
                refine tp sw_10_169 ?_
                have n_10_169 := (nI_eq (a := k) (b := 169) (by omega) (by omega)).mp sw_10_169
                refine lv_lookup (off := 90) (tgt := 144) hx hb dX9_behind_54 (by decide) (by decide) (by decide) ?_
                refine lv_iconst (v := nI 3) hx hb dX9_behind_144 (by decide) ?_
                exact rI (v := nI 3) hx hb hr hlocks rfl hK hP hD hS [] () rfl (by decide) (bh_ok (by (try dsimp only); omega) (show 3 = tbk k by rcases (show k = 128 ∨ k = 129 ∨ k = 130 ∨ k = 132 ∨ k = 166 ∨ k = 167 ∨ k = 168 ∨ k = 169 by (try dsimp only); omega) with h9 | h9 | h9 | h9 | h9 | h9 | h9 | h9 <;> subst h9 <;> first | rfl | (exfalso; omega))) dX9_behind_145
              have m_10_128 : ¬ k = 128 := fun h => sw_10_128 (congrArg nI h)
              have t_10_128 : ¬ (128 : Int) = ((nI k)).toInt := fun h => sw_10_128 (Int32.toInt_inj.mp (h.symm.trans (by decide)))
              have m_10_129 : ¬ k = 129 := fun h => sw_10_129 (congrArg nI h)
              have t_10_129 : ¬ (129 : Int) = ((nI k)).toInt := fun h => sw_10_129 (Int32.toInt_inj.mp (h.symm.trans (by decide)))
              have m_10_130 : ¬ k = 130 := fun h => sw_10_130 (congrArg nI h)
              have t_10_130 : ¬ (130 : Int) = ((nI k)).toInt := fun h => sw_10_130 (Int32.toInt_inj.mp (h.symm.trans (by decide)))
              have m_10_132 : ¬ k = 132 := fun h => sw_10_132 (congrArg nI h)
              have t_10_132 : ¬ (132 : Int) = ((nI k)).toInt := fun h => sw_10_132 (Int32.toInt_inj.mp (h.symm.trans (by decide)))
              have m_10_166 : ¬ k = 166 := fun h => sw_10_166 (congrArg nI h)
              have t_10_166 : ¬ (166 : Int) = ((nI k)).toInt := fun h => sw_10_166 (Int32.toInt_inj.mp (h.symm.trans (by decide)))
              have m_10_167 : ¬ k = 167 := fun h => sw_10_167 (congrArg nI h)
              have t_10_167 : ¬ (167 : Int) = ((nI k)).toInt := fun h => sw_10_167 (Int32.toInt_inj.mp (h.symm.trans (by decide)))
              have m_10_168 : ¬ k = 168 := fun h => sw_10_168 (congrArg nI h)
              have t_10_168 : ¬ (168 : Int) = ((nI k)).toInt := fun h => sw_10_168 (Int32.toInt_inj.mp (h.symm.trans (by decide)))
              have m_10_169 : ¬ k = 169 := fun h => sw_10_169 (congrArg nI h)
              have t_10_169 : ¬ (169 : Int) = ((nI k)).toInt := fun h => sw_10_169 (Int32.toInt_inj.mp (h.symm.trans (by decide)))
              refine lv_lookup (off := 92) (tgt := 146) hx hb dX9_behind_54 (by decide) (by simp [Op.lookupswitch.offset, t_10_128, t_10_129, t_10_130, t_10_132, t_10_166, t_10_167, t_10_168, t_10_169]) (by decide) ?_
              refine lv_iload_n hx hb dX9_behind_146 rfl (lv_at hl 0 rfl) ?_
              refine jI (va_runS (As := [.int (nI k)]) (rest := []) ⟨hx, hb, hml, hown, hts⟩ (c_X9_movesBehind l G ci cz cl q H.size k (by omega)) (va_cwS 1 hts gX9_behind_X9_movesBehind rfl rfl rfl (by decide +kernel) ⟨(Nat.le_of_ble_eq_true rfl), (Nat.le_of_ble_eq_true rfl)⟩) (pS (wc := []) ok hK hP hD hS hA hO [] rfl (by decide)) rfl rfl hl.1 rfl (lv_room (Nat.le_of_ble_eq_true rfl)) dX9_behind_147 ⟨(Nat.le_of_ble_eq_true rfl), (Nat.le_of_ble_eq_true rfl)⟩) (wr := []) hP hD hS hA [] [] rfl rfl (by decide) (by decide) (fun r_11 u H locs hw_11 hP hD hS => ?_)
              try dsimp only at hw_11
              obtain ⟨rfl, h_11⟩ := hw_11
              have hP : va_P G vwCl [] H := hP
              have hD : va_D A [] := hD
              exact rI (v := nI (tbk k)) hx hb hr hlocks rfl hK hP hD hS [] () rfl (by decide) (bh_ok (by (try dsimp only); omega) rfl) dX9_behind_150
            · skip
              have z_9 := mt (nI_leI (a := k) (b := 169) (by omega) (by omega)).mpr c_9
              refine lv_iconst (v := (-1)) hx hb dX9_behind_51 (by decide) ?_
              exact rI (v := (-1)) hx hb hr hlocks rfl hK hP hD hS [] () rfl (by decide) (Or.inr ⟨by (try dsimp only); omega, rfl, by decide⟩) dX9_behind_52
          · skip
            have z_8 := mt (nI_ltI (a := 165) (b := k) (by omega) (by omega)).mpr c_8
            refine lv_iconst (v := nI 0) hx hb dX9_behind_42 (by decide) ?_
            exact rI (v := nI 0) hx hb hr hlocks rfl hK hP hD hS [] () rfl (by decide) (bh_ok (by (try dsimp only); omega) (tbk_0 (by (try dsimp only); omega)).symm) dX9_behind_43
      · skip
        have z_3 := mt (nI_ltI (a := k) (b := 133) (by omega) (by omega)).mpr c_3
        refine lv_iload_n hx hb dX9_behind_21 rfl (lv_at hl 0 rfl) ?_
        refine lv_sipush (v := nI 135) hx hb dX9_behind_22 (by decide) ?_
        refine lv_icmp_le (tgt := 42) hx hb dX9_behind_25 (by decide) (fun c_12 => ?_) (fun c_12 => ?_)
        · skip
          have z_12 := (nI_leI (a := k) (b := 135) (by omega) (by omega)).mp c_12
          refine lv_iconst (v := nI 0) hx hb dX9_behind_42 (by decide) ?_
          exact rI (v := nI 0) hx hb hr hlocks rfl hK hP hD hS [] () rfl (by decide) (bh_ok (by (try dsimp only); omega) (tbk_0 (by (try dsimp only); omega)).symm) dX9_behind_43
        · skip
          have z_12 := mt (nI_leI (a := k) (b := 135) (by omega) (by omega)).mpr c_12
          refine lv_iload_n hx hb dX9_behind_28 rfl (lv_at hl 0 rfl) ?_
          refine lv_sipush (v := nI 158) hx hb dX9_behind_29 (by decide) ?_
          refine lv_icmp_lt (tgt := 44) hx hb dX9_behind_32 (by decide) (fun c_13 => ?_) (fun c_13 => ?_)
          · skip
            have z_13 := (nI_ltI (a := k) (b := 158) (by omega) (by omega)).mp c_13
            refine lv_iload_n hx hb dX9_behind_44 rfl (lv_at hl 0 rfl) ?_
            refine lv_sipush (v := nI 169) hx hb dX9_behind_45 (by decide) ?_
            refine lv_icmp_le (tgt := 53) hx hb dX9_behind_48 (by decide) (fun c_14 => ?_) (fun c_14 => ?_)
            · skip
              have z_14 := (nI_leI (a := k) (b := 169) (by omega) (by omega)).mp c_14
              refine lv_iload_n hx hb dX9_behind_53 rfl (lv_at hl 0 rfl) ?_
              by_cases sw_15_128 : (nI k) = nI 128
              · skip
                refine tp sw_15_128 ?_
                have n_15_128 := (nI_eq (a := k) (b := 128) (by omega) (by omega)).mp sw_15_128
                refine lv_lookup (off := 74) (tgt := 128) hx hb dX9_behind_54 (by decide) (by decide) (by decide) ?_
                refine lv_iconst (v := nI 1) hx hb dX9_behind_128 (by decide) ?_
                exact rI (v := nI 1) hx hb hr hlocks rfl hK hP hD hS [] () rfl (by decide) (bh_ok (by (try dsimp only); omega) (show 1 = tbk k by rcases (show k = 128 ∨ k = 129 ∨ k = 130 ∨ k = 132 ∨ k = 166 ∨ k = 167 ∨ k = 168 ∨ k = 169 by (try dsimp only); omega) with h9 | h9 | h9 | h9 | h9 | h9 | h9 | h9 <;> subst h9 <;> first | rfl | (exfalso; omega))) dX9_behind_129
              by_cases sw_15_129 : (nI k) = nI 129
              · skip
                refine tp sw_15_129 ?_
                have n_15_129 := (nI_eq (a := k) (b := 129) (by omega) (by omega)).mp sw_15_129
                refine lv_lookup (off := 76) (tgt := 130) hx hb dX9_behind_54 (by decide) (by decide) (by decide) ?_
                refine lv_iconst (v := nI 4) hx hb dX9_behind_130 (by decide) ?_
                exact rI (v := nI 4) hx hb hr hlocks rfl hK hP hD hS [] () rfl (by decide) (bh_ok (by (try dsimp only); omega) (show 4 = tbk k by rcases (show k = 128 ∨ k = 129 ∨ k = 130 ∨ k = 132 ∨ k = 166 ∨ k = 167 ∨ k = 168 ∨ k = 169 by (try dsimp only); omega) with h9 | h9 | h9 | h9 | h9 | h9 | h9 | h9 <;> subst h9 <;> first | rfl | (exfalso; omega))) dX9_behind_131
              by_cases sw_15_130 : (nI k) = nI 130
              · skip
                refine tp sw_15_130 ?_
                have n_15_130 := (nI_eq (a := k) (b := 130) (by omega) (by omega)).mp sw_15_130
                refine lv_lookup (off := 78) (tgt := 132) hx hb dX9_behind_54 (by decide) (by decide) (by decide) ?_
                refine lv_iconst (v := nI 4) hx hb dX9_behind_132 (by decide) ?_
                exact rI (v := nI 4) hx hb hr hlocks rfl hK hP hD hS [] () rfl (by decide) (bh_ok (by (try dsimp only); omega) (show 4 = tbk k by rcases (show k = 128 ∨ k = 129 ∨ k = 130 ∨ k = 132 ∨ k = 166 ∨ k = 167 ∨ k = 168 ∨ k = 169 by (try dsimp only); omega) with h9 | h9 | h9 | h9 | h9 | h9 | h9 | h9 <;> subst h9 <;> first | rfl | (exfalso; omega))) dX9_behind_133
              by_cases sw_15_132 : (nI k) = nI 132
              · skip
                refine tp sw_15_132 ?_
                have n_15_132 := (nI_eq (a := k) (b := 132) (by omega) (by omega)).mp sw_15_132
                refine lv_lookup (off := 80) (tgt := 134) hx hb dX9_behind_54 (by decide) (by decide) (by decide) ?_
                refine lv_iconst (v := nI 4) hx hb dX9_behind_134 (by decide) ?_
                exact rI (v := nI 4) hx hb hr hlocks rfl hK hP hD hS [] () rfl (by decide) (bh_ok (by (try dsimp only); omega) (show 4 = tbk k by rcases (show k = 128 ∨ k = 129 ∨ k = 130 ∨ k = 132 ∨ k = 166 ∨ k = 167 ∨ k = 168 ∨ k = 169 by (try dsimp only); omega) with h9 | h9 | h9 | h9 | h9 | h9 | h9 | h9 <;> subst h9 <;> first | rfl | (exfalso; omega))) dX9_behind_135
              by_cases sw_15_166 : (nI k) = nI 166
              · skip
                refine tp sw_15_166 ?_
                have n_15_166 := (nI_eq (a := k) (b := 166) (by omega) (by omega)).mp sw_15_166
                refine lv_lookup (off := 82) (tgt := 136) hx hb dX9_behind_54 (by decide) (by decide) (by decide) ?_
                refine lv_iconst (v := nI 5) hx hb dX9_behind_136 (by decide) ?_
                exact rI (v := nI 5) hx hb hr hlocks rfl hK hP hD hS [] () rfl (by decide) (bh_ok (by (try dsimp only); omega) (show 5 = tbk k by rcases (show k = 128 ∨ k = 129 ∨ k = 130 ∨ k = 132 ∨ k = 166 ∨ k = 167 ∨ k = 168 ∨ k = 169 by (try dsimp only); omega) with h9 | h9 | h9 | h9 | h9 | h9 | h9 | h9 <;> subst h9 <;> first | rfl | (exfalso; omega))) dX9_behind_137
              by_cases sw_15_167 : (nI k) = nI 167
              · skip
                refine tp sw_15_167 ?_
                have n_15_167 := (nI_eq (a := k) (b := 167) (by omega) (by omega)).mp sw_15_167
                refine lv_lookup (off := 84) (tgt := 138) hx hb dX9_behind_54 (by decide) (by decide) (by decide) ?_
                refine lv_bipush (v := nI 7) hx hb dX9_behind_138 (by decide) ?_
                exact rI (v := nI 7) hx hb hr hlocks rfl hK hP hD hS [] () rfl (by decide) (bh_ok (by (try dsimp only); omega) (show 7 = tbk k by rcases (show k = 128 ∨ k = 129 ∨ k = 130 ∨ k = 132 ∨ k = 166 ∨ k = 167 ∨ k = 168 ∨ k = 169 by (try dsimp only); omega) with h9 | h9 | h9 | h9 | h9 | h9 | h9 | h9 <;> subst h9 <;> first | rfl | (exfalso; omega))) dX9_behind_140
              by_cases sw_15_168 : (nI k) = nI 168
              · skip
                refine tp sw_15_168 ?_
                have n_15_168 := (nI_eq (a := k) (b := 168) (by omega) (by omega)).mp sw_15_168
                refine lv_lookup (off := 87) (tgt := 141) hx hb dX9_behind_54 (by decide) (by decide) (by decide) ?_
                refine lv_bipush (v := nI 11) hx hb dX9_behind_141 (by decide) ?_
                exact rI (v := nI 11) hx hb hr hlocks rfl hK hP hD hS [] () rfl (by decide) (bh_ok (by (try dsimp only); omega) (show 11 = tbk k by rcases (show k = 128 ∨ k = 129 ∨ k = 130 ∨ k = 132 ∨ k = 166 ∨ k = 167 ∨ k = 168 ∨ k = 169 by (try dsimp only); omega) with h9 | h9 | h9 | h9 | h9 | h9 | h9 | h9 <;> subst h9 <;> first | rfl | (exfalso; omega))) dX9_behind_143
              by_cases sw_15_169 : (nI k) = nI 169
              · skip
                refine tp sw_15_169 ?_
                have n_15_169 := (nI_eq (a := k) (b := 169) (by omega) (by omega)).mp sw_15_169
                refine lv_lookup (off := 90) (tgt := 144) hx hb dX9_behind_54 (by decide) (by decide) (by decide) ?_
                refine lv_iconst (v := nI 3) hx hb dX9_behind_144 (by decide) ?_
                exact rI (v := nI 3) hx hb hr hlocks rfl hK hP hD hS [] () rfl (by decide) (bh_ok (by (try dsimp only); omega) (show 3 = tbk k by rcases (show k = 128 ∨ k = 129 ∨ k = 130 ∨ k = 132 ∨ k = 166 ∨ k = 167 ∨ k = 168 ∨ k = 169 by (try dsimp only); omega) with h9 | h9 | h9 | h9 | h9 | h9 | h9 | h9 <;> subst h9 <;> first | rfl | (exfalso; omega))) dX9_behind_145
              have m_15_128 : ¬ k = 128 := fun h => sw_15_128 (congrArg nI h)
              have t_15_128 : ¬ (128 : Int) = ((nI k)).toInt := fun h => sw_15_128 (Int32.toInt_inj.mp (h.symm.trans (by decide)))
              have m_15_129 : ¬ k = 129 := fun h => sw_15_129 (congrArg nI h)
              have t_15_129 : ¬ (129 : Int) = ((nI k)).toInt := fun h => sw_15_129 (Int32.toInt_inj.mp (h.symm.trans (by decide)))
              have m_15_130 : ¬ k = 130 := fun h => sw_15_130 (congrArg nI h)
              have t_15_130 : ¬ (130 : Int) = ((nI k)).toInt := fun h => sw_15_130 (Int32.toInt_inj.mp (h.symm.trans (by decide)))
              have m_15_132 : ¬ k = 132 := fun h => sw_15_132 (congrArg nI h)
              have t_15_132 : ¬ (132 : Int) = ((nI k)).toInt := fun h => sw_15_132 (Int32.toInt_inj.mp (h.symm.trans (by decide)))
              have m_15_166 : ¬ k = 166 := fun h => sw_15_166 (congrArg nI h)
              have t_15_166 : ¬ (166 : Int) = ((nI k)).toInt := fun h => sw_15_166 (Int32.toInt_inj.mp (h.symm.trans (by decide)))
              have m_15_167 : ¬ k = 167 := fun h => sw_15_167 (congrArg nI h)
              have t_15_167 : ¬ (167 : Int) = ((nI k)).toInt := fun h => sw_15_167 (Int32.toInt_inj.mp (h.symm.trans (by decide)))
              have m_15_168 : ¬ k = 168 := fun h => sw_15_168 (congrArg nI h)
              have t_15_168 : ¬ (168 : Int) = ((nI k)).toInt := fun h => sw_15_168 (Int32.toInt_inj.mp (h.symm.trans (by decide)))
              have m_15_169 : ¬ k = 169 := fun h => sw_15_169 (congrArg nI h)
              have t_15_169 : ¬ (169 : Int) = ((nI k)).toInt := fun h => sw_15_169 (Int32.toInt_inj.mp (h.symm.trans (by decide)))
              refine lv_lookup (off := 92) (tgt := 146) hx hb dX9_behind_54 (by decide) (by simp [Op.lookupswitch.offset, t_15_128, t_15_129, t_15_130, t_15_132, t_15_166, t_15_167, t_15_168, t_15_169]) (by decide) ?_
              refine lv_iload_n hx hb dX9_behind_146 rfl (lv_at hl 0 rfl) ?_
              refine jI (va_runS (As := [.int (nI k)]) (rest := []) ⟨hx, hb, hml, hown, hts⟩ (c_X9_movesBehind l G ci cz cl q H.size k (by omega)) (va_cwS 1 hts gX9_behind_X9_movesBehind rfl rfl rfl (by decide +kernel) ⟨(Nat.le_of_ble_eq_true rfl), (Nat.le_of_ble_eq_true rfl)⟩) (pS (wc := []) ok hK hP hD hS hA hO [] rfl (by decide)) rfl rfl hl.1 rfl (lv_room (Nat.le_of_ble_eq_true rfl)) dX9_behind_147 ⟨(Nat.le_of_ble_eq_true rfl), (Nat.le_of_ble_eq_true rfl)⟩) (wr := []) hP hD hS hA [] [] rfl rfl (by decide) (by decide) (fun r_16 u H locs hw_16 hP hD hS => ?_)
              try dsimp only at hw_16
              obtain ⟨rfl, h_16⟩ := hw_16
              have hP : va_P G vwCl [] H := hP
              have hD : va_D A [] := hD
              exact rI (v := nI (tbk k)) hx hb hr hlocks rfl hK hP hD hS [] () rfl (by decide) (bh_ok (by (try dsimp only); omega) rfl) dX9_behind_150
            · skip
              have z_14 := mt (nI_leI (a := k) (b := 169) (by omega) (by omega)).mpr c_14
              refine lv_iconst (v := (-1)) hx hb dX9_behind_51 (by decide) ?_
              exact rI (v := (-1)) hx hb hr hlocks rfl hK hP hD hS [] () rfl (by decide) (Or.inr ⟨by (try dsimp only); omega, rfl, by decide⟩) dX9_behind_52
          · skip
            have z_13 := mt (nI_ltI (a := k) (b := 158) (by omega) (by omega)).mpr c_13
            refine lv_iload_n hx hb dX9_behind_35 rfl (lv_at hl 0 rfl) ?_
            refine lv_sipush (v := nI 165) hx hb dX9_behind_36 (by decide) ?_
            refine lv_icmp_gt (tgt := 44) hx hb dX9_behind_39 (by decide) (fun c_17 => ?_) (fun c_17 => ?_)
            · skip
              have z_17 := (nI_ltI (a := 165) (b := k) (by omega) (by omega)).mp c_17
              refine lv_iload_n hx hb dX9_behind_44 rfl (lv_at hl 0 rfl) ?_
              refine lv_sipush (v := nI 169) hx hb dX9_behind_45 (by decide) ?_
              refine lv_icmp_le (tgt := 53) hx hb dX9_behind_48 (by decide) (fun c_18 => ?_) (fun c_18 => ?_)
              · skip
                have z_18 := (nI_leI (a := k) (b := 169) (by omega) (by omega)).mp c_18
                refine lv_iload_n hx hb dX9_behind_53 rfl (lv_at hl 0 rfl) ?_
                by_cases sw_19_128 : (nI k) = nI 128
                · skip
                  refine tp sw_19_128 ?_
                  have n_19_128 := (nI_eq (a := k) (b := 128) (by omega) (by omega)).mp sw_19_128
                  refine lv_lookup (off := 74) (tgt := 128) hx hb dX9_behind_54 (by decide) (by decide) (by decide) ?_
                  refine lv_iconst (v := nI 1) hx hb dX9_behind_128 (by decide) ?_
                  exact rI (v := nI 1) hx hb hr hlocks rfl hK hP hD hS [] () rfl (by decide) (bh_ok (by (try dsimp only); omega) (show 1 = tbk k by rcases (show k = 128 ∨ k = 129 ∨ k = 130 ∨ k = 132 ∨ k = 166 ∨ k = 167 ∨ k = 168 ∨ k = 169 by (try dsimp only); omega) with h9 | h9 | h9 | h9 | h9 | h9 | h9 | h9 <;> subst h9 <;> first | rfl | (exfalso; omega))) dX9_behind_129
                by_cases sw_19_129 : (nI k) = nI 129
                · skip
                  refine tp sw_19_129 ?_
                  have n_19_129 := (nI_eq (a := k) (b := 129) (by omega) (by omega)).mp sw_19_129
                  refine lv_lookup (off := 76) (tgt := 130) hx hb dX9_behind_54 (by decide) (by decide) (by decide) ?_
                  refine lv_iconst (v := nI 4) hx hb dX9_behind_130 (by decide) ?_
                  exact rI (v := nI 4) hx hb hr hlocks rfl hK hP hD hS [] () rfl (by decide) (bh_ok (by (try dsimp only); omega) (show 4 = tbk k by rcases (show k = 128 ∨ k = 129 ∨ k = 130 ∨ k = 132 ∨ k = 166 ∨ k = 167 ∨ k = 168 ∨ k = 169 by (try dsimp only); omega) with h9 | h9 | h9 | h9 | h9 | h9 | h9 | h9 <;> subst h9 <;> first | rfl | (exfalso; omega))) dX9_behind_131
                by_cases sw_19_130 : (nI k) = nI 130
                · skip
                  refine tp sw_19_130 ?_
                  have n_19_130 := (nI_eq (a := k) (b := 130) (by omega) (by omega)).mp sw_19_130
                  refine lv_lookup (off := 78) (tgt := 132) hx hb dX9_behind_54 (by decide) (by decide) (by decide) ?_
                  refine lv_iconst (v := nI 4) hx hb dX9_behind_132 (by decide) ?_
                  exact rI (v := nI 4) hx hb hr hlocks rfl hK hP hD hS [] () rfl (by decide) (bh_ok (by (try dsimp only); omega) (show 4 = tbk k by rcases (show k = 128 ∨ k = 129 ∨ k = 130 ∨ k = 132 ∨ k = 166 ∨ k = 167 ∨ k = 168 ∨ k = 169 by (try dsimp only); omega) with h9 | h9 | h9 | h9 | h9 | h9 | h9 | h9 <;> subst h9 <;> first | rfl | (exfalso; omega))) dX9_behind_133
                by_cases sw_19_132 : (nI k) = nI 132
                · skip
                  refine tp sw_19_132 ?_
                  have n_19_132 := (nI_eq (a := k) (b := 132) (by omega) (by omega)).mp sw_19_132
                  refine lv_lookup (off := 80) (tgt := 134) hx hb dX9_behind_54 (by decide) (by decide) (by decide) ?_
                  refine lv_iconst (v := nI 4) hx hb dX9_behind_134 (by decide) ?_
                  exact rI (v := nI 4) hx hb hr hlocks rfl hK hP hD hS [] () rfl (by decide) (bh_ok (by (try dsimp only); omega) (show 4 = tbk k by rcases (show k = 128 ∨ k = 129 ∨ k = 130 ∨ k = 132 ∨ k = 166 ∨ k = 167 ∨ k = 168 ∨ k = 169 by (try dsimp only); omega) with h9 | h9 | h9 | h9 | h9 | h9 | h9 | h9 <;> subst h9 <;> first | rfl | (exfalso; omega))) dX9_behind_135
                by_cases sw_19_166 : (nI k) = nI 166
                · skip
                  refine tp sw_19_166 ?_
                  have n_19_166 := (nI_eq (a := k) (b := 166) (by omega) (by omega)).mp sw_19_166
                  refine lv_lookup (off := 82) (tgt := 136) hx hb dX9_behind_54 (by decide) (by decide) (by decide) ?_
                  refine lv_iconst (v := nI 5) hx hb dX9_behind_136 (by decide) ?_
                  exact rI (v := nI 5) hx hb hr hlocks rfl hK hP hD hS [] () rfl (by decide) (bh_ok (by (try dsimp only); omega) (show 5 = tbk k by rcases (show k = 128 ∨ k = 129 ∨ k = 130 ∨ k = 132 ∨ k = 166 ∨ k = 167 ∨ k = 168 ∨ k = 169 by (try dsimp only); omega) with h9 | h9 | h9 | h9 | h9 | h9 | h9 | h9 <;> subst h9 <;> first | rfl | (exfalso; omega))) dX9_behind_137
                by_cases sw_19_167 : (nI k) = nI 167
                · skip
                  refine tp sw_19_167 ?_
                  have n_19_167 := (nI_eq (a := k) (b := 167) (by omega) (by omega)).mp sw_19_167
                  refine lv_lookup (off := 84) (tgt := 138) hx hb dX9_behind_54 (by decide) (by decide) (by decide) ?_
                  refine lv_bipush (v := nI 7) hx hb dX9_behind_138 (by decide) ?_
                  exact rI (v := nI 7) hx hb hr hlocks rfl hK hP hD hS [] () rfl (by decide) (bh_ok (by (try dsimp only); omega) (show 7 = tbk k by rcases (show k = 128 ∨ k = 129 ∨ k = 130 ∨ k = 132 ∨ k = 166 ∨ k = 167 ∨ k = 168 ∨ k = 169 by (try dsimp only); omega) with h9 | h9 | h9 | h9 | h9 | h9 | h9 | h9 <;> subst h9 <;> first | rfl | (exfalso; omega))) dX9_behind_140
                by_cases sw_19_168 : (nI k) = nI 168
                · skip
                  refine tp sw_19_168 ?_
                  have n_19_168 := (nI_eq (a := k) (b := 168) (by omega) (by omega)).mp sw_19_168
                  refine lv_lookup (off := 87) (tgt := 141) hx hb dX9_behind_54 (by decide) (by decide) (by decide) ?_
                  refine lv_bipush (v := nI 11) hx hb dX9_behind_141 (by decide) ?_
                  exact rI (v := nI 11) hx hb hr hlocks rfl hK hP hD hS [] () rfl (by decide) (bh_ok (by (try dsimp only); omega) (show 11 = tbk k by rcases (show k = 128 ∨ k = 129 ∨ k = 130 ∨ k = 132 ∨ k = 166 ∨ k = 167 ∨ k = 168 ∨ k = 169 by (try dsimp only); omega) with h9 | h9 | h9 | h9 | h9 | h9 | h9 | h9 <;> subst h9 <;> first | rfl | (exfalso; omega))) dX9_behind_143
                by_cases sw_19_169 : (nI k) = nI 169
                · skip
                  refine tp sw_19_169 ?_
                  have n_19_169 := (nI_eq (a := k) (b := 169) (by omega) (by omega)).mp sw_19_169
                  refine lv_lookup (off := 90) (tgt := 144) hx hb dX9_behind_54 (by decide) (by decide) (by decide) ?_
                  refine lv_iconst (v := nI 3) hx hb dX9_behind_144 (by decide) ?_
                  exact rI (v := nI 3) hx hb hr hlocks rfl hK hP hD hS [] () rfl (by decide) (bh_ok (by (try dsimp only); omega) (show 3 = tbk k by rcases (show k = 128 ∨ k = 129 ∨ k = 130 ∨ k = 132 ∨ k = 166 ∨ k = 167 ∨ k = 168 ∨ k = 169 by (try dsimp only); omega) with h9 | h9 | h9 | h9 | h9 | h9 | h9 | h9 <;> subst h9 <;> first | rfl | (exfalso; omega))) dX9_behind_145
                have m_19_128 : ¬ k = 128 := fun h => sw_19_128 (congrArg nI h)
                have t_19_128 : ¬ (128 : Int) = ((nI k)).toInt := fun h => sw_19_128 (Int32.toInt_inj.mp (h.symm.trans (by decide)))
                have m_19_129 : ¬ k = 129 := fun h => sw_19_129 (congrArg nI h)
                have t_19_129 : ¬ (129 : Int) = ((nI k)).toInt := fun h => sw_19_129 (Int32.toInt_inj.mp (h.symm.trans (by decide)))
                have m_19_130 : ¬ k = 130 := fun h => sw_19_130 (congrArg nI h)
                have t_19_130 : ¬ (130 : Int) = ((nI k)).toInt := fun h => sw_19_130 (Int32.toInt_inj.mp (h.symm.trans (by decide)))
                have m_19_132 : ¬ k = 132 := fun h => sw_19_132 (congrArg nI h)
                have t_19_132 : ¬ (132 : Int) = ((nI k)).toInt := fun h => sw_19_132 (Int32.toInt_inj.mp (h.symm.trans (by decide)))
                have m_19_166 : ¬ k = 166 := fun h => sw_19_166 (congrArg nI h)
                have t_19_166 : ¬ (166 : Int) = ((nI k)).toInt := fun h => sw_19_166 (Int32.toInt_inj.mp (h.symm.trans (by decide)))
                have m_19_167 : ¬ k = 167 := fun h => sw_19_167 (congrArg nI h)
                have t_19_167 : ¬ (167 : Int) = ((nI k)).toInt := fun h => sw_19_167 (Int32.toInt_inj.mp (h.symm.trans (by decide)))
                have m_19_168 : ¬ k = 168 := fun h => sw_19_168 (congrArg nI h)
                have t_19_168 : ¬ (168 : Int) = ((nI k)).toInt := fun h => sw_19_168 (Int32.toInt_inj.mp (h.symm.trans (by decide)))
                have m_19_169 : ¬ k = 169 := fun h => sw_19_169 (congrArg nI h)
                have t_19_169 : ¬ (169 : Int) = ((nI k)).toInt := fun h => sw_19_169 (Int32.toInt_inj.mp (h.symm.trans (by decide)))
                refine lv_lookup (off := 92) (tgt := 146) hx hb dX9_behind_54 (by decide) (by simp [Op.lookupswitch.offset, t_19_128, t_19_129, t_19_130, t_19_132, t_19_166, t_19_167, t_19_168, t_19_169]) (by decide) ?_
                refine lv_iload_n hx hb dX9_behind_146 rfl (lv_at hl 0 rfl) ?_
                refine jI (va_runS (As := [.int (nI k)]) (rest := []) ⟨hx, hb, hml, hown, hts⟩ (c_X9_movesBehind l G ci cz cl q H.size k (by omega)) (va_cwS 1 hts gX9_behind_X9_movesBehind rfl rfl rfl (by decide +kernel) ⟨(Nat.le_of_ble_eq_true rfl), (Nat.le_of_ble_eq_true rfl)⟩) (pS (wc := []) ok hK hP hD hS hA hO [] rfl (by decide)) rfl rfl hl.1 rfl (lv_room (Nat.le_of_ble_eq_true rfl)) dX9_behind_147 ⟨(Nat.le_of_ble_eq_true rfl), (Nat.le_of_ble_eq_true rfl)⟩) (wr := []) hP hD hS hA [] [] rfl rfl (by decide) (by decide) (fun r_20 u H locs hw_20 hP hD hS => ?_)
                try dsimp only at hw_20
                obtain ⟨rfl, h_20⟩ := hw_20
                have hP : va_P G vwCl [] H := hP
                have hD : va_D A [] := hD
                exact rI (v := nI (tbk k)) hx hb hr hlocks rfl hK hP hD hS [] () rfl (by decide) (bh_ok (by (try dsimp only); omega) rfl) dX9_behind_150
              · skip
                have z_18 := mt (nI_leI (a := k) (b := 169) (by omega) (by omega)).mpr c_18
                refine lv_iconst (v := (-1)) hx hb dX9_behind_51 (by decide) ?_
                exact rI (v := (-1)) hx hb hr hlocks rfl hK hP hD hS [] () rfl (by decide) (Or.inr ⟨by (try dsimp only); omega, rfl, by decide⟩) dX9_behind_52
            · skip
              have z_17 := mt (nI_ltI (a := 165) (b := k) (by omega) (by omega)).mpr c_17
              refine lv_iconst (v := nI 0) hx hb dX9_behind_42 (by decide) ?_
              exact rI (v := nI 0) hx hb hr hlocks rfl hK hP hD hS [] () rfl (by decide) (bh_ok (by (try dsimp only); omega) (tbk_0 (by (try dsimp only); omega)).symm) dX9_behind_43
