set_option maxHeartbeats 4000000 in
set_option maxRecDepth 100000 in
theorem c_X9_define (l : Launch) (G : va_G) (ci cz cl : ClassId) (q : Nat → Nat) (sz : Nat) (ref : Int32) (n : Nat) (num : Nat) (den : Nat) (mag : Nat) (fac : UInt64) (who : Nat) (fnd : Int32) (pc : Nat) (ic : Nat) (a : Nat) (sta : Nat) (lb : Nat) (la : Nat) (fo : Int32) (dee : Nat) (kc : Nat) (fl : Nat → Int32) (wd : Nat → Int32) (df : Nat → Int32) (ag : Nat → Int32) (mk : Nat → Int32) (sc : Nat → Int32) (nu : Nat → Int32) (co : Nat → Int32) (fi : Nat → Int32) (ad : Nat → Int32) (it : Nat → Int32) (sp : Nat → Int32) (stk : Nat → Int32) (hn : n ≤ 600) (hB : FB fl) (ha : a + 6 ≤ n) (hM : MK kc pc ic fi co fac fo sta lb la dee num den mag) : CtI l yX9_define wsX9_define ({ frames := 1, cells := 0, slots := 0, locals := 24 }) G (TY ci cz cl) O0 [.ref (q 0)] [oM q ref n num den mag fac who fnd pc ic a sta lb la fo dee kc, aI ci (q 1) 600 fl, aI ci (q 2) 1024 wd, aI cz (q 3) 8 df, aI cz (q 4) 8 ag, aI ci (q 5) 8 mk, aI ci (q 6) 8 sc, aI ci (q 7) 12 nu, aI ci (q 8) 12 co, aI ci (q 9) 12 fi, aI ci (q 10) 12 ad, aI ci (q 11) 1800 it, aI ci (q 12) 8 sp, aI ci (q 13) 160 stk] sz (fun (r : Int32) (u : Nat × (Nat → Int32) × (Nat → Int32) × (Nat → Int32) × (Nat → Int32)) => r = nI u.1 ∧ u.1 ≤ 1 ∧ RDef fl n a sta df ag mk sc u.1 u.2.1 u.2.2.1 u.2.2.2.1 u.2.2.2.2) (fun u : Nat × (Nat → Int32) × (Nat → Int32) × (Nat → Int32) × (Nat → Int32) => [oM q ref n num den mag fac who fnd pc ic a sta lb la fo dee kc, aI ci (q 1) 600 fl, aI ci (q 2) 1024 wd, aI cz (q 3) 8 u.2.1, aI cz (q 4) 8 u.2.2.1, aI ci (q 5) 8 u.2.2.2.1, aI ci (q 6) 8 u.2.2.2.2, aI ci (q 7) 12 nu, aI ci (q 8) 12 co, aI ci (q 9) 12 fi, aI ci (q 10) 12 ad, aI ci (q 11) 1800 it, aI ci (q 12) 8 sp, aI ci (q 13) 160 stk]) 0 0 := by
  refine Met.ofW (cc := cX9_define) (maxL := 5) (ret := (some .boolean)) (by decide) rfl ?_
  intro p e s m args below meth c s₁ B hml hv
  obtain ⟨rfl, ⟨hsz, hP, hK, hD0⟩, hO⟩ := hv
  have hx := B.exec
  have hb := B.bytes
  have hr := B.returns
  have hts := atoms_spec (ws := wsX9_define) B.pre
  have hown : s.vm.findClass RX9 = some m.cls := findClass_of_methodNamed B.named
  have hlocks := B.notSynchronized
  subst hsz
  have hD := hD0.self (sz := s.heap.size)
  generalize hAe : va_A [oM q ref n num den mag fac who fnd pc ic a sta lb la fo dee kc, aI ci (q 1) 600 fl, aI ci (q 2) 1024 wd, aI cz (q 3) 8 df, aI cz (q 4) 8 ag, aI ci (q 5) 8 mk, aI ci (q 6) 8 sc, aI ci (q 7) 12 nu, aI ci (q 8) 12 co, aI ci (q 9) 12 fi, aI ci (q 10) 12 ad, aI ci (q 11) 1800 it, aI ci (q 12) 8 sp, aI ci (q 13) 160 stk] s.heap.size = A at hD hO ⊢
  have hA : ∀ q : Nat, s.heap.size ≤ q → A q := fun q h => by rw [← hAe]; exact Or.inr h
  have ok := ok0
  refine startH (A := A) (fun H locs hP hS => ?_) hP
  have hi_X9 := (by decide +kernel : ∀ w ∈ wsX90, w ∈ wsX9_define)
  have f_7 := hts (.fieldLink RX9 7 "PageReaderModel" "file" "[I") (by decide +kernel)
  have f_105 := hts (.fieldLink RX9 105 "PageReaderModel" "at" "I") (by decide +kernel)
  have f_128 := hts (.fieldLink RX9 128 "PageReaderModel" "state" "I") (by decide +kernel)
  have f_16 := hts (.fieldLink RX9 16 "PageReaderModel" "defined" "[Z") (by decide +kernel)
  have f_23 := hts (.fieldLink RX9 23 "PageReaderModel" "marks" "[I") (by decide +kernel)
  have f_26 := hts (.fieldLink RX9 26 "PageReaderModel" "scales" "[I") (by decide +kernel)
  have f_20 := hts (.fieldLink RX9 20 "PageReaderModel" "again" "[Z") (by decide +kernel)
  have hl := lv_entry ([.ref (q 0)]) (n := 5) (Nat.le_of_ble_eq_true rfl)
  rw [lg_entry_eq]
  generalize (lg_sl ([.ref (q 0)]) ++ List.replicate (5 - (lg_sl ([.ref (q 0)])).length) Slot.unset).toArray = ls at hl ⊢
  have hl : lv_has ls 5 [(0, .ref (q 0))] := hl
  obtain ⟨hkc, hpc, hic, hPI, hf, hFO, hst, hbd⟩ := hM
  have hb1 := rdN_b hB n (a + 1)
  refine lv_aload_n hx hb dX9_define_0 rfl (lv_at hl 0 rfl) ?_
  refine va_get (D := G) (ci := 8) (v := .ref (q 1)) (C := RX9) (T := TX9) (N := 30) hx hb hts hi_X9 hown hK hP 0 rfl rfl 1 (by decide) f_7 (fun _ h9 => h9) rfl dX9_define_1 ?_
  refine lv_aload_n hx hb dX9_define_4 rfl (lv_at hl 0 rfl) ?_
  refine va_get (D := G) (ci := 8) (v := .int (nI a)) (C := RX9) (T := TX9) (N := 30) hx hb hts hi_X9 hown hK hP 0 rfl rfl 21 (by decide) f_105 (fun _ h9 => h9) rfl dX9_define_5 ?_
  refine lv_iconst (v := nI 1) hx hb dX9_define_8 (by decide) ?_
  refine lv_iadd hx hb dX9_define_9 ?_
  refine tp (nI_add _ _) ?_
  refine va_iald hx hb hK hP 1 0 rfl rfl (vp_in_nI (by omega) (by omega)) dX9_define_10 ?_
  refine tp (y := fl (a + 1)) (congrArg fl (nI_clamp (by omega))) ?_
  refine tp (y := nI (rdN fl n (a + 1) 1)) (rdN_row hB (by omega)) ?_
  refine lv_istore_n (lv' := [(1, .int (nI (rdN fl n (a + 1) 1))), (0, .ref (q 0))]) hx hb dX9_define_11 rfl hl (by decide) rfl (fun ls hl => ?_)
  refine lv_aload_n hx hb dX9_define_12 rfl (lv_at hl 1 rfl) ?_
  refine lv_aload_n hx hb dX9_define_13 rfl (lv_at hl 1 rfl) ?_
  refine va_get (D := G) (ci := 8) (v := .int (nI a)) (C := RX9) (T := TX9) (N := 30) hx hb hts hi_X9 hown hK hP 0 rfl rfl 21 (by decide) f_105 (fun _ h9 => h9) rfl dX9_define_14 ?_
  refine lv_iconst (v := nI 2) hx hb dX9_define_17 (by decide) ?_
  refine lv_iadd hx hb dX9_define_18 ?_
  refine tp (nI_add _ _) ?_
  refine lv_iconst (v := nI 2) hx hb dX9_define_19 (by decide) ?_
  refine jI (va_runV (As := [.int (nI (a + 2)), .int (nI 2)]) (rest := []) ⟨hx, hb, hml, hown, hts⟩ (c_X9_numberAt l G ci cz cl q H.size (a + 2) 2 ref n num den mag fac who fnd pc ic a sta lb la fo dee kc fl wd df ag mk sc nu co fi ad it sp stk (by omega) hB (by omega) (by omega)) (cwV 2 hts gX9_define_X9_numberAt rfl rfl rfl (by decide +kernel) ⟨(Nat.le_of_ble_eq_true rfl), (Nat.le_of_ble_eq_true rfl)⟩) (pV (wc := [oM q ref n num den mag fac who fnd pc ic a sta lb la fo dee kc, aI ci (q 1) 600 fl, aI ci (q 2) 1024 wd, aI cz (q 3) 8 df, aI cz (q 4) 8 ag, aI ci (q 5) 8 mk, aI ci (q 6) 8 sc, aI ci (q 7) 12 nu, aI ci (q 8) 12 co, aI ci (q 9) 12 fi, aI ci (q 10) 12 ad, aI ci (q 11) 1800 it, aI ci (q 12) 8 sp, aI ci (q 13) 160 stk]) ok hK hP hD hS hA hO [0, 1, 2, 3, 4, 5, 6, 7, 8, 9, 10, 11, 12, 13] rfl (by decide) 0 rfl rfl) rfl rfl hl.1 rfl (lv_room (Nat.le_of_ble_eq_true rfl)) dX9_define_20 ⟨(Nat.le_of_ble_eq_true rfl), (Nat.le_of_ble_eq_true rfl)⟩) (wr := []) hP hD hS hA [0, 1, 2, 3, 4, 5, 6, 7, 8, 9, 10, 11, 12, 13] [] rfl rfl (by decide) (by decide) (fun r_1 u H locs hw_1 hP hD hS => ?_)
  try dsimp only at hw_1
  obtain ⟨rfl, h_1⟩ := hw_1
  have hP : va_P G vwCl [oM q ref n num den mag fac who fnd pc ic a sta lb la fo dee kc, aI ci (q 1) 600 fl, aI ci (q 2) 1024 wd, aI cz (q 3) 8 df, aI cz (q 4) 8 ag, aI ci (q 5) 8 mk, aI ci (q 6) 8 sc, aI ci (q 7) 12 nu, aI ci (q 8) 12 co, aI ci (q 9) 12 fi, aI ci (q 10) 12 ad, aI ci (q 11) 1800 it, aI ci (q 12) 8 sp, aI ci (q 13) 160 stk] H := hP
  have hD : va_D A [oM q ref n num den mag fac who fnd pc ic a sta lb la fo dee kc, aI ci (q 1) 600 fl, aI ci (q 2) 1024 wd, aI cz (q 3) 8 df, aI cz (q 4) 8 ag, aI ci (q 5) 8 mk, aI ci (q 6) 8 sc, aI ci (q 7) 12 nu, aI ci (q 8) 12 co, aI ci (q 9) 12 fi, aI ci (q 10) 12 ad, aI ci (q 11) 1800 it, aI ci (q 12) 8 sp, aI ci (q 13) 160 stk] := hD
  refine lv_istore_n (lv' := [(2, .int (nI (rdN fl n (a + 2) 2))), (1, .int (nI (rdN fl n (a + 1) 1))), (0, .ref (q 0))]) hx hb dX9_define_23 rfl hl (by decide) rfl (fun ls hl => ?_)
  refine lv_aload_n hx hb dX9_define_24 rfl (lv_at hl 2 rfl) ?_
  refine lv_aload_n hx hb dX9_define_25 rfl (lv_at hl 2 rfl) ?_
  refine va_get (D := G) (ci := 8) (v := .int (nI a)) (C := RX9) (T := TX9) (N := 30) hx hb hts hi_X9 hown hK hP 0 rfl rfl 21 (by decide) f_105 (fun _ h9 => h9) rfl dX9_define_26 ?_
  refine lv_iconst (v := nI 4) hx hb dX9_define_29 (by decide) ?_
  refine lv_iadd hx hb dX9_define_30 ?_
  refine tp (nI_add _ _) ?_
  refine lv_iconst (v := nI 2) hx hb dX9_define_31 (by decide) ?_
  refine jI (va_runV (As := [.int (nI (a + 4)), .int (nI 2)]) (rest := []) ⟨hx, hb, hml, hown, hts⟩ (c_X9_numberAt l G ci cz cl q H.size (a + 4) 2 ref n num den mag fac who fnd pc ic a sta lb la fo dee kc fl wd df ag mk sc nu co fi ad it sp stk (by omega) hB (by omega) (by omega)) (cwV 2 hts gX9_define_X9_numberAt rfl rfl rfl (by decide +kernel) ⟨(Nat.le_of_ble_eq_true rfl), (Nat.le_of_ble_eq_true rfl)⟩) (pV (wc := [oM q ref n num den mag fac who fnd pc ic a sta lb la fo dee kc, aI ci (q 1) 600 fl, aI ci (q 2) 1024 wd, aI cz (q 3) 8 df, aI cz (q 4) 8 ag, aI ci (q 5) 8 mk, aI ci (q 6) 8 sc, aI ci (q 7) 12 nu, aI ci (q 8) 12 co, aI ci (q 9) 12 fi, aI ci (q 10) 12 ad, aI ci (q 11) 1800 it, aI ci (q 12) 8 sp, aI ci (q 13) 160 stk]) ok hK hP hD hS hA hO [0, 1, 2, 3, 4, 5, 6, 7, 8, 9, 10, 11, 12, 13] rfl (by decide) 0 rfl rfl) rfl rfl hl.1 rfl (lv_room (Nat.le_of_ble_eq_true rfl)) dX9_define_32 ⟨(Nat.le_of_ble_eq_true rfl), (Nat.le_of_ble_eq_true rfl)⟩) (wr := []) hP hD hS hA [0, 1, 2, 3, 4, 5, 6, 7, 8, 9, 10, 11, 12, 13] [] rfl rfl (by decide) (by decide) (fun r_2 u H locs hw_2 hP hD hS => ?_)
  try dsimp only at hw_2
  obtain ⟨rfl, h_2⟩ := hw_2
  have hP : va_P G vwCl [oM q ref n num den mag fac who fnd pc ic a sta lb la fo dee kc, aI ci (q 1) 600 fl, aI ci (q 2) 1024 wd, aI cz (q 3) 8 df, aI cz (q 4) 8 ag, aI ci (q 5) 8 mk, aI ci (q 6) 8 sc, aI ci (q 7) 12 nu, aI ci (q 8) 12 co, aI ci (q 9) 12 fi, aI ci (q 10) 12 ad, aI ci (q 11) 1800 it, aI ci (q 12) 8 sp, aI ci (q 13) 160 stk] H := hP
  have hD : va_D A [oM q ref n num den mag fac who fnd pc ic a sta lb la fo dee kc, aI ci (q 1) 600 fl, aI ci (q 2) 1024 wd, aI cz (q 3) 8 df, aI cz (q 4) 8 ag, aI ci (q 5) 8 mk, aI ci (q 6) 8 sc, aI ci (q 7) 12 nu, aI ci (q 8) 12 co, aI ci (q 9) 12 fi, aI ci (q 10) 12 ad, aI ci (q 11) 1800 it, aI ci (q 12) 8 sp, aI ci (q 13) 160 stk] := hD
  refine lv_istore_n (lv' := [(3, .int (nI (rdN fl n (a + 4) 2))), (2, .int (nI (rdN fl n (a + 2) 2))), (1, .int (nI (rdN fl n (a + 1) 1))), (0, .ref (q 0))]) hx hb dX9_define_35 rfl hl (by decide) rfl (fun ls hl => ?_)
  refine lv_iload_n hx hb dX9_define_36 rfl (lv_at hl 2 rfl) ?_
  refine lv_bipush (v := nI 7) hx hb dX9_define_37 (by decide) ?_
  refine lv_icmp_le (tgt := 44) hx hb dX9_define_39 (by decide) (fun c_3 => ?_) (fun c_3 => ?_)
  · skip
    have z_3 := (nI_leI (a := (rdN fl n (a + 1) 1)) (b := 7) (by omega) (by omega)).mp c_3
    refine lv_aload_n hx hb dX9_define_44 rfl (lv_at hl 3 rfl) ?_
    refine va_get (D := G) (ci := 8) (v := .int (nI sta)) (C := RX9) (T := TX9) (N := 30) hx hb hts hi_X9 hown hK hP 0 rfl rfl 22 (by decide) f_128 (fun _ h9 => h9) rfl dX9_define_45 ?_
    refine lv_iconst (v := nI 3) hx hb dX9_define_48 (by decide) ?_
    refine lv_icmp_ne (tgt := 107) hx hb dX9_define_49 (by decide) (fun c_4 => ?_) (fun c_4 => ?_)
    · skip
      have z_4 := mt (nI_eq (a := sta) (b := 3) (by omega) (by omega)).mpr c_4
      refine lv_aload_n hx hb dX9_define_107 rfl (lv_at hl 3 rfl) ?_
      refine va_get (D := G) (ci := 8) (v := .ref (q 3)) (C := RX9) (T := TX9) (N := 30) hx hb hts hi_X9 hown hK hP 0 rfl rfl 4 (by decide) f_16 (fun _ h9 => h9) rfl dX9_define_108 ?_
      refine lv_iload_n hx hb dX9_define_111 rfl (lv_at hl 2 rfl) ?_
      refine va_zald hx hb hK hP 3 1 rfl rfl (vp_in_nI (by omega) (by omega)) dX9_define_112 ?_
      refine tp (y := df (rdN fl n (a + 1) 1)) (congrArg df (nI_clamp (by omega))) ?_
      refine lv_if_eq (tgt := 118) hx hb dX9_define_113 (by decide) (fun c_5 => ?_) (fun c_5 => ?_)
      · skip
        refine lv_aload_n hx hb dX9_define_118 rfl (lv_at hl 3 rfl) ?_
        refine va_get (D := G) (ci := 8) (v := .ref (q 3)) (C := RX9) (T := TX9) (N := 30) hx hb hts hi_X9 hown hK hP 0 rfl rfl 4 (by decide) f_16 (fun _ h9 => h9) rfl dX9_define_119 ?_
        refine lv_iload_n hx hb dX9_define_122 rfl (lv_at hl 2 rfl) ?_
        refine lv_iconst (v := nI 1) hx hb dX9_define_123 (by decide) ?_
        refine va_zast hx hb hK hP hD hS 3 1 rfl rfl (vp_in_nI (by omega) (by omega)) dX9_define_124 (fun H locs hP hD hS => ?_)
        rw [nI_clamp (by omega), vn1] at hP hD
        have hP : va_P G vwCl [oM q ref n num den mag fac who fnd pc ic a sta lb la fo dee kc, aI ci (q 1) 600 fl, aI ci (q 2) 1024 wd, aI cz (q 3) 8 (upd df (rdN fl n (a + 1) 1) (nI 1)), aI cz (q 4) 8 ag, aI ci (q 5) 8 mk, aI ci (q 6) 8 sc, aI ci (q 7) 12 nu, aI ci (q 8) 12 co, aI ci (q 9) 12 fi, aI ci (q 10) 12 ad, aI ci (q 11) 1800 it, aI ci (q 12) 8 sp, aI ci (q 13) 160 stk] H := hP
        have hD : va_D A [oM q ref n num den mag fac who fnd pc ic a sta lb la fo dee kc, aI ci (q 1) 600 fl, aI ci (q 2) 1024 wd, aI cz (q 3) 8 (upd df (rdN fl n (a + 1) 1) (nI 1)), aI cz (q 4) 8 ag, aI ci (q 5) 8 mk, aI ci (q 6) 8 sc, aI ci (q 7) 12 nu, aI ci (q 8) 12 co, aI ci (q 9) 12 fi, aI ci (q 10) 12 ad, aI ci (q 11) 1800 it, aI ci (q 12) 8 sp, aI ci (q 13) 160 stk] := hD
        refine lv_aload_n hx hb dX9_define_125 rfl (lv_at hl 3 rfl) ?_
        refine va_get (D := G) (ci := 8) (v := .ref (q 5)) (C := RX9) (T := TX9) (N := 30) hx hb hts hi_X9 hown hK hP 0 rfl rfl 6 (by decide) f_23 (fun _ h9 => h9) rfl dX9_define_126 ?_
        refine lv_iload_n hx hb dX9_define_129 rfl (lv_at hl 2 rfl) ?_
        refine lv_iload_n hx hb dX9_define_130 rfl (lv_at hl 1 rfl) ?_
        refine va_iast hx hb hK hP hD hS 5 0 rfl rfl (vp_in_nI (by omega) (by omega)) dX9_define_131 (fun H locs hP hD hS => ?_)
        rw [nI_clamp (by omega)] at hP hD
        have hP : va_P G vwCl [oM q ref n num den mag fac who fnd pc ic a sta lb la fo dee kc, aI ci (q 1) 600 fl, aI ci (q 2) 1024 wd, aI cz (q 3) 8 (upd df (rdN fl n (a + 1) 1) (nI 1)), aI cz (q 4) 8 ag, aI ci (q 5) 8 (upd mk (rdN fl n (a + 1) 1) (nI (rdN fl n (a + 2) 2))), aI ci (q 6) 8 sc, aI ci (q 7) 12 nu, aI ci (q 8) 12 co, aI ci (q 9) 12 fi, aI ci (q 10) 12 ad, aI ci (q 11) 1800 it, aI ci (q 12) 8 sp, aI ci (q 13) 160 stk] H := hP
        have hD : va_D A [oM q ref n num den mag fac who fnd pc ic a sta lb la fo dee kc, aI ci (q 1) 600 fl, aI ci (q 2) 1024 wd, aI cz (q 3) 8 (upd df (rdN fl n (a + 1) 1) (nI 1)), aI cz (q 4) 8 ag, aI ci (q 5) 8 (upd mk (rdN fl n (a + 1) 1) (nI (rdN fl n (a + 2) 2))), aI ci (q 6) 8 sc, aI ci (q 7) 12 nu, aI ci (q 8) 12 co, aI ci (q 9) 12 fi, aI ci (q 10) 12 ad, aI ci (q 11) 1800 it, aI ci (q 12) 8 sp, aI ci (q 13) 160 stk] := hD
        refine lv_aload_n hx hb dX9_define_132 rfl (lv_at hl 3 rfl) ?_
        refine va_get (D := G) (ci := 8) (v := .ref (q 6)) (C := RX9) (T := TX9) (N := 30) hx hb hts hi_X9 hown hK hP 0 rfl rfl 7 (by decide) f_26 (fun _ h9 => h9) rfl dX9_define_133 ?_
        refine lv_iload_n hx hb dX9_define_136 rfl (lv_at hl 2 rfl) ?_
        refine lv_iload_n hx hb dX9_define_137 rfl (lv_at hl 0 rfl) ?_
        refine va_iast hx hb hK hP hD hS 6 0 rfl rfl (vp_in_nI (by omega) (by omega)) dX9_define_138 (fun H locs hP hD hS => ?_)
        rw [nI_clamp (by omega)] at hP hD
        have hP : va_P G vwCl [oM q ref n num den mag fac who fnd pc ic a sta lb la fo dee kc, aI ci (q 1) 600 fl, aI ci (q 2) 1024 wd, aI cz (q 3) 8 (upd df (rdN fl n (a + 1) 1) (nI 1)), aI cz (q 4) 8 ag, aI ci (q 5) 8 (upd mk (rdN fl n (a + 1) 1) (nI (rdN fl n (a + 2) 2))), aI ci (q 6) 8 (upd sc (rdN fl n (a + 1) 1) (nI (rdN fl n (a + 4) 2))), aI ci (q 7) 12 nu, aI ci (q 8) 12 co, aI ci (q 9) 12 fi, aI ci (q 10) 12 ad, aI ci (q 11) 1800 it, aI ci (q 12) 8 sp, aI ci (q 13) 160 stk] H := hP
        have hD : va_D A [oM q ref n num den mag fac who fnd pc ic a sta lb la fo dee kc, aI ci (q 1) 600 fl, aI ci (q 2) 1024 wd, aI cz (q 3) 8 (upd df (rdN fl n (a + 1) 1) (nI 1)), aI cz (q 4) 8 ag, aI ci (q 5) 8 (upd mk (rdN fl n (a + 1) 1) (nI (rdN fl n (a + 2) 2))), aI ci (q 6) 8 (upd sc (rdN fl n (a + 1) 1) (nI (rdN fl n (a + 4) 2))), aI ci (q 7) 12 nu, aI ci (q 8) 12 co, aI ci (q 9) 12 fi, aI ci (q 10) 12 ad, aI ci (q 11) 1800 it, aI ci (q 12) 8 sp, aI ci (q 13) 160 stk] := hD
        refine lv_iconst (v := nI 1) hx hb dX9_define_139 (by decide) ?_
        exact rI (v := nI 1) hx hb hr hlocks nb1 hK hP hD hS [0, 1, 2, 3, 4, 5, 6, 7, 8, 9, 10, 11, 12, 13] (1, upd df (rdN fl n (a + 1) 1) (nI 1), ag, upd mk (rdN fl n (a + 1) 1) (nI (rdN fl n (a + 2) 2)), upd sc (rdN fl n (a + 1) 1) (nI (rdN fl n (a + 4) 2))) rfl (by decide) ⟨rfl, by (try dsimp only); omega, Or.inr (Or.inl ⟨rfl, by (try dsimp only); omega, by (try dsimp only); omega, c_5, rfl, rfl, rfl, rfl⟩)⟩ dX9_define_140
      · skip
        refine lv_iconst (v := nI 0) hx hb dX9_define_116 (by decide) ?_
        exact rI (v := nI 0) hx hb hr hlocks nb0 hK hP hD hS [0, 1, 2, 3, 4, 5, 6, 7, 8, 9, 10, 11, 12, 13] (0, df, ag, mk, sc) rfl (by decide) ⟨rfl, by (try dsimp only); omega, Or.inr (Or.inr ⟨rfl, Or.inr (Or.inl ⟨by (try dsimp only); omega, c_5⟩)⟩)⟩ dX9_define_117
    · skip
      have z_4 := (nI_eq (a := sta) (b := 3) (by omega) (by omega)).mp c_4
      refine lv_aload_n hx hb dX9_define_52 rfl (lv_at hl 3 rfl) ?_
      refine va_get (D := G) (ci := 8) (v := .ref (q 3)) (C := RX9) (T := TX9) (N := 30) hx hb hts hi_X9 hown hK hP 0 rfl rfl 4 (by decide) f_16 (fun _ h9 => h9) rfl dX9_define_53 ?_
      refine lv_iload_n hx hb dX9_define_56 rfl (lv_at hl 2 rfl) ?_
      refine va_zald hx hb hK hP 3 1 rfl rfl (vp_in_nI (by omega) (by omega)) dX9_define_57 ?_
      refine tp (y := df (rdN fl n (a + 1) 1)) (congrArg df (nI_clamp (by omega))) ?_
      refine lv_if_eq (tgt := 94) hx hb dX9_define_58 (by decide) (fun c_6 => ?_) (fun c_6 => ?_)
      · skip
        refine lv_iconst (v := nI 0) hx hb dX9_define_94 (by decide) ?_
        refine lv_istore (lv' := [(4, .int (nI 0)), (3, .int (nI (rdN fl n (a + 4) 2))), (2, .int (nI (rdN fl n (a + 2) 2))), (1, .int (nI (rdN fl n (a + 1) 1))), (0, .ref (q 0))]) hx hb dX9_define_95 hl (by decide) rfl (fun ls hl => ?_)
        refine lv_aload_n hx hb dX9_define_97 rfl (lv_at hl 4 rfl) ?_
        refine va_get (D := G) (ci := 8) (v := .ref (q 4)) (C := RX9) (T := TX9) (N := 30) hx hb hts hi_X9 hown hK hP 0 rfl rfl 5 (by decide) f_20 (fun _ h9 => h9) rfl dX9_define_98 ?_
        refine lv_iload_n hx hb dX9_define_101 rfl (lv_at hl 3 rfl) ?_
        refine lv_iconst (v := nI 1) hx hb dX9_define_102 (by decide) ?_
        refine va_zast hx hb hK hP hD hS 4 1 rfl rfl (vp_in_nI (by omega) (by omega)) dX9_define_103 (fun H locs hP hD hS => ?_)
        rw [nI_clamp (by omega), vn1] at hP hD
        have hP : va_P G vwCl [oM q ref n num den mag fac who fnd pc ic a sta lb la fo dee kc, aI ci (q 1) 600 fl, aI ci (q 2) 1024 wd, aI cz (q 3) 8 df, aI cz (q 4) 8 (upd ag (rdN fl n (a + 1) 1) (nI 1)), aI ci (q 5) 8 mk, aI ci (q 6) 8 sc, aI ci (q 7) 12 nu, aI ci (q 8) 12 co, aI ci (q 9) 12 fi, aI ci (q 10) 12 ad, aI ci (q 11) 1800 it, aI ci (q 12) 8 sp, aI ci (q 13) 160 stk] H := hP
        have hD : va_D A [oM q ref n num den mag fac who fnd pc ic a sta lb la fo dee kc, aI ci (q 1) 600 fl, aI ci (q 2) 1024 wd, aI cz (q 3) 8 df, aI cz (q 4) 8 (upd ag (rdN fl n (a + 1) 1) (nI 1)), aI ci (q 5) 8 mk, aI ci (q 6) 8 sc, aI ci (q 7) 12 nu, aI ci (q 8) 12 co, aI ci (q 9) 12 fi, aI ci (q 10) 12 ad, aI ci (q 11) 1800 it, aI ci (q 12) 8 sp, aI ci (q 13) 160 stk] := hD
        refine lv_iload hx hb dX9_define_104 (lv_at hl 0 rfl) ?_
        exact rI (v := nI 0) hx hb hr hlocks nb0 hK hP hD hS [0, 1, 2, 3, 4, 5, 6, 7, 8, 9, 10, 11, 12, 13] (0, df, upd ag (rdN fl n (a + 1) 1) (nI 1), mk, sc) rfl (by decide) ⟨rfl, by (try dsimp only); omega, Or.inr (Or.inr ⟨rfl, Or.inr (Or.inr ⟨by (try dsimp only); omega, Or.inl c_6⟩)⟩)⟩ dX9_define_106
      · skip
        refine lv_aload_n hx hb dX9_define_61 rfl (lv_at hl 3 rfl) ?_
        refine va_get (D := G) (ci := 8) (v := .ref (q 4)) (C := RX9) (T := TX9) (N := 30) hx hb hts hi_X9 hown hK hP 0 rfl rfl 5 (by decide) f_20 (fun _ h9 => h9) rfl dX9_define_62 ?_
        refine lv_iload_n hx hb dX9_define_65 rfl (lv_at hl 2 rfl) ?_
        refine va_zald hx hb hK hP 4 1 rfl rfl (vp_in_nI (by omega) (by omega)) dX9_define_66 ?_
        refine tp (y := ag (rdN fl n (a + 1) 1)) (congrArg ag (nI_clamp (by omega))) ?_
        refine lv_if_ne (tgt := 94) hx hb dX9_define_67 (by decide) (fun c_7 => ?_) (fun c_7 => ?_)
        · skip
          refine lv_iconst (v := nI 0) hx hb dX9_define_94 (by decide) ?_
          refine lv_istore (lv' := [(4, .int (nI 0)), (3, .int (nI (rdN fl n (a + 4) 2))), (2, .int (nI (rdN fl n (a + 2) 2))), (1, .int (nI (rdN fl n (a + 1) 1))), (0, .ref (q 0))]) hx hb dX9_define_95 hl (by decide) rfl (fun ls hl => ?_)
          refine lv_aload_n hx hb dX9_define_97 rfl (lv_at hl 4 rfl) ?_
          refine va_get (D := G) (ci := 8) (v := .ref (q 4)) (C := RX9) (T := TX9) (N := 30) hx hb hts hi_X9 hown hK hP 0 rfl rfl 5 (by decide) f_20 (fun _ h9 => h9) rfl dX9_define_98 ?_
          refine lv_iload_n hx hb dX9_define_101 rfl (lv_at hl 3 rfl) ?_
          refine lv_iconst (v := nI 1) hx hb dX9_define_102 (by decide) ?_
          refine va_zast hx hb hK hP hD hS 4 1 rfl rfl (vp_in_nI (by omega) (by omega)) dX9_define_103 (fun H locs hP hD hS => ?_)
          rw [nI_clamp (by omega), vn1] at hP hD
          have hP : va_P G vwCl [oM q ref n num den mag fac who fnd pc ic a sta lb la fo dee kc, aI ci (q 1) 600 fl, aI ci (q 2) 1024 wd, aI cz (q 3) 8 df, aI cz (q 4) 8 (upd ag (rdN fl n (a + 1) 1) (nI 1)), aI ci (q 5) 8 mk, aI ci (q 6) 8 sc, aI ci (q 7) 12 nu, aI ci (q 8) 12 co, aI ci (q 9) 12 fi, aI ci (q 10) 12 ad, aI ci (q 11) 1800 it, aI ci (q 12) 8 sp, aI ci (q 13) 160 stk] H := hP
          have hD : va_D A [oM q ref n num den mag fac who fnd pc ic a sta lb la fo dee kc, aI ci (q 1) 600 fl, aI ci (q 2) 1024 wd, aI cz (q 3) 8 df, aI cz (q 4) 8 (upd ag (rdN fl n (a + 1) 1) (nI 1)), aI ci (q 5) 8 mk, aI ci (q 6) 8 sc, aI ci (q 7) 12 nu, aI ci (q 8) 12 co, aI ci (q 9) 12 fi, aI ci (q 10) 12 ad, aI ci (q 11) 1800 it, aI ci (q 12) 8 sp, aI ci (q 13) 160 stk] := hD
          refine lv_iload hx hb dX9_define_104 (lv_at hl 0 rfl) ?_
          exact rI (v := nI 0) hx hb hr hlocks nb0 hK hP hD hS [0, 1, 2, 3, 4, 5, 6, 7, 8, 9, 10, 11, 12, 13] (0, df, upd ag (rdN fl n (a + 1) 1) (nI 1), mk, sc) rfl (by decide) ⟨rfl, by (try dsimp only); omega, Or.inr (Or.inr ⟨rfl, Or.inr (Or.inr ⟨by (try dsimp only); omega, Or.inr (Or.inl c_7)⟩)⟩)⟩ dX9_define_106
        · skip
          refine lv_aload_n hx hb dX9_define_70 rfl (lv_at hl 3 rfl) ?_
          refine va_get (D := G) (ci := 8) (v := .ref (q 5)) (C := RX9) (T := TX9) (N := 30) hx hb hts hi_X9 hown hK hP 0 rfl rfl 6 (by decide) f_23 (fun _ h9 => h9) rfl dX9_define_71 ?_
          refine lv_iload_n hx hb dX9_define_74 rfl (lv_at hl 2 rfl) ?_
          refine va_iald hx hb hK hP 5 0 rfl rfl (vp_in_nI (by omega) (by omega)) dX9_define_75 ?_
          refine tp (y := mk (rdN fl n (a + 1) 1)) (congrArg mk (nI_clamp (by omega))) ?_
          refine lv_iload_n hx hb dX9_define_76 rfl (lv_at hl 1 rfl) ?_
          refine lv_icmp_ne (tgt := 94) hx hb dX9_define_77 (by decide) (fun c_8 => ?_) (fun c_8 => ?_)
          · skip
            refine lv_iconst (v := nI 0) hx hb dX9_define_94 (by decide) ?_
            refine lv_istore (lv' := [(4, .int (nI 0)), (3, .int (nI (rdN fl n (a + 4) 2))), (2, .int (nI (rdN fl n (a + 2) 2))), (1, .int (nI (rdN fl n (a + 1) 1))), (0, .ref (q 0))]) hx hb dX9_define_95 hl (by decide) rfl (fun ls hl => ?_)
            refine lv_aload_n hx hb dX9_define_97 rfl (lv_at hl 4 rfl) ?_
            refine va_get (D := G) (ci := 8) (v := .ref (q 4)) (C := RX9) (T := TX9) (N := 30) hx hb hts hi_X9 hown hK hP 0 rfl rfl 5 (by decide) f_20 (fun _ h9 => h9) rfl dX9_define_98 ?_
            refine lv_iload_n hx hb dX9_define_101 rfl (lv_at hl 3 rfl) ?_
            refine lv_iconst (v := nI 1) hx hb dX9_define_102 (by decide) ?_
            refine va_zast hx hb hK hP hD hS 4 1 rfl rfl (vp_in_nI (by omega) (by omega)) dX9_define_103 (fun H locs hP hD hS => ?_)
            rw [nI_clamp (by omega), vn1] at hP hD
            have hP : va_P G vwCl [oM q ref n num den mag fac who fnd pc ic a sta lb la fo dee kc, aI ci (q 1) 600 fl, aI ci (q 2) 1024 wd, aI cz (q 3) 8 df, aI cz (q 4) 8 (upd ag (rdN fl n (a + 1) 1) (nI 1)), aI ci (q 5) 8 mk, aI ci (q 6) 8 sc, aI ci (q 7) 12 nu, aI ci (q 8) 12 co, aI ci (q 9) 12 fi, aI ci (q 10) 12 ad, aI ci (q 11) 1800 it, aI ci (q 12) 8 sp, aI ci (q 13) 160 stk] H := hP
            have hD : va_D A [oM q ref n num den mag fac who fnd pc ic a sta lb la fo dee kc, aI ci (q 1) 600 fl, aI ci (q 2) 1024 wd, aI cz (q 3) 8 df, aI cz (q 4) 8 (upd ag (rdN fl n (a + 1) 1) (nI 1)), aI ci (q 5) 8 mk, aI ci (q 6) 8 sc, aI ci (q 7) 12 nu, aI ci (q 8) 12 co, aI ci (q 9) 12 fi, aI ci (q 10) 12 ad, aI ci (q 11) 1800 it, aI ci (q 12) 8 sp, aI ci (q 13) 160 stk] := hD
            refine lv_iload hx hb dX9_define_104 (lv_at hl 0 rfl) ?_
            exact rI (v := nI 0) hx hb hr hlocks nb0 hK hP hD hS [0, 1, 2, 3, 4, 5, 6, 7, 8, 9, 10, 11, 12, 13] (0, df, upd ag (rdN fl n (a + 1) 1) (nI 1), mk, sc) rfl (by decide) ⟨rfl, by (try dsimp only); omega, Or.inr (Or.inr ⟨rfl, Or.inr (Or.inr ⟨by (try dsimp only); omega, Or.inr (Or.inr (Or.inl c_8))⟩)⟩)⟩ dX9_define_106
          · skip
            refine lv_aload_n hx hb dX9_define_80 rfl (lv_at hl 3 rfl) ?_
            refine va_get (D := G) (ci := 8) (v := .ref (q 6)) (C := RX9) (T := TX9) (N := 30) hx hb hts hi_X9 hown hK hP 0 rfl rfl 7 (by decide) f_26 (fun _ h9 => h9) rfl dX9_define_81 ?_
            refine lv_iload_n hx hb dX9_define_84 rfl (lv_at hl 2 rfl) ?_
            refine va_iald hx hb hK hP 6 0 rfl rfl (vp_in_nI (by omega) (by omega)) dX9_define_85 ?_
            refine tp (y := sc (rdN fl n (a + 1) 1)) (congrArg sc (nI_clamp (by omega))) ?_
            refine lv_iload_n hx hb dX9_define_86 rfl (lv_at hl 0 rfl) ?_
            refine lv_icmp_ne (tgt := 94) hx hb dX9_define_87 (by decide) (fun c_9 => ?_) (fun c_9 => ?_)
            · skip
              refine lv_iconst (v := nI 0) hx hb dX9_define_94 (by decide) ?_
              refine lv_istore (lv' := [(4, .int (nI 0)), (3, .int (nI (rdN fl n (a + 4) 2))), (2, .int (nI (rdN fl n (a + 2) 2))), (1, .int (nI (rdN fl n (a + 1) 1))), (0, .ref (q 0))]) hx hb dX9_define_95 hl (by decide) rfl (fun ls hl => ?_)
              refine lv_aload_n hx hb dX9_define_97 rfl (lv_at hl 4 rfl) ?_
              refine va_get (D := G) (ci := 8) (v := .ref (q 4)) (C := RX9) (T := TX9) (N := 30) hx hb hts hi_X9 hown hK hP 0 rfl rfl 5 (by decide) f_20 (fun _ h9 => h9) rfl dX9_define_98 ?_
              refine lv_iload_n hx hb dX9_define_101 rfl (lv_at hl 3 rfl) ?_
              refine lv_iconst (v := nI 1) hx hb dX9_define_102 (by decide) ?_
              refine va_zast hx hb hK hP hD hS 4 1 rfl rfl (vp_in_nI (by omega) (by omega)) dX9_define_103 (fun H locs hP hD hS => ?_)
              rw [nI_clamp (by omega), vn1] at hP hD
              have hP : va_P G vwCl [oM q ref n num den mag fac who fnd pc ic a sta lb la fo dee kc, aI ci (q 1) 600 fl, aI ci (q 2) 1024 wd, aI cz (q 3) 8 df, aI cz (q 4) 8 (upd ag (rdN fl n (a + 1) 1) (nI 1)), aI ci (q 5) 8 mk, aI ci (q 6) 8 sc, aI ci (q 7) 12 nu, aI ci (q 8) 12 co, aI ci (q 9) 12 fi, aI ci (q 10) 12 ad, aI ci (q 11) 1800 it, aI ci (q 12) 8 sp, aI ci (q 13) 160 stk] H := hP
              have hD : va_D A [oM q ref n num den mag fac who fnd pc ic a sta lb la fo dee kc, aI ci (q 1) 600 fl, aI ci (q 2) 1024 wd, aI cz (q 3) 8 df, aI cz (q 4) 8 (upd ag (rdN fl n (a + 1) 1) (nI 1)), aI ci (q 5) 8 mk, aI ci (q 6) 8 sc, aI ci (q 7) 12 nu, aI ci (q 8) 12 co, aI ci (q 9) 12 fi, aI ci (q 10) 12 ad, aI ci (q 11) 1800 it, aI ci (q 12) 8 sp, aI ci (q 13) 160 stk] := hD
              refine lv_iload hx hb dX9_define_104 (lv_at hl 0 rfl) ?_
              exact rI (v := nI 0) hx hb hr hlocks nb0 hK hP hD hS [0, 1, 2, 3, 4, 5, 6, 7, 8, 9, 10, 11, 12, 13] (0, df, upd ag (rdN fl n (a + 1) 1) (nI 1), mk, sc) rfl (by decide) ⟨rfl, by (try dsimp only); omega, Or.inr (Or.inr ⟨rfl, Or.inr (Or.inr ⟨by (try dsimp only); omega, Or.inr (Or.inr (Or.inr c_9))⟩)⟩)⟩ dX9_define_106
            · skip
              refine lv_iconst (v := nI 1) hx hb dX9_define_90 (by decide) ?_
              refine lv_goto (tgt := 95) hx hb dX9_define_91 (by decide) ?_
              refine lv_istore (lv' := [(4, .int (nI 1)), (3, .int (nI (rdN fl n (a + 4) 2))), (2, .int (nI (rdN fl n (a + 2) 2))), (1, .int (nI (rdN fl n (a + 1) 1))), (0, .ref (q 0))]) hx hb dX9_define_95 hl (by decide) rfl (fun ls hl => ?_)
              refine lv_aload_n hx hb dX9_define_97 rfl (lv_at hl 4 rfl) ?_
              refine va_get (D := G) (ci := 8) (v := .ref (q 4)) (C := RX9) (T := TX9) (N := 30) hx hb hts hi_X9 hown hK hP 0 rfl rfl 5 (by decide) f_20 (fun _ h9 => h9) rfl dX9_define_98 ?_
              refine lv_iload_n hx hb dX9_define_101 rfl (lv_at hl 3 rfl) ?_
              refine lv_iconst (v := nI 1) hx hb dX9_define_102 (by decide) ?_
              refine va_zast hx hb hK hP hD hS 4 1 rfl rfl (vp_in_nI (by omega) (by omega)) dX9_define_103 (fun H locs hP hD hS => ?_)
              rw [nI_clamp (by omega), vn1] at hP hD
              have hP : va_P G vwCl [oM q ref n num den mag fac who fnd pc ic a sta lb la fo dee kc, aI ci (q 1) 600 fl, aI ci (q 2) 1024 wd, aI cz (q 3) 8 df, aI cz (q 4) 8 (upd ag (rdN fl n (a + 1) 1) (nI 1)), aI ci (q 5) 8 mk, aI ci (q 6) 8 sc, aI ci (q 7) 12 nu, aI ci (q 8) 12 co, aI ci (q 9) 12 fi, aI ci (q 10) 12 ad, aI ci (q 11) 1800 it, aI ci (q 12) 8 sp, aI ci (q 13) 160 stk] H := hP
              have hD : va_D A [oM q ref n num den mag fac who fnd pc ic a sta lb la fo dee kc, aI ci (q 1) 600 fl, aI ci (q 2) 1024 wd, aI cz (q 3) 8 df, aI cz (q 4) 8 (upd ag (rdN fl n (a + 1) 1) (nI 1)), aI ci (q 5) 8 mk, aI ci (q 6) 8 sc, aI ci (q 7) 12 nu, aI ci (q 8) 12 co, aI ci (q 9) 12 fi, aI ci (q 10) 12 ad, aI ci (q 11) 1800 it, aI ci (q 12) 8 sp, aI ci (q 13) 160 stk] := hD
              refine lv_iload hx hb dX9_define_104 (lv_at hl 0 rfl) ?_
              exact rI (v := nI 1) hx hb hr hlocks nb1 hK hP hD hS [0, 1, 2, 3, 4, 5, 6, 7, 8, 9, 10, 11, 12, 13] (1, df, upd ag (rdN fl n (a + 1) 1) (nI 1), mk, sc) rfl (by decide) ⟨rfl, by (try dsimp only); omega, Or.inl ⟨rfl, by (try dsimp only); omega, by (try dsimp only); omega, c_6, c_7, c_8, c_9, rfl, rfl, rfl, rfl⟩⟩ dX9_define_106
  · skip
    have z_3 := mt (nI_leI (a := (rdN fl n (a + 1) 1)) (b := 7) (by omega) (by omega)).mpr c_3
    refine lv_iconst (v := nI 0) hx hb dX9_define_42 (by decide) ?_
    exact rI (v := nI 0) hx hb hr hlocks nb0 hK hP hD hS [0, 1, 2, 3, 4, 5, 6, 7, 8, 9, 10, 11, 12, 13] (0, df, ag, mk, sc) rfl (by decide) ⟨rfl, by (try dsimp only); omega, Or.inr (Or.inr ⟨rfl, Or.inl (by (try dsimp only); omega)⟩)⟩ dX9_define_43
set_option maxHeartbeats 4000000 in
set_option maxRecDepth 100000 in
theorem c_X9_start (l : Launch) (G : va_G) (ci cz cl : ClassId) (q : Nat → Nat) (sz : Nat) (ref : Int32) (n : Nat) (num : Nat) (den : Nat) (mag : Nat) (fac : UInt64) (who : Nat) (fnd : Int32) (pc : Nat) (ic : Nat) (a : Nat) (sta : Nat) (lb : Nat) (la : Nat) (fo : Int32) (dee : Nat) (kc : Nat) (fl : Nat → Int32) (wd : Nat → Int32) (df : Nat → Int32) (ag : Nat → Int32) (mk : Nat → Int32) (sc : Nat → Int32) (nu : Nat → Int32) (co : Nat → Int32) (fi : Nat → Int32) (ad : Nat → Int32) (it : Nat → Int32) (sp : Nat → Int32) (stk : Nat → Int32) (hn : n ≤ 600) (hB : FB fl) (ha : a + 8 ≤ n) (hM : MK kc pc ic fi co fac fo sta lb la dee num den mag) : CtI l yX9_start wsX9_start ({ frames := 1, cells := 0, slots := 0, locals := 24 }) G (TY ci cz cl) O0 [.ref (q 0)] [oM q ref n num den mag fac who fnd pc ic a sta lb la fo dee kc, aI ci (q 1) 600 fl, aI ci (q 2) 1024 wd, aI cz (q 3) 8 df, aI cz (q 4) 8 ag, aI ci (q 5) 8 mk, aI ci (q 6) 8 sc, aI ci (q 7) 12 nu, aI ci (q 8) 12 co, aI ci (q 9) 12 fi, aI ci (q 10) 12 ad, aI ci (q 11) 1800 it, aI ci (q 12) 8 sp, aI ci (q 13) 160 stk] sz (fun (r : Int32) (u : Nat × Nat × Nat × Nat × UInt64 × Nat) => r = nI u.1 ∧ u.1 ≤ 1 ∧ RStart fl n a u.1 u.2.1 u.2.2.1 u.2.2.2.1 u.2.2.2.2.1 u.2.2.2.2.2 ∧ Fn u.2.2.2.2.1 ∧ ((u.2.2.2.2.2 = 2 → 1 ≤ pc) ∧ u.2.2.2.2.2 ≤ 4) ∧ u.2.1 ≤ 16777215 ∧ u.2.2.1 ≤ 16777215 ∧ u.2.2.2.1 ≤ 16777215) (fun u : Nat × Nat × Nat × Nat × UInt64 × Nat => [oM q ref n u.2.1 u.2.2.1 u.2.2.2.1 u.2.2.2.2.1 who fnd pc ic a u.2.2.2.2.2 lb la fo dee kc, aI ci (q 1) 600 fl, aI ci (q 2) 1024 wd, aI cz (q 3) 8 df, aI cz (q 4) 8 ag, aI ci (q 5) 8 mk, aI ci (q 6) 8 sc, aI ci (q 7) 12 nu, aI ci (q 8) 12 co, aI ci (q 9) 12 fi, aI ci (q 10) 12 ad, aI ci (q 11) 1800 it, aI ci (q 12) 8 sp, aI ci (q 13) 160 stk]) 0 0 := by
  refine Met.ofW (cc := cX9_start) (maxL := 1) (ret := (some .boolean)) (by decide) rfl ?_
  intro p e s m args below meth c s₁ B hml hv
  obtain ⟨rfl, ⟨hsz, hP, hK, hD0⟩, hO⟩ := hv
  have hx := B.exec
  have hb := B.bytes
  have hr := B.returns
  have hts := atoms_spec (ws := wsX9_start) B.pre
  have hown : s.vm.findClass RX9 = some m.cls := findClass_of_methodNamed B.named
  have hlocks := B.notSynchronized
  subst hsz
  have hD := hD0.self (sz := s.heap.size)
  generalize hAe : va_A [oM q ref n num den mag fac who fnd pc ic a sta lb la fo dee kc, aI ci (q 1) 600 fl, aI ci (q 2) 1024 wd, aI cz (q 3) 8 df, aI cz (q 4) 8 ag, aI ci (q 5) 8 mk, aI ci (q 6) 8 sc, aI ci (q 7) 12 nu, aI ci (q 8) 12 co, aI ci (q 9) 12 fi, aI ci (q 10) 12 ad, aI ci (q 11) 1800 it, aI ci (q 12) 8 sp, aI ci (q 13) 160 stk] s.heap.size = A at hD hO ⊢
  have hA : ∀ q : Nat, s.heap.size ≤ q → A q := fun q h => by rw [← hAe]; exact Or.inr h
  have ok := ok0
  refine startH (A := A) (fun H locs hP hS => ?_) hP
  have hi_X9 := (by decide +kernel : ∀ w ∈ wsX90, w ∈ wsX9_start)
  have f_105 := hts (.fieldLink RX9 105 "PageReaderModel" "at" "I") (by decide +kernel)
  have f_131 := hts (.fieldLink RX9 131 "PageReaderModel" "num" "I") (by decide +kernel)
  have f_134 := hts (.fieldLink RX9 134 "PageReaderModel" "den" "I") (by decide +kernel)
  have f_137 := hts (.fieldLink RX9 137 "PageReaderModel" "mag" "I") (by decide +kernel)
  have f_7 := hts (.fieldLink RX9 7 "PageReaderModel" "file" "[I") (by decide +kernel)
  have k_140 := hts (.constantDouble RX9 140 (4652007308841189376)) (by decide +kernel)
  have f_73 := hts (.fieldLink RX9 73 "PageReaderModel" "factor" "D") (by decide +kernel)
  have f_128 := hts (.fieldLink RX9 128 "PageReaderModel" "state" "I") (by decide +kernel)
  have hl := lv_entry ([.ref (q 0)]) (n := 1) (Nat.le_of_ble_eq_true rfl)
  rw [lg_entry_eq]
  generalize (lg_sl ([.ref (q 0)]) ++ List.replicate (1 - (lg_sl ([.ref (q 0)])).length) Slot.unset).toArray = ls at hl ⊢
  have hl : lv_has ls 1 [(0, .ref (q 0))] := hl
  obtain ⟨hkc, hpc, hic, hPI, hf, hFO, hst, hbd⟩ := hM
  have hb1 := rdN_b hB n (a + 1)
  refine lv_aload_n hx hb dX9_start_0 rfl (lv_at hl 0 rfl) ?_
  refine lv_aload_n hx hb dX9_start_1 rfl (lv_at hl 0 rfl) ?_
  refine lv_aload_n hx hb dX9_start_2 rfl (lv_at hl 0 rfl) ?_
  refine va_get (D := G) (ci := 8) (v := .int (nI a)) (C := RX9) (T := TX9) (N := 30) hx hb hts hi_X9 hown hK hP 0 rfl rfl 21 (by decide) f_105 (fun _ h9 => h9) rfl dX9_start_3 ?_
  refine lv_iconst (v := nI 2) hx hb dX9_start_6 (by decide) ?_
  refine lv_iadd hx hb dX9_start_7 ?_
  refine tp (nI_add _ _) ?_
  refine lv_iconst (v := nI 2) hx hb dX9_start_8 (by decide) ?_
  refine jI (va_runV (As := [.int (nI (a + 2)), .int (nI 2)]) (rest := [.ref (q 0)]) ⟨hx, hb, hml, hown, hts⟩ (c_X9_numberAt l G ci cz cl q H.size (a + 2) 2 ref n num den mag fac who fnd pc ic a sta lb la fo dee kc fl wd df ag mk sc nu co fi ad it sp stk (by omega) hB (by omega) (by omega)) (cwV 2 hts gX9_start_X9_numberAt rfl rfl rfl (by decide +kernel) ⟨(Nat.le_of_ble_eq_true rfl), (Nat.le_of_ble_eq_true rfl)⟩) (pV (wc := [oM q ref n num den mag fac who fnd pc ic a sta lb la fo dee kc, aI ci (q 1) 600 fl, aI ci (q 2) 1024 wd, aI cz (q 3) 8 df, aI cz (q 4) 8 ag, aI ci (q 5) 8 mk, aI ci (q 6) 8 sc, aI ci (q 7) 12 nu, aI ci (q 8) 12 co, aI ci (q 9) 12 fi, aI ci (q 10) 12 ad, aI ci (q 11) 1800 it, aI ci (q 12) 8 sp, aI ci (q 13) 160 stk]) ok hK hP hD hS hA hO [0, 1, 2, 3, 4, 5, 6, 7, 8, 9, 10, 11, 12, 13] rfl (by decide) 0 rfl rfl) rfl rfl hl.1 rfl (lv_room (Nat.le_of_ble_eq_true rfl)) dX9_start_9 ⟨(Nat.le_of_ble_eq_true rfl), (Nat.le_of_ble_eq_true rfl)⟩) (wr := []) hP hD hS hA [0, 1, 2, 3, 4, 5, 6, 7, 8, 9, 10, 11, 12, 13] [] rfl rfl (by decide) (by decide) (fun r_1 u H locs hw_1 hP hD hS => ?_)
  try dsimp only at hw_1
  obtain ⟨rfl, h_1⟩ := hw_1
  have hP : va_P G vwCl [oM q ref n num den mag fac who fnd pc ic a sta lb la fo dee kc, aI ci (q 1) 600 fl, aI ci (q 2) 1024 wd, aI cz (q 3) 8 df, aI cz (q 4) 8 ag, aI ci (q 5) 8 mk, aI ci (q 6) 8 sc, aI ci (q 7) 12 nu, aI ci (q 8) 12 co, aI ci (q 9) 12 fi, aI ci (q 10) 12 ad, aI ci (q 11) 1800 it, aI ci (q 12) 8 sp, aI ci (q 13) 160 stk] H := hP
  have hD : va_D A [oM q ref n num den mag fac who fnd pc ic a sta lb la fo dee kc, aI ci (q 1) 600 fl, aI ci (q 2) 1024 wd, aI cz (q 3) 8 df, aI cz (q 4) 8 ag, aI ci (q 5) 8 mk, aI ci (q 6) 8 sc, aI ci (q 7) 12 nu, aI ci (q 8) 12 co, aI ci (q 9) 12 fi, aI ci (q 10) 12 ad, aI ci (q 11) 1800 it, aI ci (q 12) 8 sp, aI ci (q 13) 160 stk] := hD
  refine va_put (D := G) (ci := 8) (v := .int (nI (rdN fl n (a + 2) 2))) (ty := .int) (C := RX9) (T := TX9) (N := 30) hx hb hts hi_X9 tyX9 tyX9_ok nmX9 hown hK hP hD hS 0 rfl rfl 8 (by decide) f_131 (fun _ h9 => h9) rfl (by decide +kernel) rfl rfl (Nat.le_of_ble_eq_true rfl) dX9_start_12 (fun H locs hP hD hS => ?_)
  have hP : va_P G vwCl [oM q ref n (rdN fl n (a + 2) 2) den mag fac who fnd pc ic a sta lb la fo dee kc, aI ci (q 1) 600 fl, aI ci (q 2) 1024 wd, aI cz (q 3) 8 df, aI cz (q 4) 8 ag, aI ci (q 5) 8 mk, aI ci (q 6) 8 sc, aI ci (q 7) 12 nu, aI ci (q 8) 12 co, aI ci (q 9) 12 fi, aI ci (q 10) 12 ad, aI ci (q 11) 1800 it, aI ci (q 12) 8 sp, aI ci (q 13) 160 stk] H := hP
  have hD : va_D A [oM q ref n (rdN fl n (a + 2) 2) den mag fac who fnd pc ic a sta lb la fo dee kc, aI ci (q 1) 600 fl, aI ci (q 2) 1024 wd, aI cz (q 3) 8 df, aI cz (q 4) 8 ag, aI ci (q 5) 8 mk, aI ci (q 6) 8 sc, aI ci (q 7) 12 nu, aI ci (q 8) 12 co, aI ci (q 9) 12 fi, aI ci (q 10) 12 ad, aI ci (q 11) 1800 it, aI ci (q 12) 8 sp, aI ci (q 13) 160 stk] := hD
  refine lv_aload_n hx hb dX9_start_15 rfl (lv_at hl 0 rfl) ?_
  refine lv_aload_n hx hb dX9_start_16 rfl (lv_at hl 0 rfl) ?_
  refine lv_aload_n hx hb dX9_start_17 rfl (lv_at hl 0 rfl) ?_
  refine va_get (D := G) (ci := 8) (v := .int (nI a)) (C := RX9) (T := TX9) (N := 30) hx hb hts hi_X9 hown hK hP 0 rfl rfl 21 (by decide) f_105 (fun _ h9 => h9) rfl dX9_start_18 ?_
  refine lv_iconst (v := nI 4) hx hb dX9_start_21 (by decide) ?_
  refine lv_iadd hx hb dX9_start_22 ?_
  refine tp (nI_add _ _) ?_
  refine lv_iconst (v := nI 2) hx hb dX9_start_23 (by decide) ?_
  refine jI (va_runV (As := [.int (nI (a + 4)), .int (nI 2)]) (rest := [.ref (q 0)]) ⟨hx, hb, hml, hown, hts⟩ (c_X9_numberAt l G ci cz cl q H.size (a + 4) 2 ref n (rdN fl n (a + 2) 2) den mag fac who fnd pc ic a sta lb la fo dee kc fl wd df ag mk sc nu co fi ad it sp stk (by omega) hB (by omega) (by omega)) (cwV 2 hts gX9_start_X9_numberAt rfl rfl rfl (by decide +kernel) ⟨(Nat.le_of_ble_eq_true rfl), (Nat.le_of_ble_eq_true rfl)⟩) (pV (wc := [oM q ref n (rdN fl n (a + 2) 2) den mag fac who fnd pc ic a sta lb la fo dee kc, aI ci (q 1) 600 fl, aI ci (q 2) 1024 wd, aI cz (q 3) 8 df, aI cz (q 4) 8 ag, aI ci (q 5) 8 mk, aI ci (q 6) 8 sc, aI ci (q 7) 12 nu, aI ci (q 8) 12 co, aI ci (q 9) 12 fi, aI ci (q 10) 12 ad, aI ci (q 11) 1800 it, aI ci (q 12) 8 sp, aI ci (q 13) 160 stk]) ok hK hP hD hS hA hO [0, 1, 2, 3, 4, 5, 6, 7, 8, 9, 10, 11, 12, 13] rfl (by decide) 0 rfl rfl) rfl rfl hl.1 rfl (lv_room (Nat.le_of_ble_eq_true rfl)) dX9_start_24 ⟨(Nat.le_of_ble_eq_true rfl), (Nat.le_of_ble_eq_true rfl)⟩) (wr := []) hP hD hS hA [0, 1, 2, 3, 4, 5, 6, 7, 8, 9, 10, 11, 12, 13] [] rfl rfl (by decide) (by decide) (fun r_2 u H locs hw_2 hP hD hS => ?_)
  try dsimp only at hw_2
  obtain ⟨rfl, h_2⟩ := hw_2
  have hP : va_P G vwCl [oM q ref n (rdN fl n (a + 2) 2) den mag fac who fnd pc ic a sta lb la fo dee kc, aI ci (q 1) 600 fl, aI ci (q 2) 1024 wd, aI cz (q 3) 8 df, aI cz (q 4) 8 ag, aI ci (q 5) 8 mk, aI ci (q 6) 8 sc, aI ci (q 7) 12 nu, aI ci (q 8) 12 co, aI ci (q 9) 12 fi, aI ci (q 10) 12 ad, aI ci (q 11) 1800 it, aI ci (q 12) 8 sp, aI ci (q 13) 160 stk] H := hP
  have hD : va_D A [oM q ref n (rdN fl n (a + 2) 2) den mag fac who fnd pc ic a sta lb la fo dee kc, aI ci (q 1) 600 fl, aI ci (q 2) 1024 wd, aI cz (q 3) 8 df, aI cz (q 4) 8 ag, aI ci (q 5) 8 mk, aI ci (q 6) 8 sc, aI ci (q 7) 12 nu, aI ci (q 8) 12 co, aI ci (q 9) 12 fi, aI ci (q 10) 12 ad, aI ci (q 11) 1800 it, aI ci (q 12) 8 sp, aI ci (q 13) 160 stk] := hD
  refine va_put (D := G) (ci := 8) (v := .int (nI (rdN fl n (a + 4) 2))) (ty := .int) (C := RX9) (T := TX9) (N := 30) hx hb hts hi_X9 tyX9 tyX9_ok nmX9 hown hK hP hD hS 0 rfl rfl 9 (by decide) f_134 (fun _ h9 => h9) rfl (by decide +kernel) rfl rfl (Nat.le_of_ble_eq_true rfl) dX9_start_27 (fun H locs hP hD hS => ?_)
  have hP : va_P G vwCl [oM q ref n (rdN fl n (a + 2) 2) (rdN fl n (a + 4) 2) mag fac who fnd pc ic a sta lb la fo dee kc, aI ci (q 1) 600 fl, aI ci (q 2) 1024 wd, aI cz (q 3) 8 df, aI cz (q 4) 8 ag, aI ci (q 5) 8 mk, aI ci (q 6) 8 sc, aI ci (q 7) 12 nu, aI ci (q 8) 12 co, aI ci (q 9) 12 fi, aI ci (q 10) 12 ad, aI ci (q 11) 1800 it, aI ci (q 12) 8 sp, aI ci (q 13) 160 stk] H := hP
  have hD : va_D A [oM q ref n (rdN fl n (a + 2) 2) (rdN fl n (a + 4) 2) mag fac who fnd pc ic a sta lb la fo dee kc, aI ci (q 1) 600 fl, aI ci (q 2) 1024 wd, aI cz (q 3) 8 df, aI cz (q 4) 8 ag, aI ci (q 5) 8 mk, aI ci (q 6) 8 sc, aI ci (q 7) 12 nu, aI ci (q 8) 12 co, aI ci (q 9) 12 fi, aI ci (q 10) 12 ad, aI ci (q 11) 1800 it, aI ci (q 12) 8 sp, aI ci (q 13) 160 stk] := hD
  refine lv_aload_n hx hb dX9_start_30 rfl (lv_at hl 0 rfl) ?_
  refine lv_aload_n hx hb dX9_start_31 rfl (lv_at hl 0 rfl) ?_
  refine lv_aload_n hx hb dX9_start_32 rfl (lv_at hl 0 rfl) ?_
  refine va_get (D := G) (ci := 8) (v := .int (nI a)) (C := RX9) (T := TX9) (N := 30) hx hb hts hi_X9 hown hK hP 0 rfl rfl 21 (by decide) f_105 (fun _ h9 => h9) rfl dX9_start_33 ?_
  refine lv_bipush (v := nI 6) hx hb dX9_start_36 (by decide) ?_
  refine lv_iadd hx hb dX9_start_38 ?_
  refine tp (nI_add _ _) ?_
  refine lv_iconst (v := nI 2) hx hb dX9_start_39 (by decide) ?_
  refine jI (va_runV (As := [.int (nI (a + 6)), .int (nI 2)]) (rest := [.ref (q 0)]) ⟨hx, hb, hml, hown, hts⟩ (c_X9_numberAt l G ci cz cl q H.size (a + 6) 2 ref n (rdN fl n (a + 2) 2) (rdN fl n (a + 4) 2) mag fac who fnd pc ic a sta lb la fo dee kc fl wd df ag mk sc nu co fi ad it sp stk (by omega) hB (by omega) (by omega)) (cwV 2 hts gX9_start_X9_numberAt rfl rfl rfl (by decide +kernel) ⟨(Nat.le_of_ble_eq_true rfl), (Nat.le_of_ble_eq_true rfl)⟩) (pV (wc := [oM q ref n (rdN fl n (a + 2) 2) (rdN fl n (a + 4) 2) mag fac who fnd pc ic a sta lb la fo dee kc, aI ci (q 1) 600 fl, aI ci (q 2) 1024 wd, aI cz (q 3) 8 df, aI cz (q 4) 8 ag, aI ci (q 5) 8 mk, aI ci (q 6) 8 sc, aI ci (q 7) 12 nu, aI ci (q 8) 12 co, aI ci (q 9) 12 fi, aI ci (q 10) 12 ad, aI ci (q 11) 1800 it, aI ci (q 12) 8 sp, aI ci (q 13) 160 stk]) ok hK hP hD hS hA hO [0, 1, 2, 3, 4, 5, 6, 7, 8, 9, 10, 11, 12, 13] rfl (by decide) 0 rfl rfl) rfl rfl hl.1 rfl (lv_room (Nat.le_of_ble_eq_true rfl)) dX9_start_40 ⟨(Nat.le_of_ble_eq_true rfl), (Nat.le_of_ble_eq_true rfl)⟩) (wr := []) hP hD hS hA [0, 1, 2, 3, 4, 5, 6, 7, 8, 9, 10, 11, 12, 13] [] rfl rfl (by decide) (by decide) (fun r_3 u H locs hw_3 hP hD hS => ?_)
  try dsimp only at hw_3
  obtain ⟨rfl, h_3⟩ := hw_3
  have hP : va_P G vwCl [oM q ref n (rdN fl n (a + 2) 2) (rdN fl n (a + 4) 2) mag fac who fnd pc ic a sta lb la fo dee kc, aI ci (q 1) 600 fl, aI ci (q 2) 1024 wd, aI cz (q 3) 8 df, aI cz (q 4) 8 ag, aI ci (q 5) 8 mk, aI ci (q 6) 8 sc, aI ci (q 7) 12 nu, aI ci (q 8) 12 co, aI ci (q 9) 12 fi, aI ci (q 10) 12 ad, aI ci (q 11) 1800 it, aI ci (q 12) 8 sp, aI ci (q 13) 160 stk] H := hP
  have hD : va_D A [oM q ref n (rdN fl n (a + 2) 2) (rdN fl n (a + 4) 2) mag fac who fnd pc ic a sta lb la fo dee kc, aI ci (q 1) 600 fl, aI ci (q 2) 1024 wd, aI cz (q 3) 8 df, aI cz (q 4) 8 ag, aI ci (q 5) 8 mk, aI ci (q 6) 8 sc, aI ci (q 7) 12 nu, aI ci (q 8) 12 co, aI ci (q 9) 12 fi, aI ci (q 10) 12 ad, aI ci (q 11) 1800 it, aI ci (q 12) 8 sp, aI ci (q 13) 160 stk] := hD
  refine va_put (D := G) (ci := 8) (v := .int (nI (rdN fl n (a + 6) 2))) (ty := .int) (C := RX9) (T := TX9) (N := 30) hx hb hts hi_X9 tyX9 tyX9_ok nmX9 hown hK hP hD hS 0 rfl rfl 10 (by decide) f_137 (fun _ h9 => h9) rfl (by decide +kernel) rfl rfl (Nat.le_of_ble_eq_true rfl) dX9_start_43 (fun H locs hP hD hS => ?_)
  have hP : va_P G vwCl [oM q ref n (rdN fl n (a + 2) 2) (rdN fl n (a + 4) 2) (rdN fl n (a + 6) 2) fac who fnd pc ic a sta lb la fo dee kc, aI ci (q 1) 600 fl, aI ci (q 2) 1024 wd, aI cz (q 3) 8 df, aI cz (q 4) 8 ag, aI ci (q 5) 8 mk, aI ci (q 6) 8 sc, aI ci (q 7) 12 nu, aI ci (q 8) 12 co, aI ci (q 9) 12 fi, aI ci (q 10) 12 ad, aI ci (q 11) 1800 it, aI ci (q 12) 8 sp, aI ci (q 13) 160 stk] H := hP
  have hD : va_D A [oM q ref n (rdN fl n (a + 2) 2) (rdN fl n (a + 4) 2) (rdN fl n (a + 6) 2) fac who fnd pc ic a sta lb la fo dee kc, aI ci (q 1) 600 fl, aI ci (q 2) 1024 wd, aI cz (q 3) 8 df, aI cz (q 4) 8 ag, aI ci (q 5) 8 mk, aI ci (q 6) 8 sc, aI ci (q 7) 12 nu, aI ci (q 8) 12 co, aI ci (q 9) 12 fi, aI ci (q 10) 12 ad, aI ci (q 11) 1800 it, aI ci (q 12) 8 sp, aI ci (q 13) 160 stk] := hD
  refine lv_aload_n hx hb dX9_start_46 rfl (lv_at hl 0 rfl) ?_
  refine va_get (D := G) (ci := 8) (v := .ref (q 1)) (C := RX9) (T := TX9) (N := 30) hx hb hts hi_X9 hown hK hP 0 rfl rfl 1 (by decide) f_7 (fun _ h9 => h9) rfl dX9_start_47 ?_
  refine lv_aload_n hx hb dX9_start_50 rfl (lv_at hl 0 rfl) ?_
  refine va_get (D := G) (ci := 8) (v := .int (nI a)) (C := RX9) (T := TX9) (N := 30) hx hb hts hi_X9 hown hK hP 0 rfl rfl 21 (by decide) f_105 (fun _ h9 => h9) rfl dX9_start_51 ?_
  refine lv_iconst (v := nI 1) hx hb dX9_start_54 (by decide) ?_
  refine lv_iadd hx hb dX9_start_55 ?_
  refine tp (nI_add _ _) ?_
  refine va_iald hx hb hK hP 1 0 rfl rfl (vp_in_nI (by omega) (by omega)) dX9_start_56 ?_
  refine tp (y := fl (a + 1)) (congrArg fl (nI_clamp (by omega))) ?_
  refine tp (y := nI (rdN fl n (a + 1) 1)) (rdN_row hB (by omega)) ?_
  refine lv_iconst (v := nI 2) hx hb dX9_start_57 (by decide) ?_
  refine lv_icmp_ne (tgt := 82) hx hb dX9_start_58 (by decide) (fun c_4 => ?_) (fun c_4 => ?_)
  · skip
    have z_4 := mt (nI_eq (a := (rdN fl n (a + 1) 1)) (b := 2) (by omega) (by omega)).mpr c_4
    refine lv_iconst (v := nI 0) hx hb dX9_start_82 (by decide) ?_
    exact rI (v := nI 0) hx hb hr hlocks nb0 hK hP hD hS [0, 1, 2, 3, 4, 5, 6, 7, 8, 9, 10, 11, 12, 13] (0, (rdN fl n (a + 2) 2), (rdN fl n (a + 4) 2), rdN fl n (a + 6) 2, fac, sta) rfl (by decide) ⟨rfl, by (try dsimp only); omega, Or.inr ⟨rfl, by (try dsimp only); omega⟩, by assumption, by (try dsimp only); omega, by (try dsimp only); omega, by (try dsimp only); omega, by (try dsimp only); omega⟩ dX9_start_83
  · skip
    have z_4 := (nI_eq (a := (rdN fl n (a + 1) 1)) (b := 2) (by omega) (by omega)).mp c_4
    refine lv_aload_n hx hb dX9_start_61 rfl (lv_at hl 0 rfl) ?_
    refine va_get (D := G) (ci := 8) (v := .int (nI (rdN fl n (a + 2) 2))) (C := RX9) (T := TX9) (N := 30) hx hb hts hi_X9 hown hK hP 0 rfl rfl 8 (by decide) f_131 (fun _ h9 => h9) rfl dX9_start_62 ?_
    refine lv_if_eq (tgt := 82) hx hb dX9_start_65 (by decide) (fun c_5 => ?_) (fun c_5 => ?_)
    · skip
      have z_5 := (nI_eq (a := (rdN fl n (a + 2) 2)) (b := 0) (by omega) (by omega)).mp c_5
      refine lv_iconst (v := nI 0) hx hb dX9_start_82 (by decide) ?_
      exact rI (v := nI 0) hx hb hr hlocks nb0 hK hP hD hS [0, 1, 2, 3, 4, 5, 6, 7, 8, 9, 10, 11, 12, 13] (0, (rdN fl n (a + 2) 2), (rdN fl n (a + 4) 2), rdN fl n (a + 6) 2, fac, sta) rfl (by decide) ⟨rfl, by (try dsimp only); omega, Or.inr ⟨rfl, by (try dsimp only); omega⟩, by assumption, by (try dsimp only); omega, by (try dsimp only); omega, by (try dsimp only); omega, by (try dsimp only); omega⟩ dX9_start_83
    · skip
      have z_5 := mt (nI_eq (a := (rdN fl n (a + 2) 2)) (b := 0) (by omega) (by omega)).mpr c_5
      refine lv_aload_n hx hb dX9_start_68 rfl (lv_at hl 0 rfl) ?_
      refine va_get (D := G) (ci := 8) (v := .int (nI (rdN fl n (a + 4) 2))) (C := RX9) (T := TX9) (N := 30) hx hb hts hi_X9 hown hK hP 0 rfl rfl 9 (by decide) f_134 (fun _ h9 => h9) rfl dX9_start_69 ?_
      refine lv_if_eq (tgt := 82) hx hb dX9_start_72 (by decide) (fun c_6 => ?_) (fun c_6 => ?_)
      · skip
        have z_6 := (nI_eq (a := (rdN fl n (a + 4) 2)) (b := 0) (by omega) (by omega)).mp c_6
        refine lv_iconst (v := nI 0) hx hb dX9_start_82 (by decide) ?_
        exact rI (v := nI 0) hx hb hr hlocks nb0 hK hP hD hS [0, 1, 2, 3, 4, 5, 6, 7, 8, 9, 10, 11, 12, 13] (0, (rdN fl n (a + 2) 2), (rdN fl n (a + 4) 2), rdN fl n (a + 6) 2, fac, sta) rfl (by decide) ⟨rfl, by (try dsimp only); omega, Or.inr ⟨rfl, by (try dsimp only); omega⟩, by assumption, by (try dsimp only); omega, by (try dsimp only); omega, by (try dsimp only); omega, by (try dsimp only); omega⟩ dX9_start_83
      · skip
        have z_6 := mt (nI_eq (a := (rdN fl n (a + 4) 2)) (b := 0) (by omega) (by omega)).mpr c_6
        refine lv_aload_n hx hb dX9_start_75 rfl (lv_at hl 0 rfl) ?_
        refine va_get (D := G) (ci := 8) (v := .int (nI (rdN fl n (a + 6) 2))) (C := RX9) (T := TX9) (N := 30) hx hb hts hi_X9 hown hK hP 0 rfl rfl 10 (by decide) f_137 (fun _ h9 => h9) rfl dX9_start_76 ?_
        refine lv_if_ne (tgt := 84) hx hb dX9_start_79 (by decide) (fun c_7 => ?_) (fun c_7 => ?_)
        · skip
          have z_7 := mt (nI_eq (a := (rdN fl n (a + 6) 2)) (b := 0) (by omega) (by omega)).mpr c_7
          refine lv_aload_n hx hb dX9_start_84 rfl (lv_at hl 0 rfl) ?_
          refine lv_aload_n hx hb dX9_start_85 rfl (lv_at hl 0 rfl) ?_
          refine va_get (D := G) (ci := 8) (v := .int (nI (rdN fl n (a + 2) 2))) (C := RX9) (T := TX9) (N := 30) hx hb hts hi_X9 hown hK hP 0 rfl rfl 8 (by decide) f_131 (fun _ h9 => h9) rfl dX9_start_86 ?_
          refine lv_i2d hx hb dX9_start_89 ?_
          refine lv_aload_n hx hb dX9_start_90 rfl (lv_at hl 0 rfl) ?_
          refine va_get (D := G) (ci := 8) (v := .int (nI (rdN fl n (a + 4) 2))) (C := RX9) (T := TX9) (N := 30) hx hb hts hi_X9 hown hK hP 0 rfl rfl 9 (by decide) f_134 (fun _ h9 => h9) rfl dX9_start_91 ?_
          refine lv_i2d hx hb dX9_start_94 ?_
          refine lv_ddiv hx hb dX9_start_95 (ne_div (by rw [nI_toInt (by omega)]; omega) (by rw [nI_toInt (by omega)]; omega)) ?_
          refine lv_aload_n hx hb dX9_start_96 rfl (lv_at hl 0 rfl) ?_
          refine va_get (D := G) (ci := 8) (v := .int (nI (rdN fl n (a + 6) 2))) (C := RX9) (T := TX9) (N := 30) hx hb hts hi_X9 hown hK hP 0 rfl rfl 10 (by decide) f_137 (fun _ h9 => h9) rfl dX9_start_97 ?_
          refine lv_i2d hx hb dX9_start_100 ?_
          refine lv_ldc2d hx hb hown k_140 dX9_start_101 ?_
          refine lv_ddiv hx hb dX9_start_104 (ne_divk (by rw [nI_toInt (by omega)]; omega)) ?_
          refine lv_dmul hx hb dX9_start_105 (ne_conv (by rw [nI_toInt (by omega)]; omega) (by rw [nI_toInt (by omega)]; omega) (by rw [nI_toInt (by omega)]; omega)) ?_
          refine va_put (D := G) (ci := 8) (v := .double (FP.dmul (FP.ddiv (FP.i2d (nI (rdN fl n (a + 2) 2))) (FP.i2d (nI (rdN fl n (a + 4) 2)))) (FP.ddiv (FP.i2d (nI (rdN fl n (a + 6) 2))) 4652007308841189376))) (ty := .double) (C := RX9) (T := TX9) (N := 30) hx hb hts hi_X9 tyX9 tyX9_ok nmX9 hown hK hP hD hS 0 rfl rfl 11 (by decide) f_73 (fun _ h9 => h9) rfl (by decide +kernel) rfl rfl (Nat.le_of_ble_eq_true rfl) dX9_start_106 (fun H locs hP hD hS => ?_)
          have hP : va_P G vwCl [oM q ref n (rdN fl n (a + 2) 2) (rdN fl n (a + 4) 2) (rdN fl n (a + 6) 2) (FP.dmul (FP.ddiv (FP.i2d (nI (rdN fl n (a + 2) 2))) (FP.i2d (nI (rdN fl n (a + 4) 2)))) (FP.ddiv (FP.i2d (nI (rdN fl n (a + 6) 2))) 4652007308841189376)) who fnd pc ic a sta lb la fo dee kc, aI ci (q 1) 600 fl, aI ci (q 2) 1024 wd, aI cz (q 3) 8 df, aI cz (q 4) 8 ag, aI ci (q 5) 8 mk, aI ci (q 6) 8 sc, aI ci (q 7) 12 nu, aI ci (q 8) 12 co, aI ci (q 9) 12 fi, aI ci (q 10) 12 ad, aI ci (q 11) 1800 it, aI ci (q 12) 8 sp, aI ci (q 13) 160 stk] H := hP
          have hD : va_D A [oM q ref n (rdN fl n (a + 2) 2) (rdN fl n (a + 4) 2) (rdN fl n (a + 6) 2) (FP.dmul (FP.ddiv (FP.i2d (nI (rdN fl n (a + 2) 2))) (FP.i2d (nI (rdN fl n (a + 4) 2)))) (FP.ddiv (FP.i2d (nI (rdN fl n (a + 6) 2))) 4652007308841189376)) who fnd pc ic a sta lb la fo dee kc, aI ci (q 1) 600 fl, aI ci (q 2) 1024 wd, aI cz (q 3) 8 df, aI cz (q 4) 8 ag, aI ci (q 5) 8 mk, aI ci (q 6) 8 sc, aI ci (q 7) 12 nu, aI ci (q 8) 12 co, aI ci (q 9) 12 fi, aI ci (q 10) 12 ad, aI ci (q 11) 1800 it, aI ci (q 12) 8 sp, aI ci (q 13) 160 stk] := hD
          refine lv_aload_n hx hb dX9_start_109 rfl (lv_at hl 0 rfl) ?_
          refine lv_iconst (v := nI 1) hx hb dX9_start_110 (by decide) ?_
          refine va_put (D := G) (ci := 8) (v := .int (nI 1)) (ty := .int) (C := RX9) (T := TX9) (N := 30) hx hb hts hi_X9 tyX9 tyX9_ok nmX9 hown hK hP hD hS 0 rfl rfl 22 (by decide) f_128 (fun _ h9 => h9) rfl (by decide +kernel) rfl rfl (Nat.le_of_ble_eq_true rfl) dX9_start_111 (fun H locs hP hD hS => ?_)
          have hP : va_P G vwCl [oM q ref n (rdN fl n (a + 2) 2) (rdN fl n (a + 4) 2) (rdN fl n (a + 6) 2) (FP.dmul (FP.ddiv (FP.i2d (nI (rdN fl n (a + 2) 2))) (FP.i2d (nI (rdN fl n (a + 4) 2)))) (FP.ddiv (FP.i2d (nI (rdN fl n (a + 6) 2))) 4652007308841189376)) who fnd pc ic a 1 lb la fo dee kc, aI ci (q 1) 600 fl, aI ci (q 2) 1024 wd, aI cz (q 3) 8 df, aI cz (q 4) 8 ag, aI ci (q 5) 8 mk, aI ci (q 6) 8 sc, aI ci (q 7) 12 nu, aI ci (q 8) 12 co, aI ci (q 9) 12 fi, aI ci (q 10) 12 ad, aI ci (q 11) 1800 it, aI ci (q 12) 8 sp, aI ci (q 13) 160 stk] H := hP
          have hD : va_D A [oM q ref n (rdN fl n (a + 2) 2) (rdN fl n (a + 4) 2) (rdN fl n (a + 6) 2) (FP.dmul (FP.ddiv (FP.i2d (nI (rdN fl n (a + 2) 2))) (FP.i2d (nI (rdN fl n (a + 4) 2)))) (FP.ddiv (FP.i2d (nI (rdN fl n (a + 6) 2))) 4652007308841189376)) who fnd pc ic a 1 lb la fo dee kc, aI ci (q 1) 600 fl, aI ci (q 2) 1024 wd, aI cz (q 3) 8 df, aI cz (q 4) 8 ag, aI ci (q 5) 8 mk, aI ci (q 6) 8 sc, aI ci (q 7) 12 nu, aI ci (q 8) 12 co, aI ci (q 9) 12 fi, aI ci (q 10) 12 ad, aI ci (q 11) 1800 it, aI ci (q 12) 8 sp, aI ci (q 13) 160 stk] := hD
          refine lv_iconst (v := nI 1) hx hb dX9_start_114 (by decide) ?_
          exact rI (v := nI 1) hx hb hr hlocks nb1 hK hP hD hS [0, 1, 2, 3, 4, 5, 6, 7, 8, 9, 10, 11, 12, 13] (1, (rdN fl n (a + 2) 2), (rdN fl n (a + 4) 2), rdN fl n (a + 6) 2, FP.dmul (FP.ddiv (FP.i2d (nI (rdN fl n (a + 2) 2))) (FP.i2d (nI (rdN fl n (a + 4) 2)))) (FP.ddiv (FP.i2d (nI (rdN fl n (a + 6) 2))) 4652007308841189376), 1) rfl (by decide) ⟨rfl, by (try dsimp only); omega, Or.inl ⟨rfl, by (try dsimp only); omega, by (try dsimp only); omega, by (try dsimp only); omega, by (try dsimp only); omega, rfl, rfl, rfl, rfl, rfl⟩, fn_conv (by rw [nI_toInt (by (try dsimp only); omega)]; omega) (by rw [nI_toInt (by (try dsimp only); omega)]; omega) (by rw [nI_toInt (by (try dsimp only); omega)]; omega), by (try dsimp only); omega, by (try dsimp only); omega, by (try dsimp only); omega, by (try dsimp only); omega⟩ dX9_start_115
        · skip
          have z_7 := (nI_eq (a := (rdN fl n (a + 6) 2)) (b := 0) (by omega) (by omega)).mp c_7
          refine lv_iconst (v := nI 0) hx hb dX9_start_82 (by decide) ?_
          exact rI (v := nI 0) hx hb hr hlocks nb0 hK hP hD hS [0, 1, 2, 3, 4, 5, 6, 7, 8, 9, 10, 11, 12, 13] (0, (rdN fl n (a + 2) 2), (rdN fl n (a + 4) 2), rdN fl n (a + 6) 2, fac, sta) rfl (by decide) ⟨rfl, by (try dsimp only); omega, Or.inr ⟨rfl, by (try dsimp only); omega⟩, by assumption, by (try dsimp only); omega, by (try dsimp only); omega, by (try dsimp only); omega, by (try dsimp only); omega⟩ dX9_start_83
set_option maxHeartbeats 4000000 in
set_option maxRecDepth 100000 in
theorem c_X9_beginPage (l : Launch) (G : va_G) (ci cz cl : ClassId) (q : Nat → Nat) (sz : Nat) (ref : Int32) (n : Nat) (num : Nat) (den : Nat) (mag : Nat) (fac : UInt64) (who : Nat) (fnd : Int32) (pc : Nat) (ic : Nat) (a : Nat) (sta : Nat) (lb : Nat) (la : Nat) (fo : Int32) (dee : Nat) (kc : Nat) (fl : Nat → Int32) (wd : Nat → Int32) (df : Nat → Int32) (ag : Nat → Int32) (mk : Nat → Int32) (sc : Nat → Int32) (nu : Nat → Int32) (co : Nat → Int32) (fi : Nat → Int32) (ad : Nat → Int32) (it : Nat → Int32) (sp : Nat → Int32) (stk : Nat → Int32) (hn : n ≤ 600) (hB : FB fl) (ha : a + 5 ≤ n) (hM : MK kc pc ic fi co fac fo sta lb la dee num den mag) : CtI l yX9_beginPage wsX9_beginPage ({ frames := 2, cells := 0, slots := 0, locals := 49 }) G (TY ci cz cl) O0 [.ref (q 0)] [oM q ref n num den mag fac who fnd pc ic a sta lb la fo dee kc, aI ci (q 1) 600 fl, aI ci (q 2) 1024 wd, aI cz (q 3) 8 df, aI cz (q 4) 8 ag, aI ci (q 5) 8 mk, aI ci (q 6) 8 sc, aI ci (q 7) 12 nu, aI ci (q 8) 12 co, aI ci (q 9) 12 fi, aI ci (q 10) 12 ad, aI ci (q 11) 1800 it, aI ci (q 12) 8 sp, aI ci (q 13) 160 stk] sz (fun (r : Int32) (u : Nat × Nat × Nat × Nat × Int32 × Nat × (Nat → Int32) × (Nat → Int32) × (Nat → Int32) × (Nat → Int32) × (Nat → Int32)) => r = nI u.1 ∧ u.1 ≤ 1 ∧ RBegin fl n a lb pc nu ad co u.1 u.2.1 u.2.2.2.2.2.2.1 u.2.2.2.2.2.2.2.2.2.1 u.2.2.2.2.2.2.2.1 u.2.2.2.2.2.2.2.2.2.2 ∧ (u.1 = 1 → u.2.2.1 = 2 ∧ u.2.2.2.1 = a ∧ u.2.2.2.2.2.1 = 0 ∧ u.2.2.2.2.1 = -1) ∧ u.2.2.2.2.2.1 ≤ 20 ∧ u.2.1 ≤ 12 ∧ PI u.2.1 ic u.2.2.2.2.2.2.2.2.1 u.2.2.2.2.2.2.2.1 ∧ FO u.2.2.2.2.1 ∧ ((u.2.2.1 = 2 → 1 ≤ u.2.1) ∧ u.2.2.1 ≤ 4) ∧ u.2.2.2.1 ≤ 65535) (fun u : Nat × Nat × Nat × Nat × Int32 × Nat × (Nat → Int32) × (Nat → Int32) × (Nat → Int32) × (Nat → Int32) × (Nat → Int32) => [oM q ref n num den mag fac who fnd u.2.1 ic a u.2.2.1 u.2.2.2.1 la u.2.2.2.2.1 dee u.2.2.2.2.2.1, aI ci (q 1) 600 fl, aI ci (q 2) 1024 wd, aI cz (q 3) 8 df, aI cz (q 4) 8 ag, aI ci (q 5) 8 mk, aI ci (q 6) 8 sc, aI ci (q 7) 12 u.2.2.2.2.2.2.1, aI ci (q 8) 12 u.2.2.2.2.2.2.2.1, aI ci (q 9) 12 u.2.2.2.2.2.2.2.2.1, aI ci (q 10) 12 u.2.2.2.2.2.2.2.2.2.1, aI ci (q 11) 1800 it, aI ci (q 12) 8 u.2.2.2.2.2.2.2.2.2.2, aI ci (q 13) 160 stk]) 0 0 := by
  refine Met.ofW (cc := cX9_beginPage) (maxL := 2) (ret := (some .boolean)) (by decide) rfl ?_
  intro p e s m args below meth c s₁ B hml hv
  obtain ⟨rfl, ⟨hsz, hP, hK, hD0⟩, hO⟩ := hv
  have hx := B.exec
  have hb := B.bytes
  have hr := B.returns
  have hts := atoms_spec (ws := wsX9_beginPage) B.pre
  have hown : s.vm.findClass RX9 = some m.cls := findClass_of_methodNamed B.named
  have hlocks := B.notSynchronized
  subst hsz
  have hD := hD0.self (sz := s.heap.size)
  generalize hAe : va_A [oM q ref n num den mag fac who fnd pc ic a sta lb la fo dee kc, aI ci (q 1) 600 fl, aI ci (q 2) 1024 wd, aI cz (q 3) 8 df, aI cz (q 4) 8 ag, aI ci (q 5) 8 mk, aI ci (q 6) 8 sc, aI ci (q 7) 12 nu, aI ci (q 8) 12 co, aI ci (q 9) 12 fi, aI ci (q 10) 12 ad, aI ci (q 11) 1800 it, aI ci (q 12) 8 sp, aI ci (q 13) 160 stk] s.heap.size = A at hD hO ⊢
  have hA : ∀ q : Nat, s.heap.size ≤ q → A q := fun q h => by rw [← hAe]; exact Or.inr h
  have ok := ok0
  refine startH (A := A) (fun H locs hP hS => ?_) hP
  have hi_X9 := (by decide +kernel : ∀ w ∈ wsX90, w ∈ wsX9_beginPage)
  have f_95 := hts (.fieldLink RX9 95 "PageReaderModel" "pages" "I") (by decide +kernel)
  have f_105 := hts (.fieldLink RX9 105 "PageReaderModel" "at" "I") (by decide +kernel)
  have f_142 := hts (.fieldLink RX9 142 "PageReaderModel" "lastBegin" "I") (by decide +kernel)
  have f_33 := hts (.fieldLink RX9 33 "PageReaderModel" "numbers" "[I") (by decide +kernel)
  have f_36 := hts (.fieldLink RX9 36 "PageReaderModel" "counts" "[I") (by decide +kernel)
  have f_39 := hts (.fieldLink RX9 39 "PageReaderModel" "firsts" "[I") (by decide +kernel)
  have f_89 := hts (.fieldLink RX9 89 "PageReaderModel" "items" "I") (by decide +kernel)
  have f_42 := hts (.fieldLink RX9 42 "PageReaderModel" "addresses" "[I") (by decide +kernel)
  have f_128 := hts (.fieldLink RX9 128 "PageReaderModel" "state" "I") (by decide +kernel)
  have f_82 := hts (.fieldLink RX9 82 "PageReaderModel" "font" "I") (by decide +kernel)
  have f_111 := hts (.fieldLink RX9 111 "PageReaderModel" "depth" "I") (by decide +kernel)
  have f_48 := hts (.fieldLink RX9 48 "PageReaderModel" "spot" "[I") (by decide +kernel)
  have hl := lv_entry ([.ref (q 0)]) (n := 2) (Nat.le_of_ble_eq_true rfl)
  rw [lg_entry_eq]
  generalize (lg_sl ([.ref (q 0)]) ++ List.replicate (2 - (lg_sl ([.ref (q 0)])).length) Slot.unset).toArray = ls at hl ⊢
  have hl : lv_has ls 2 [(0, .ref (q 0))] := hl
  obtain ⟨hkc, hpc, hic, hPI, hf, hFO, hst, hbd⟩ := hM
  refine lv_aload_n hx hb dX9_beginPage_0 rfl (lv_at hl 0 rfl) ?_
  refine va_get (D := G) (ci := 8) (v := .int (nI pc)) (C := RX9) (T := TX9) (N := 30) hx hb hts hi_X9 hown hK hP 0 rfl rfl 14 (by decide) f_95 (fun _ h9 => h9) rfl dX9_beginPage_1 ?_
  refine lv_bipush (v := nI 12) hx hb dX9_beginPage_4 (by decide) ?_
  refine lv_icmp_eq (tgt := 27) hx hb dX9_beginPage_6 (by decide) (fun c_1 => ?_) (fun c_1 => ?_)
  · skip
    have z_1 := (nI_eq (a := pc) (b := 12) (by omega) (by omega)).mp c_1
    refine lv_iconst (v := nI 0) hx hb dX9_beginPage_27 (by decide) ?_
    exact rI (v := nI 0) hx hb hr hlocks nb0 hK hP hD hS [0, 1, 2, 3, 4, 5, 6, 7, 8, 9, 10, 11, 12, 13] (0, pc, sta, lb, fo, kc, nu, co, fi, ad, sp) rfl (by decide) ⟨rfl, by (try dsimp only); omega, Or.inr ⟨rfl, by (try dsimp only); omega⟩, fun h => absurd h (by (try dsimp only); omega), by (try dsimp only); omega, by (try dsimp only); omega, by assumption, by assumption, by (try dsimp only); omega, by (try dsimp only); omega⟩ dX9_beginPage_28
  · skip
    have z_1 := mt (nI_eq (a := pc) (b := 12) (by omega) (by omega)).mpr c_1
    refine lv_aload_n hx hb dX9_beginPage_9 rfl (lv_at hl 0 rfl) ?_
    refine lv_aload_n hx hb dX9_beginPage_10 rfl (lv_at hl 0 rfl) ?_
    refine va_get (D := G) (ci := 8) (v := .int (nI a)) (C := RX9) (T := TX9) (N := 30) hx hb hts hi_X9 hown hK hP 0 rfl rfl 21 (by decide) f_105 (fun _ h9 => h9) rfl dX9_beginPage_11 ?_
    refine lv_iconst (v := nI 3) hx hb dX9_beginPage_14 (by decide) ?_
    refine lv_iadd hx hb dX9_beginPage_15 ?_
    refine tp (nI_add _ _) ?_
    refine lv_iconst (v := nI 2) hx hb dX9_beginPage_16 (by decide) ?_
    refine jI (va_runV (As := [.int (nI (a + 3)), .int (nI 2)]) (rest := []) ⟨hx, hb, hml, hown, hts⟩ (c_X9_numberAt l G ci cz cl q H.size (a + 3) 2 ref n num den mag fac who fnd pc ic a sta lb la fo dee kc fl wd df ag mk sc nu co fi ad it sp stk (by omega) hB (by omega) (by omega)) (cwV 2 hts gX9_beginPage_X9_numberAt rfl rfl rfl (by decide +kernel) ⟨(Nat.le_of_ble_eq_true rfl), (Nat.le_of_ble_eq_true rfl)⟩) (pV (wc := [oM q ref n num den mag fac who fnd pc ic a sta lb la fo dee kc, aI ci (q 1) 600 fl, aI ci (q 2) 1024 wd, aI cz (q 3) 8 df, aI cz (q 4) 8 ag, aI ci (q 5) 8 mk, aI ci (q 6) 8 sc, aI ci (q 7) 12 nu, aI ci (q 8) 12 co, aI ci (q 9) 12 fi, aI ci (q 10) 12 ad, aI ci (q 11) 1800 it, aI ci (q 12) 8 sp, aI ci (q 13) 160 stk]) ok hK hP hD hS hA hO [0, 1, 2, 3, 4, 5, 6, 7, 8, 9, 10, 11, 12, 13] rfl (by decide) 0 rfl rfl) rfl rfl hl.1 rfl (lv_room (Nat.le_of_ble_eq_true rfl)) dX9_beginPage_17 ⟨(Nat.le_of_ble_eq_true rfl), (Nat.le_of_ble_eq_true rfl)⟩) (wr := []) hP hD hS hA [0, 1, 2, 3, 4, 5, 6, 7, 8, 9, 10, 11, 12, 13] [] rfl rfl (by decide) (by decide) (fun r_2 u H locs hw_2 hP hD hS => ?_)
    try dsimp only at hw_2
    obtain ⟨rfl, h_2⟩ := hw_2
    have hP : va_P G vwCl [oM q ref n num den mag fac who fnd pc ic a sta lb la fo dee kc, aI ci (q 1) 600 fl, aI ci (q 2) 1024 wd, aI cz (q 3) 8 df, aI cz (q 4) 8 ag, aI ci (q 5) 8 mk, aI ci (q 6) 8 sc, aI ci (q 7) 12 nu, aI ci (q 8) 12 co, aI ci (q 9) 12 fi, aI ci (q 10) 12 ad, aI ci (q 11) 1800 it, aI ci (q 12) 8 sp, aI ci (q 13) 160 stk] H := hP
    have hD : va_D A [oM q ref n num den mag fac who fnd pc ic a sta lb la fo dee kc, aI ci (q 1) 600 fl, aI ci (q 2) 1024 wd, aI cz (q 3) 8 df, aI cz (q 4) 8 ag, aI ci (q 5) 8 mk, aI ci (q 6) 8 sc, aI ci (q 7) 12 nu, aI ci (q 8) 12 co, aI ci (q 9) 12 fi, aI ci (q 10) 12 ad, aI ci (q 11) 1800 it, aI ci (q 12) 8 sp, aI ci (q 13) 160 stk] := hD
    refine lv_aload_n hx hb dX9_beginPage_20 rfl (lv_at hl 0 rfl) ?_
    refine va_get (D := G) (ci := 8) (v := .int (nI lb)) (C := RX9) (T := TX9) (N := 30) hx hb hts hi_X9 hown hK hP 0 rfl rfl 23 (by decide) f_142 (fun _ h9 => h9) rfl dX9_beginPage_21 ?_
    refine lv_icmp_eq (tgt := 29) hx hb dX9_beginPage_24 (by decide) (fun c_3 => ?_) (fun c_3 => ?_)
    · skip
      have z_3 := (nI_eq (a := (rdN fl n (a + 3) 2)) (b := lb) (by omega) (by omega)).mp c_3
      refine lv_aload_n hx hb dX9_beginPage_29 rfl (lv_at hl 0 rfl) ?_
      refine va_get (D := G) (ci := 8) (v := .ref (q 7)) (C := RX9) (T := TX9) (N := 30) hx hb hts hi_X9 hown hK hP 0 rfl rfl 15 (by decide) f_33 (fun _ h9 => h9) rfl dX9_beginPage_30 ?_
      refine lv_aload_n hx hb dX9_beginPage_33 rfl (lv_at hl 0 rfl) ?_
      refine va_get (D := G) (ci := 8) (v := .int (nI pc)) (C := RX9) (T := TX9) (N := 30) hx hb hts hi_X9 hown hK hP 0 rfl rfl 14 (by decide) f_95 (fun _ h9 => h9) rfl dX9_beginPage_34 ?_
      refine lv_aload_n hx hb dX9_beginPage_37 rfl (lv_at hl 0 rfl) ?_
      refine lv_aload_n hx hb dX9_beginPage_38 rfl (lv_at hl 0 rfl) ?_
      refine va_get (D := G) (ci := 8) (v := .int (nI a)) (C := RX9) (T := TX9) (N := 30) hx hb hts hi_X9 hown hK hP 0 rfl rfl 21 (by decide) f_105 (fun _ h9 => h9) rfl dX9_beginPage_39 ?_
      refine lv_iconst (v := nI 1) hx hb dX9_beginPage_42 (by decide) ?_
      refine lv_iadd hx hb dX9_beginPage_43 ?_
      refine tp (nI_add _ _) ?_
      refine lv_iconst (v := nI 2) hx hb dX9_beginPage_44 (by decide) ?_
      refine jI (va_runV (As := [.int (nI (a + 1)), .int (nI 2)]) (rest := [.int (nI pc), .ref (q 7)]) ⟨hx, hb, hml, hown, hts⟩ (c_X9_signedAt l G ci cz cl q H.size (a + 1) 2 ref n num den mag fac who fnd pc ic a sta lb la fo dee kc fl wd df ag mk sc nu co fi ad it sp stk (by omega) hB (by omega) (by omega)) (cwV 2 hts gX9_beginPage_X9_signedAt rfl rfl rfl (by decide +kernel) ⟨(Nat.le_of_ble_eq_true rfl), (Nat.le_of_ble_eq_true rfl)⟩) (pV (wc := [oM q ref n num den mag fac who fnd pc ic a sta lb la fo dee kc, aI ci (q 1) 600 fl, aI ci (q 2) 1024 wd, aI cz (q 3) 8 df, aI cz (q 4) 8 ag, aI ci (q 5) 8 mk, aI ci (q 6) 8 sc, aI ci (q 7) 12 nu, aI ci (q 8) 12 co, aI ci (q 9) 12 fi, aI ci (q 10) 12 ad, aI ci (q 11) 1800 it, aI ci (q 12) 8 sp, aI ci (q 13) 160 stk]) ok hK hP hD hS hA hO [0, 1, 2, 3, 4, 5, 6, 7, 8, 9, 10, 11, 12, 13] rfl (by decide) 0 rfl rfl) rfl rfl hl.1 rfl (lv_room (Nat.le_of_ble_eq_true rfl)) dX9_beginPage_45 ⟨(Nat.le_of_ble_eq_true rfl), (Nat.le_of_ble_eq_true rfl)⟩) (wr := []) hP hD hS hA [0, 1, 2, 3, 4, 5, 6, 7, 8, 9, 10, 11, 12, 13] [] rfl rfl (by decide) (by decide) (fun r_4 u H locs hw_4 hP hD hS => ?_)
      try dsimp only at hw_4
      obtain rfl := hw_4
      have hP : va_P G vwCl [oM q ref n num den mag fac who fnd pc ic a sta lb la fo dee kc, aI ci (q 1) 600 fl, aI ci (q 2) 1024 wd, aI cz (q 3) 8 df, aI cz (q 4) 8 ag, aI ci (q 5) 8 mk, aI ci (q 6) 8 sc, aI ci (q 7) 12 nu, aI ci (q 8) 12 co, aI ci (q 9) 12 fi, aI ci (q 10) 12 ad, aI ci (q 11) 1800 it, aI ci (q 12) 8 sp, aI ci (q 13) 160 stk] H := hP
      have hD : va_D A [oM q ref n num den mag fac who fnd pc ic a sta lb la fo dee kc, aI ci (q 1) 600 fl, aI ci (q 2) 1024 wd, aI cz (q 3) 8 df, aI cz (q 4) 8 ag, aI ci (q 5) 8 mk, aI ci (q 6) 8 sc, aI ci (q 7) 12 nu, aI ci (q 8) 12 co, aI ci (q 9) 12 fi, aI ci (q 10) 12 ad, aI ci (q 11) 1800 it, aI ci (q 12) 8 sp, aI ci (q 13) 160 stk] := hD
      refine va_iast hx hb hK hP hD hS 7 0 rfl rfl (vp_in_nI (by omega) (by omega)) dX9_beginPage_48 (fun H locs hP hD hS => ?_)
      rw [nI_clamp (by omega)] at hP hD
      have hP : va_P G vwCl [oM q ref n num den mag fac who fnd pc ic a sta lb la fo dee kc, aI ci (q 1) 600 fl, aI ci (q 2) 1024 wd, aI cz (q 3) 8 df, aI cz (q 4) 8 ag, aI ci (q 5) 8 mk, aI ci (q 6) 8 sc, aI ci (q 7) 12 (upd nu pc (rdS fl n (a + 1) 2)), aI ci (q 8) 12 co, aI ci (q 9) 12 fi, aI ci (q 10) 12 ad, aI ci (q 11) 1800 it, aI ci (q 12) 8 sp, aI ci (q 13) 160 stk] H := hP
      have hD : va_D A [oM q ref n num den mag fac who fnd pc ic a sta lb la fo dee kc, aI ci (q 1) 600 fl, aI ci (q 2) 1024 wd, aI cz (q 3) 8 df, aI cz (q 4) 8 ag, aI ci (q 5) 8 mk, aI ci (q 6) 8 sc, aI ci (q 7) 12 (upd nu pc (rdS fl n (a + 1) 2)), aI ci (q 8) 12 co, aI ci (q 9) 12 fi, aI ci (q 10) 12 ad, aI ci (q 11) 1800 it, aI ci (q 12) 8 sp, aI ci (q 13) 160 stk] := hD
      refine lv_aload_n hx hb dX9_beginPage_49 rfl (lv_at hl 0 rfl) ?_
      refine va_get (D := G) (ci := 8) (v := .ref (q 8)) (C := RX9) (T := TX9) (N := 30) hx hb hts hi_X9 hown hK hP 0 rfl rfl 16 (by decide) f_36 (fun _ h9 => h9) rfl dX9_beginPage_50 ?_
      refine lv_aload_n hx hb dX9_beginPage_53 rfl (lv_at hl 0 rfl) ?_
      refine va_get (D := G) (ci := 8) (v := .int (nI pc)) (C := RX9) (T := TX9) (N := 30) hx hb hts hi_X9 hown hK hP 0 rfl rfl 14 (by decide) f_95 (fun _ h9 => h9) rfl dX9_beginPage_54 ?_
      refine lv_iconst (v := nI 0) hx hb dX9_beginPage_57 (by decide) ?_
      refine va_iast hx hb hK hP hD hS 8 0 rfl rfl (vp_in_nI (by omega) (by omega)) dX9_beginPage_58 (fun H locs hP hD hS => ?_)
      rw [nI_clamp (by omega)] at hP hD
      have hP : va_P G vwCl [oM q ref n num den mag fac who fnd pc ic a sta lb la fo dee kc, aI ci (q 1) 600 fl, aI ci (q 2) 1024 wd, aI cz (q 3) 8 df, aI cz (q 4) 8 ag, aI ci (q 5) 8 mk, aI ci (q 6) 8 sc, aI ci (q 7) 12 (upd nu pc (rdS fl n (a + 1) 2)), aI ci (q 8) 12 (upd co pc (nI 0)), aI ci (q 9) 12 fi, aI ci (q 10) 12 ad, aI ci (q 11) 1800 it, aI ci (q 12) 8 sp, aI ci (q 13) 160 stk] H := hP
      have hD : va_D A [oM q ref n num den mag fac who fnd pc ic a sta lb la fo dee kc, aI ci (q 1) 600 fl, aI ci (q 2) 1024 wd, aI cz (q 3) 8 df, aI cz (q 4) 8 ag, aI ci (q 5) 8 mk, aI ci (q 6) 8 sc, aI ci (q 7) 12 (upd nu pc (rdS fl n (a + 1) 2)), aI ci (q 8) 12 (upd co pc (nI 0)), aI ci (q 9) 12 fi, aI ci (q 10) 12 ad, aI ci (q 11) 1800 it, aI ci (q 12) 8 sp, aI ci (q 13) 160 stk] := hD
      refine lv_aload_n hx hb dX9_beginPage_59 rfl (lv_at hl 0 rfl) ?_
      refine va_get (D := G) (ci := 8) (v := .ref (q 9)) (C := RX9) (T := TX9) (N := 30) hx hb hts hi_X9 hown hK hP 0 rfl rfl 17 (by decide) f_39 (fun _ h9 => h9) rfl dX9_beginPage_60 ?_
      refine lv_aload_n hx hb dX9_beginPage_63 rfl (lv_at hl 0 rfl) ?_
      refine va_get (D := G) (ci := 8) (v := .int (nI pc)) (C := RX9) (T := TX9) (N := 30) hx hb hts hi_X9 hown hK hP 0 rfl rfl 14 (by decide) f_95 (fun _ h9 => h9) rfl dX9_beginPage_64 ?_
      refine lv_aload_n hx hb dX9_beginPage_67 rfl (lv_at hl 0 rfl) ?_
      refine va_get (D := G) (ci := 8) (v := .int (nI ic)) (C := RX9) (T := TX9) (N := 30) hx hb hts hi_X9 hown hK hP 0 rfl rfl 19 (by decide) f_89 (fun _ h9 => h9) rfl dX9_beginPage_68 ?_
      refine va_iast hx hb hK hP hD hS 9 0 rfl rfl (vp_in_nI (by omega) (by omega)) dX9_beginPage_71 (fun H locs hP hD hS => ?_)
      rw [nI_clamp (by omega)] at hP hD
      have hP : va_P G vwCl [oM q ref n num den mag fac who fnd pc ic a sta lb la fo dee kc, aI ci (q 1) 600 fl, aI ci (q 2) 1024 wd, aI cz (q 3) 8 df, aI cz (q 4) 8 ag, aI ci (q 5) 8 mk, aI ci (q 6) 8 sc, aI ci (q 7) 12 (upd nu pc (rdS fl n (a + 1) 2)), aI ci (q 8) 12 (upd co pc (nI 0)), aI ci (q 9) 12 (upd fi pc (nI ic)), aI ci (q 10) 12 ad, aI ci (q 11) 1800 it, aI ci (q 12) 8 sp, aI ci (q 13) 160 stk] H := hP
      have hD : va_D A [oM q ref n num den mag fac who fnd pc ic a sta lb la fo dee kc, aI ci (q 1) 600 fl, aI ci (q 2) 1024 wd, aI cz (q 3) 8 df, aI cz (q 4) 8 ag, aI ci (q 5) 8 mk, aI ci (q 6) 8 sc, aI ci (q 7) 12 (upd nu pc (rdS fl n (a + 1) 2)), aI ci (q 8) 12 (upd co pc (nI 0)), aI ci (q 9) 12 (upd fi pc (nI ic)), aI ci (q 10) 12 ad, aI ci (q 11) 1800 it, aI ci (q 12) 8 sp, aI ci (q 13) 160 stk] := hD
      refine lv_aload_n hx hb dX9_beginPage_72 rfl (lv_at hl 0 rfl) ?_
      refine va_get (D := G) (ci := 8) (v := .ref (q 10)) (C := RX9) (T := TX9) (N := 30) hx hb hts hi_X9 hown hK hP 0 rfl rfl 18 (by decide) f_42 (fun _ h9 => h9) rfl dX9_beginPage_73 ?_
      refine lv_aload_n hx hb dX9_beginPage_76 rfl (lv_at hl 0 rfl) ?_
      refine va_get (D := G) (ci := 8) (v := .int (nI pc)) (C := RX9) (T := TX9) (N := 30) hx hb hts hi_X9 hown hK hP 0 rfl rfl 14 (by decide) f_95 (fun _ h9 => h9) rfl dX9_beginPage_77 ?_
      refine lv_aload_n hx hb dX9_beginPage_80 rfl (lv_at hl 0 rfl) ?_
      refine va_get (D := G) (ci := 8) (v := .int (nI a)) (C := RX9) (T := TX9) (N := 30) hx hb hts hi_X9 hown hK hP 0 rfl rfl 21 (by decide) f_105 (fun _ h9 => h9) rfl dX9_beginPage_81 ?_
      refine va_iast hx hb hK hP hD hS 10 0 rfl rfl (vp_in_nI (by omega) (by omega)) dX9_beginPage_84 (fun H locs hP hD hS => ?_)
      rw [nI_clamp (by omega)] at hP hD
      have hP : va_P G vwCl [oM q ref n num den mag fac who fnd pc ic a sta lb la fo dee kc, aI ci (q 1) 600 fl, aI ci (q 2) 1024 wd, aI cz (q 3) 8 df, aI cz (q 4) 8 ag, aI ci (q 5) 8 mk, aI ci (q 6) 8 sc, aI ci (q 7) 12 (upd nu pc (rdS fl n (a + 1) 2)), aI ci (q 8) 12 (upd co pc (nI 0)), aI ci (q 9) 12 (upd fi pc (nI ic)), aI ci (q 10) 12 (upd ad pc (nI a)), aI ci (q 11) 1800 it, aI ci (q 12) 8 sp, aI ci (q 13) 160 stk] H := hP
      have hD : va_D A [oM q ref n num den mag fac who fnd pc ic a sta lb la fo dee kc, aI ci (q 1) 600 fl, aI ci (q 2) 1024 wd, aI cz (q 3) 8 df, aI cz (q 4) 8 ag, aI ci (q 5) 8 mk, aI ci (q 6) 8 sc, aI ci (q 7) 12 (upd nu pc (rdS fl n (a + 1) 2)), aI ci (q 8) 12 (upd co pc (nI 0)), aI ci (q 9) 12 (upd fi pc (nI ic)), aI ci (q 10) 12 (upd ad pc (nI a)), aI ci (q 11) 1800 it, aI ci (q 12) 8 sp, aI ci (q 13) 160 stk] := hD
      refine lv_aload_n hx hb dX9_beginPage_85 rfl (lv_at hl 0 rfl) ?_
      refine lv_dup hx hb dX9_beginPage_86 rfl ?_
      refine va_get (D := G) (ci := 8) (v := .int (nI pc)) (C := RX9) (T := TX9) (N := 30) hx hb hts hi_X9 hown hK hP 0 rfl rfl 14 (by decide) f_95 (fun _ h9 => h9) rfl dX9_beginPage_87 ?_
      refine lv_iconst (v := nI 1) hx hb dX9_beginPage_90 (by decide) ?_
      refine lv_iadd hx hb dX9_beginPage_91 ?_
      refine tp (nI_add _ _) ?_
      refine va_put (D := G) (ci := 8) (v := .int (nI (pc + 1))) (ty := .int) (C := RX9) (T := TX9) (N := 30) hx hb hts hi_X9 tyX9 tyX9_ok nmX9 hown hK hP hD hS 0 rfl rfl 14 (by decide) f_95 (fun _ h9 => h9) rfl (by decide +kernel) rfl rfl (Nat.le_of_ble_eq_true rfl) dX9_beginPage_92 (fun H locs hP hD hS => ?_)
      have hP : va_P G vwCl [oM q ref n num den mag fac who fnd (pc + 1) ic a sta lb la fo dee kc, aI ci (q 1) 600 fl, aI ci (q 2) 1024 wd, aI cz (q 3) 8 df, aI cz (q 4) 8 ag, aI ci (q 5) 8 mk, aI ci (q 6) 8 sc, aI ci (q 7) 12 (upd nu pc (rdS fl n (a + 1) 2)), aI ci (q 8) 12 (upd co pc (nI 0)), aI ci (q 9) 12 (upd fi pc (nI ic)), aI ci (q 10) 12 (upd ad pc (nI a)), aI ci (q 11) 1800 it, aI ci (q 12) 8 sp, aI ci (q 13) 160 stk] H := hP
      have hD : va_D A [oM q ref n num den mag fac who fnd (pc + 1) ic a sta lb la fo dee kc, aI ci (q 1) 600 fl, aI ci (q 2) 1024 wd, aI cz (q 3) 8 df, aI cz (q 4) 8 ag, aI ci (q 5) 8 mk, aI ci (q 6) 8 sc, aI ci (q 7) 12 (upd nu pc (rdS fl n (a + 1) 2)), aI ci (q 8) 12 (upd co pc (nI 0)), aI ci (q 9) 12 (upd fi pc (nI ic)), aI ci (q 10) 12 (upd ad pc (nI a)), aI ci (q 11) 1800 it, aI ci (q 12) 8 sp, aI ci (q 13) 160 stk] := hD
      refine lv_aload_n hx hb dX9_beginPage_95 rfl (lv_at hl 0 rfl) ?_
      refine lv_aload_n hx hb dX9_beginPage_96 rfl (lv_at hl 0 rfl) ?_
      refine va_get (D := G) (ci := 8) (v := .int (nI a)) (C := RX9) (T := TX9) (N := 30) hx hb hts hi_X9 hown hK hP 0 rfl rfl 21 (by decide) f_105 (fun _ h9 => h9) rfl dX9_beginPage_97 ?_
      refine va_put (D := G) (ci := 8) (v := .int (nI a)) (ty := .int) (C := RX9) (T := TX9) (N := 30) hx hb hts hi_X9 tyX9 tyX9_ok nmX9 hown hK hP hD hS 0 rfl rfl 23 (by decide) f_142 (fun _ h9 => h9) rfl (by decide +kernel) rfl rfl (Nat.le_of_ble_eq_true rfl) dX9_beginPage_100 (fun H locs hP hD hS => ?_)
      have hP : va_P G vwCl [oM q ref n num den mag fac who fnd (pc + 1) ic a sta a la fo dee kc, aI ci (q 1) 600 fl, aI ci (q 2) 1024 wd, aI cz (q 3) 8 df, aI cz (q 4) 8 ag, aI ci (q 5) 8 mk, aI ci (q 6) 8 sc, aI ci (q 7) 12 (upd nu pc (rdS fl n (a + 1) 2)), aI ci (q 8) 12 (upd co pc (nI 0)), aI ci (q 9) 12 (upd fi pc (nI ic)), aI ci (q 10) 12 (upd ad pc (nI a)), aI ci (q 11) 1800 it, aI ci (q 12) 8 sp, aI ci (q 13) 160 stk] H := hP
      have hD : va_D A [oM q ref n num den mag fac who fnd (pc + 1) ic a sta a la fo dee kc, aI ci (q 1) 600 fl, aI ci (q 2) 1024 wd, aI cz (q 3) 8 df, aI cz (q 4) 8 ag, aI ci (q 5) 8 mk, aI ci (q 6) 8 sc, aI ci (q 7) 12 (upd nu pc (rdS fl n (a + 1) 2)), aI ci (q 8) 12 (upd co pc (nI 0)), aI ci (q 9) 12 (upd fi pc (nI ic)), aI ci (q 10) 12 (upd ad pc (nI a)), aI ci (q 11) 1800 it, aI ci (q 12) 8 sp, aI ci (q 13) 160 stk] := hD
      refine lv_aload_n hx hb dX9_beginPage_103 rfl (lv_at hl 0 rfl) ?_
      refine lv_iconst (v := nI 2) hx hb dX9_beginPage_104 (by decide) ?_
      refine va_put (D := G) (ci := 8) (v := .int (nI 2)) (ty := .int) (C := RX9) (T := TX9) (N := 30) hx hb hts hi_X9 tyX9 tyX9_ok nmX9 hown hK hP hD hS 0 rfl rfl 22 (by decide) f_128 (fun _ h9 => h9) rfl (by decide +kernel) rfl rfl (Nat.le_of_ble_eq_true rfl) dX9_beginPage_105 (fun H locs hP hD hS => ?_)
      have hP : va_P G vwCl [oM q ref n num den mag fac who fnd (pc + 1) ic a 2 a la fo dee kc, aI ci (q 1) 600 fl, aI ci (q 2) 1024 wd, aI cz (q 3) 8 df, aI cz (q 4) 8 ag, aI ci (q 5) 8 mk, aI ci (q 6) 8 sc, aI ci (q 7) 12 (upd nu pc (rdS fl n (a + 1) 2)), aI ci (q 8) 12 (upd co pc (nI 0)), aI ci (q 9) 12 (upd fi pc (nI ic)), aI ci (q 10) 12 (upd ad pc (nI a)), aI ci (q 11) 1800 it, aI ci (q 12) 8 sp, aI ci (q 13) 160 stk] H := hP
      have hD : va_D A [oM q ref n num den mag fac who fnd (pc + 1) ic a 2 a la fo dee kc, aI ci (q 1) 600 fl, aI ci (q 2) 1024 wd, aI cz (q 3) 8 df, aI cz (q 4) 8 ag, aI ci (q 5) 8 mk, aI ci (q 6) 8 sc, aI ci (q 7) 12 (upd nu pc (rdS fl n (a + 1) 2)), aI ci (q 8) 12 (upd co pc (nI 0)), aI ci (q 9) 12 (upd fi pc (nI ic)), aI ci (q 10) 12 (upd ad pc (nI a)), aI ci (q 11) 1800 it, aI ci (q 12) 8 sp, aI ci (q 13) 160 stk] := hD
      refine lv_aload_n hx hb dX9_beginPage_108 rfl (lv_at hl 0 rfl) ?_
      refine lv_iconst (v := (-1)) hx hb dX9_beginPage_109 (by decide) ?_
      refine va_put (D := G) (ci := 8) (v := .int (-1)) (ty := .int) (C := RX9) (T := TX9) (N := 30) hx hb hts hi_X9 tyX9 tyX9_ok nmX9 hown hK hP hD hS 0 rfl rfl 25 (by decide) f_82 (fun _ h9 => h9) rfl (by decide +kernel) rfl rfl (Nat.le_of_ble_eq_true rfl) dX9_beginPage_110 (fun H locs hP hD hS => ?_)
      have hP : va_P G vwCl [oM q ref n num den mag fac who fnd (pc + 1) ic a 2 a la (-1) dee kc, aI ci (q 1) 600 fl, aI ci (q 2) 1024 wd, aI cz (q 3) 8 df, aI cz (q 4) 8 ag, aI ci (q 5) 8 mk, aI ci (q 6) 8 sc, aI ci (q 7) 12 (upd nu pc (rdS fl n (a + 1) 2)), aI ci (q 8) 12 (upd co pc (nI 0)), aI ci (q 9) 12 (upd fi pc (nI ic)), aI ci (q 10) 12 (upd ad pc (nI a)), aI ci (q 11) 1800 it, aI ci (q 12) 8 sp, aI ci (q 13) 160 stk] H := hP
      have hD : va_D A [oM q ref n num den mag fac who fnd (pc + 1) ic a 2 a la (-1) dee kc, aI ci (q 1) 600 fl, aI ci (q 2) 1024 wd, aI cz (q 3) 8 df, aI cz (q 4) 8 ag, aI ci (q 5) 8 mk, aI ci (q 6) 8 sc, aI ci (q 7) 12 (upd nu pc (rdS fl n (a + 1) 2)), aI ci (q 8) 12 (upd co pc (nI 0)), aI ci (q 9) 12 (upd fi pc (nI ic)), aI ci (q 10) 12 (upd ad pc (nI a)), aI ci (q 11) 1800 it, aI ci (q 12) 8 sp, aI ci (q 13) 160 stk] := hD
      refine lv_aload_n hx hb dX9_beginPage_113 rfl (lv_at hl 0 rfl) ?_
      refine lv_iconst (v := nI 0) hx hb dX9_beginPage_114 (by decide) ?_
      refine va_put (D := G) (ci := 8) (v := .int (nI 0)) (ty := .int) (C := RX9) (T := TX9) (N := 30) hx hb hts hi_X9 tyX9 tyX9_ok nmX9 hown hK hP hD hS 0 rfl rfl 27 (by decide) f_111 (fun _ h9 => h9) rfl (by decide +kernel) rfl rfl (Nat.le_of_ble_eq_true rfl) dX9_beginPage_115 (fun H locs hP hD hS => ?_)
      have hP : va_P G vwCl [oM q ref n num den mag fac who fnd (pc + 1) ic a 2 a la (-1) dee 0, aI ci (q 1) 600 fl, aI ci (q 2) 1024 wd, aI cz (q 3) 8 df, aI cz (q 4) 8 ag, aI ci (q 5) 8 mk, aI ci (q 6) 8 sc, aI ci (q 7) 12 (upd nu pc (rdS fl n (a + 1) 2)), aI ci (q 8) 12 (upd co pc (nI 0)), aI ci (q 9) 12 (upd fi pc (nI ic)), aI ci (q 10) 12 (upd ad pc (nI a)), aI ci (q 11) 1800 it, aI ci (q 12) 8 sp, aI ci (q 13) 160 stk] H := hP
      have hD : va_D A [oM q ref n num den mag fac who fnd (pc + 1) ic a 2 a la (-1) dee 0, aI ci (q 1) 600 fl, aI ci (q 2) 1024 wd, aI cz (q 3) 8 df, aI cz (q 4) 8 ag, aI ci (q 5) 8 mk, aI ci (q 6) 8 sc, aI ci (q 7) 12 (upd nu pc (rdS fl n (a + 1) 2)), aI ci (q 8) 12 (upd co pc (nI 0)), aI ci (q 9) 12 (upd fi pc (nI ic)), aI ci (q 10) 12 (upd ad pc (nI a)), aI ci (q 11) 1800 it, aI ci (q 12) 8 sp, aI ci (q 13) 160 stk] := hD
      refine lv_iconst (v := nI 0) hx hb dX9_beginPage_118 (by decide) ?_
      refine lv_istore_n (lv' := [(1, .int (nI 0)), (0, .ref (q 0))]) hx hb dX9_beginPage_119 rfl hl (by decide) rfl (fun ls hl => ?_)
      have loop_120 : ∀ (fuel : Nat) (i : Nat) (sp1 : Nat → Int32) (H : Heap) (locs : List Loc), 8 - i < fuel → (i ≤ 8) → (Zr i sp1) → va_P G vwCl [oM q ref n num den mag fac who fnd (pc + 1) ic a 2 a la (-1) dee 0, aI ci (q 1) 600 fl, aI ci (q 2) 1024 wd, aI cz (q 3) 8 df, aI cz (q 4) 8 ag, aI ci (q 5) 8 mk, aI ci (q 6) 8 sc, aI ci (q 7) 12 (upd nu pc (rdS fl n (a + 1) 2)), aI ci (q 8) 12 (upd co pc (nI 0)), aI ci (q 9) 12 (upd fi pc (nI ic)), aI ci (q 10) 12 (upd ad pc (nI a)), aI ci (q 11) 1800 it, aI ci (q 12) 8 sp1, aI ci (q 13) 160 stk] H → va_D A [oM q ref n num den mag fac who fnd (pc + 1) ic a 2 a la (-1) dee 0, aI ci (q 1) 600 fl, aI ci (q 2) 1024 wd, aI cz (q 3) 8 df, aI cz (q 4) 8 ag, aI ci (q 5) 8 mk, aI ci (q 6) 8 sc, aI ci (q 7) 12 (upd nu pc (rdS fl n (a + 1) 2)), aI ci (q 8) 12 (upd co pc (nI 0)), aI ci (q 9) 12 (upd fi pc (nI ic)), aI ci (q 10) 12 (upd ad pc (nI a)), aI ci (q 11) 1800 it, aI ci (q 12) 8 sp1, aI ci (q 13) 160 stk] → va_S A s.heap H locs → ∀ ls : Array Slot, lv_has ls 2 [(0, .ref (q 0)), (1, .int (nI i))] → W p l e (headSpec wsX9_beginPage ({ frames := 2, cells := 0, slots := 0, locals := 49 })).room s m ([.ref (q 0)] : List Value).toArray below meth c H locs 0 0 (MQ below (va_Qi (fun (r : Int32) (u : Nat × Nat × Nat × Nat × Int32 × Nat × (Nat → Int32) × (Nat → Int32) × (Nat → Int32) × (Nat → Int32) × (Nat → Int32)) => r = nI u.1 ∧ u.1 ≤ 1 ∧ RBegin fl n a lb pc nu ad co u.1 u.2.1 u.2.2.2.2.2.2.1 u.2.2.2.2.2.2.2.2.2.1 u.2.2.2.2.2.2.2.1 u.2.2.2.2.2.2.2.2.2.2 ∧ (u.1 = 1 → u.2.2.1 = 2 ∧ u.2.2.2.1 = a ∧ u.2.2.2.2.2.1 = 0 ∧ u.2.2.2.2.1 = -1) ∧ u.2.2.2.2.2.1 ≤ 20 ∧ u.2.1 ≤ 12 ∧ PI u.2.1 ic u.2.2.2.2.2.2.2.2.1 u.2.2.2.2.2.2.2.1 ∧ FO u.2.2.2.2.1 ∧ ((u.2.2.1 = 2 → 1 ≤ u.2.1) ∧ u.2.2.1 ≤ 4) ∧ u.2.2.2.1 ≤ 65535) (fun u t => PQ G (TY ci cz cl) A [oM q ref n num den mag fac who fnd u.2.1 ic a u.2.2.1 u.2.2.2.1 la u.2.2.2.2.1 dee u.2.2.2.2.2.1, aI ci (q 1) 600 fl, aI ci (q 2) 1024 wd, aI cz (q 3) 8 df, aI cz (q 4) 8 ag, aI ci (q 5) 8 mk, aI ci (q 6) 8 sc, aI ci (q 7) 12 u.2.2.2.2.2.2.1, aI ci (q 8) 12 u.2.2.2.2.2.2.2.1, aI ci (q 9) 12 u.2.2.2.2.2.2.2.2.1, aI ci (q 10) 12 u.2.2.2.2.2.2.2.2.2.1, aI ci (q 11) 1800 it, aI ci (q 12) 8 u.2.2.2.2.2.2.2.2.2.2, aI ci (q 13) 160 stk] t) A) ([.ref (q 0)] : List Value).toArray s 0 0 A) (F0 m 120 ls []) := by
        intro fuel
        induction fuel with
        | zero => intro i sp1 H locs hf; exact absurd hf (by omega)
        | succ fuel ih =>
          intro i sp1 H locs hf hi hz hP hD hS ls hl
          have hPI2 := PI_begin hPI
          refine lv_iload_n hx hb dX9_beginPage_120 rfl (lv_at hl 1 rfl) ?_
          refine lv_bipush (v := nI 8) hx hb dX9_beginPage_121 (by decide) ?_
          refine lv_icmp_ge (tgt := 139) hx hb dX9_beginPage_123 (by decide) (fun c_5 => ?_) (fun c_5 => ?_)
          · skip
            have z_5 := (nI_leI (a := 8) (b := i) (by omega) (by omega)).mp c_5
            refine lv_iconst (v := nI 1) hx hb dX9_beginPage_139 (by decide) ?_
            exact rI (v := nI 1) hx hb hr hlocks nb1 hK hP hD hS [0, 1, 2, 3, 4, 5, 6, 7, 8, 9, 10, 11, 12, 13] (1, pc + 1, 2, a, (-1), 0, upd nu pc (rdS fl n (a + 1) 2), upd co pc (nI 0), upd fi pc (nI ic), upd ad pc (nI a), sp1) rfl (by decide) ⟨rfl, by (try dsimp only); omega, Or.inl ⟨rfl, by (try dsimp only); omega, by (try dsimp only); omega, rfl, rfl, rfl, rfl, Zr_c hz (by (try dsimp only); omega)⟩, fun _ => ⟨rfl, rfl, rfl, rfl⟩, by (try dsimp only); omega, by (try dsimp only); omega, by assumption, FO_m, by (try dsimp only); omega, by (try dsimp only); omega⟩ dX9_beginPage_140
          · skip
            have z_5 := mt (nI_leI (a := 8) (b := i) (by omega) (by omega)).mpr c_5
            refine lv_aload_n hx hb dX9_beginPage_126 rfl (lv_at hl 0 rfl) ?_
            refine va_get (D := G) (ci := 8) (v := .ref (q 12)) (C := RX9) (T := TX9) (N := 30) hx hb hts hi_X9 hown hK hP 0 rfl rfl 28 (by decide) f_48 (fun _ h9 => h9) rfl dX9_beginPage_127 ?_
            refine lv_iload_n hx hb dX9_beginPage_130 rfl (lv_at hl 1 rfl) ?_
            refine lv_iconst (v := nI 0) hx hb dX9_beginPage_131 (by decide) ?_
            refine va_iast hx hb hK hP hD hS 12 0 rfl rfl (vp_in_nI (by omega) (by omega)) dX9_beginPage_132 (fun H locs hP hD hS => ?_)
            rw [nI_clamp (by omega)] at hP hD
            have hP : va_P G vwCl [oM q ref n num den mag fac who fnd (pc + 1) ic a 2 a la (-1) dee 0, aI ci (q 1) 600 fl, aI ci (q 2) 1024 wd, aI cz (q 3) 8 df, aI cz (q 4) 8 ag, aI ci (q 5) 8 mk, aI ci (q 6) 8 sc, aI ci (q 7) 12 (upd nu pc (rdS fl n (a + 1) 2)), aI ci (q 8) 12 (upd co pc (nI 0)), aI ci (q 9) 12 (upd fi pc (nI ic)), aI ci (q 10) 12 (upd ad pc (nI a)), aI ci (q 11) 1800 it, aI ci (q 12) 8 (upd sp1 i (nI 0)), aI ci (q 13) 160 stk] H := hP
            have hD : va_D A [oM q ref n num den mag fac who fnd (pc + 1) ic a 2 a la (-1) dee 0, aI ci (q 1) 600 fl, aI ci (q 2) 1024 wd, aI cz (q 3) 8 df, aI cz (q 4) 8 ag, aI ci (q 5) 8 mk, aI ci (q 6) 8 sc, aI ci (q 7) 12 (upd nu pc (rdS fl n (a + 1) 2)), aI ci (q 8) 12 (upd co pc (nI 0)), aI ci (q 9) 12 (upd fi pc (nI ic)), aI ci (q 10) 12 (upd ad pc (nI a)), aI ci (q 11) 1800 it, aI ci (q 12) 8 (upd sp1 i (nI 0)), aI ci (q 13) 160 stk] := hD
            refine lv_iinc (v := nI (i + 1)) (lv' := [(1, .int (nI (i + 1))), (0, .ref (q 0))]) hx hb dX9_beginPage_133 hl (k := 1) rfl (nI_add _ _) (by decide) rfl (fun ls hl => ?_)
            refine lv_goto (tgt := 120) hx hb dX9_beginPage_136 (by decide) ?_
            exact ih (i + 1) (upd sp1 i (nI 0)) H locs (by omega) (by omega) (Zr_s hz) (hP.sub [0, 1, 2, 3, 4, 5, 6, 7, 8, 9, 10, 11, 12, 13] rfl) (hD.sub [0, 1, 2, 3, 4, 5, 6, 7, 8, 9, 10, 11, 12, 13] (by decide) rfl) hS ls (lv_sub hl [1, 0] rfl)
      exact loop_120 (8 - 0 + 1) 0 sp H locs (Nat.lt_succ_self _) (by omega) Zr_0 (hP.sub [0, 1, 2, 3, 4, 5, 6, 7, 8, 9, 10, 11, 12, 13] rfl) (hD.sub [0, 1, 2, 3, 4, 5, 6, 7, 8, 9, 10, 11, 12, 13] (by decide) rfl) hS ls (lv_sub hl [1, 0] rfl)
    · skip
      have z_3 := mt (nI_eq (a := (rdN fl n (a + 3) 2)) (b := lb) (by omega) (by omega)).mpr c_3
      refine lv_iconst (v := nI 0) hx hb dX9_beginPage_27 (by decide) ?_
      exact rI (v := nI 0) hx hb hr hlocks nb0 hK hP hD hS [0, 1, 2, 3, 4, 5, 6, 7, 8, 9, 10, 11, 12, 13] (0, pc, sta, lb, fo, kc, nu, co, fi, ad, sp) rfl (by decide) ⟨rfl, by (try dsimp only); omega, Or.inr ⟨rfl, by (try dsimp only); omega⟩, fun h => absurd h (by (try dsimp only); omega), by (try dsimp only); omega, by (try dsimp only); omega, by assumption, by assumption, by (try dsimp only); omega, by (try dsimp only); omega⟩ dX9_beginPage_28
set_option maxHeartbeats 4000000 in
set_option maxRecDepth 100000 in
theorem c_X9_last (l : Launch) (G : va_G) (ci cz cl : ClassId) (q : Nat → Nat) (sz : Nat) (ref : Int32) (n : Nat) (num : Nat) (den : Nat) (mag : Nat) (fac : UInt64) (who : Nat) (fnd : Int32) (pc : Nat) (ic : Nat) (a : Nat) (sta : Nat) (lb : Nat) (la : Nat) (fo : Int32) (dee : Nat) (kc : Nat) (fl : Nat → Int32) (wd : Nat → Int32) (df : Nat → Int32) (ag : Nat → Int32) (mk : Nat → Int32) (sc : Nat → Int32) (nu : Nat → Int32) (co : Nat → Int32) (fi : Nat → Int32) (ad : Nat → Int32) (it : Nat → Int32) (sp : Nat → Int32) (stk : Nat → Int32) (hn : n ≤ 600) (hB : FB fl) (ha : a + 12 ≤ n) (hM : MK kc pc ic fi co fac fo sta lb la dee num den mag) : CtI l yX9_last wsX9_last ({ frames := 1, cells := 0, slots := 0, locals := 24 }) G (TY ci cz cl) O0 [.ref (q 0)] [oM q ref n num den mag fac who fnd pc ic a sta lb la fo dee kc, aI ci (q 1) 600 fl, aI ci (q 2) 1024 wd, aI cz (q 3) 8 df, aI cz (q 4) 8 ag, aI ci (q 5) 8 mk, aI ci (q 6) 8 sc, aI ci (q 7) 12 nu, aI ci (q 8) 12 co, aI ci (q 9) 12 fi, aI ci (q 10) 12 ad, aI ci (q 11) 1800 it, aI ci (q 12) 8 sp, aI ci (q 13) 160 stk] sz (fun (r : Int32) (u : Nat) => r = nI u ∧ u ≤ 1 ∧ RLast fl n a lb num den mag dee pc u) (fun u : Nat => [oM q ref n num den mag fac who fnd pc ic a 3 lb a fo dee kc, aI ci (q 1) 600 fl, aI ci (q 2) 1024 wd, aI cz (q 3) 8 df, aI cz (q 4) 8 ag, aI ci (q 5) 8 mk, aI ci (q 6) 8 sc, aI ci (q 7) 12 nu, aI ci (q 8) 12 co, aI ci (q 9) 12 fi, aI ci (q 10) 12 ad, aI ci (q 11) 1800 it, aI ci (q 12) 8 sp, aI ci (q 13) 160 stk]) 0 0 := by
  refine Met.ofW (cc := cX9_last) (maxL := 2) (ret := (some .boolean)) (by decide) rfl ?_
  intro p e s m args below meth c s₁ B hml hv
  obtain ⟨rfl, ⟨hsz, hP, hK, hD0⟩, hO⟩ := hv
  have hx := B.exec
  have hb := B.bytes
  have hr := B.returns
  have hts := atoms_spec (ws := wsX9_last) B.pre
  have hown : s.vm.findClass RX9 = some m.cls := findClass_of_methodNamed B.named
  have hlocks := B.notSynchronized
  subst hsz
  have hD := hD0.self (sz := s.heap.size)
  generalize hAe : va_A [oM q ref n num den mag fac who fnd pc ic a sta lb la fo dee kc, aI ci (q 1) 600 fl, aI ci (q 2) 1024 wd, aI cz (q 3) 8 df, aI cz (q 4) 8 ag, aI ci (q 5) 8 mk, aI ci (q 6) 8 sc, aI ci (q 7) 12 nu, aI ci (q 8) 12 co, aI ci (q 9) 12 fi, aI ci (q 10) 12 ad, aI ci (q 11) 1800 it, aI ci (q 12) 8 sp, aI ci (q 13) 160 stk] s.heap.size = A at hD hO ⊢
  have hA : ∀ q : Nat, s.heap.size ≤ q → A q := fun q h => by rw [← hAe]; exact Or.inr h
  have ok := ok0
  refine startH (A := A) (fun H locs hP hS => ?_) hP
  have hi_X9 := (by decide +kernel : ∀ w ∈ wsX90, w ∈ wsX9_last)
  have f_105 := hts (.fieldLink RX9 105 "PageReaderModel" "at" "I") (by decide +kernel)
  have f_142 := hts (.fieldLink RX9 142 "PageReaderModel" "lastBegin" "I") (by decide +kernel)
  have f_145 := hts (.fieldLink RX9 145 "PageReaderModel" "lastAt" "I") (by decide +kernel)
  have f_128 := hts (.fieldLink RX9 128 "PageReaderModel" "state" "I") (by decide +kernel)
  have f_131 := hts (.fieldLink RX9 131 "PageReaderModel" "num" "I") (by decide +kernel)
  have f_134 := hts (.fieldLink RX9 134 "PageReaderModel" "den" "I") (by decide +kernel)
  have f_137 := hts (.fieldLink RX9 137 "PageReaderModel" "mag" "I") (by decide +kernel)
  have f_7 := hts (.fieldLink RX9 7 "PageReaderModel" "file" "[I") (by decide +kernel)
  have f_114 := hts (.fieldLink RX9 114 "PageReaderModel" "deepest" "I") (by decide +kernel)
  have f_95 := hts (.fieldLink RX9 95 "PageReaderModel" "pages" "I") (by decide +kernel)
  have hl := lv_entry ([.ref (q 0)]) (n := 2) (Nat.le_of_ble_eq_true rfl)
  rw [lg_entry_eq]
  generalize (lg_sl ([.ref (q 0)]) ++ List.replicate (2 - (lg_sl ([.ref (q 0)])).length) Slot.unset).toArray = ls at hl ⊢
  have hl : lv_has ls 2 [(0, .ref (q 0))] := hl
  obtain ⟨hkc, hpc, hic, hPI, hf, hFO, hst, hbd⟩ := hM
  have hb9 := rdN_b hB n (a + 9)
  refine lv_aload_n hx hb dX9_last_0 rfl (lv_at hl 0 rfl) ?_
  refine lv_aload_n hx hb dX9_last_1 rfl (lv_at hl 0 rfl) ?_
  refine va_get (D := G) (ci := 8) (v := .int (nI a)) (C := RX9) (T := TX9) (N := 30) hx hb hts hi_X9 hown hK hP 0 rfl rfl 21 (by decide) f_105 (fun _ h9 => h9) rfl dX9_last_2 ?_
  refine lv_iconst (v := nI 1) hx hb dX9_last_5 (by decide) ?_
  refine lv_iadd hx hb dX9_last_6 ?_
  refine tp (nI_add _ _) ?_
  refine lv_iconst (v := nI 2) hx hb dX9_last_7 (by decide) ?_
  refine jI (va_runV (As := [.int (nI (a + 1)), .int (nI 2)]) (rest := []) ⟨hx, hb, hml, hown, hts⟩ (c_X9_numberAt l G ci cz cl q H.size (a + 1) 2 ref n num den mag fac who fnd pc ic a sta lb la fo dee kc fl wd df ag mk sc nu co fi ad it sp stk (by omega) hB (by omega) (by omega)) (cwV 2 hts gX9_last_X9_numberAt rfl rfl rfl (by decide +kernel) ⟨(Nat.le_of_ble_eq_true rfl), (Nat.le_of_ble_eq_true rfl)⟩) (pV (wc := [oM q ref n num den mag fac who fnd pc ic a sta lb la fo dee kc, aI ci (q 1) 600 fl, aI ci (q 2) 1024 wd, aI cz (q 3) 8 df, aI cz (q 4) 8 ag, aI ci (q 5) 8 mk, aI ci (q 6) 8 sc, aI ci (q 7) 12 nu, aI ci (q 8) 12 co, aI ci (q 9) 12 fi, aI ci (q 10) 12 ad, aI ci (q 11) 1800 it, aI ci (q 12) 8 sp, aI ci (q 13) 160 stk]) ok hK hP hD hS hA hO [0, 1, 2, 3, 4, 5, 6, 7, 8, 9, 10, 11, 12, 13] rfl (by decide) 0 rfl rfl) rfl rfl hl.1 rfl (lv_room (Nat.le_of_ble_eq_true rfl)) dX9_last_8 ⟨(Nat.le_of_ble_eq_true rfl), (Nat.le_of_ble_eq_true rfl)⟩) (wr := []) hP hD hS hA [0, 1, 2, 3, 4, 5, 6, 7, 8, 9, 10, 11, 12, 13] [] rfl rfl (by decide) (by decide) (fun r_1 u H locs hw_1 hP hD hS => ?_)
  try dsimp only at hw_1
  obtain ⟨rfl, h_1⟩ := hw_1
  have hP : va_P G vwCl [oM q ref n num den mag fac who fnd pc ic a sta lb la fo dee kc, aI ci (q 1) 600 fl, aI ci (q 2) 1024 wd, aI cz (q 3) 8 df, aI cz (q 4) 8 ag, aI ci (q 5) 8 mk, aI ci (q 6) 8 sc, aI ci (q 7) 12 nu, aI ci (q 8) 12 co, aI ci (q 9) 12 fi, aI ci (q 10) 12 ad, aI ci (q 11) 1800 it, aI ci (q 12) 8 sp, aI ci (q 13) 160 stk] H := hP
  have hD : va_D A [oM q ref n num den mag fac who fnd pc ic a sta lb la fo dee kc, aI ci (q 1) 600 fl, aI ci (q 2) 1024 wd, aI cz (q 3) 8 df, aI cz (q 4) 8 ag, aI ci (q 5) 8 mk, aI ci (q 6) 8 sc, aI ci (q 7) 12 nu, aI ci (q 8) 12 co, aI ci (q 9) 12 fi, aI ci (q 10) 12 ad, aI ci (q 11) 1800 it, aI ci (q 12) 8 sp, aI ci (q 13) 160 stk] := hD
  refine lv_aload_n hx hb dX9_last_11 rfl (lv_at hl 0 rfl) ?_
  refine va_get (D := G) (ci := 8) (v := .int (nI lb)) (C := RX9) (T := TX9) (N := 30) hx hb hts hi_X9 hown hK hP 0 rfl rfl 23 (by decide) f_142 (fun _ h9 => h9) rfl dX9_last_12 ?_
  refine lv_icmp_ne (tgt := 77) hx hb dX9_last_15 (by decide) (fun c_2 => ?_) (fun c_2 => ?_)
  · skip
    have z_2 := mt (nI_eq (a := (rdN fl n (a + 1) 2)) (b := lb) (by omega) (by omega)).mpr c_2
    refine lv_iconst (v := nI 0) hx hb dX9_last_77 (by decide) ?_
    refine lv_istore_n (lv' := [(1, .int (nI 0)), (0, .ref (q 0))]) hx hb dX9_last_78 rfl hl (by decide) rfl (fun ls hl => ?_)
    refine lv_aload_n hx hb dX9_last_79 rfl (lv_at hl 1 rfl) ?_
    refine lv_aload_n hx hb dX9_last_80 rfl (lv_at hl 1 rfl) ?_
    refine va_get (D := G) (ci := 8) (v := .int (nI a)) (C := RX9) (T := TX9) (N := 30) hx hb hts hi_X9 hown hK hP 0 rfl rfl 21 (by decide) f_105 (fun _ h9 => h9) rfl dX9_last_81 ?_
    refine va_put (D := G) (ci := 8) (v := .int (nI a)) (ty := .int) (C := RX9) (T := TX9) (N := 30) hx hb hts hi_X9 tyX9 tyX9_ok nmX9 hown hK hP hD hS 0 rfl rfl 24 (by decide) f_145 (fun _ h9 => h9) rfl (by decide +kernel) rfl rfl (Nat.le_of_ble_eq_true rfl) dX9_last_84 (fun H locs hP hD hS => ?_)
    have hP : va_P G vwCl [oM q ref n num den mag fac who fnd pc ic a sta lb a fo dee kc, aI ci (q 1) 600 fl, aI ci (q 2) 1024 wd, aI cz (q 3) 8 df, aI cz (q 4) 8 ag, aI ci (q 5) 8 mk, aI ci (q 6) 8 sc, aI ci (q 7) 12 nu, aI ci (q 8) 12 co, aI ci (q 9) 12 fi, aI ci (q 10) 12 ad, aI ci (q 11) 1800 it, aI ci (q 12) 8 sp, aI ci (q 13) 160 stk] H := hP
    have hD : va_D A [oM q ref n num den mag fac who fnd pc ic a sta lb a fo dee kc, aI ci (q 1) 600 fl, aI ci (q 2) 1024 wd, aI cz (q 3) 8 df, aI cz (q 4) 8 ag, aI ci (q 5) 8 mk, aI ci (q 6) 8 sc, aI ci (q 7) 12 nu, aI ci (q 8) 12 co, aI ci (q 9) 12 fi, aI ci (q 10) 12 ad, aI ci (q 11) 1800 it, aI ci (q 12) 8 sp, aI ci (q 13) 160 stk] := hD
    refine lv_aload_n hx hb dX9_last_87 rfl (lv_at hl 1 rfl) ?_
    refine lv_iconst (v := nI 3) hx hb dX9_last_88 (by decide) ?_
    refine va_put (D := G) (ci := 8) (v := .int (nI 3)) (ty := .int) (C := RX9) (T := TX9) (N := 30) hx hb hts hi_X9 tyX9 tyX9_ok nmX9 hown hK hP hD hS 0 rfl rfl 22 (by decide) f_128 (fun _ h9 => h9) rfl (by decide +kernel) rfl rfl (Nat.le_of_ble_eq_true rfl) dX9_last_89 (fun H locs hP hD hS => ?_)
    have hP : va_P G vwCl [oM q ref n num den mag fac who fnd pc ic a 3 lb a fo dee kc, aI ci (q 1) 600 fl, aI ci (q 2) 1024 wd, aI cz (q 3) 8 df, aI cz (q 4) 8 ag, aI ci (q 5) 8 mk, aI ci (q 6) 8 sc, aI ci (q 7) 12 nu, aI ci (q 8) 12 co, aI ci (q 9) 12 fi, aI ci (q 10) 12 ad, aI ci (q 11) 1800 it, aI ci (q 12) 8 sp, aI ci (q 13) 160 stk] H := hP
    have hD : va_D A [oM q ref n num den mag fac who fnd pc ic a 3 lb a fo dee kc, aI ci (q 1) 600 fl, aI ci (q 2) 1024 wd, aI cz (q 3) 8 df, aI cz (q 4) 8 ag, aI ci (q 5) 8 mk, aI ci (q 6) 8 sc, aI ci (q 7) 12 nu, aI ci (q 8) 12 co, aI ci (q 9) 12 fi, aI ci (q 10) 12 ad, aI ci (q 11) 1800 it, aI ci (q 12) 8 sp, aI ci (q 13) 160 stk] := hD
    refine lv_iload_n hx hb dX9_last_92 rfl (lv_at hl 0 rfl) ?_
    refine lv_if_eq (tgt := 138) hx hb dX9_last_93 (by decide) (fun _ => ?_) (fun c => absurd c (by decide))
    refine lv_iconst (v := nI 0) hx hb dX9_last_138 (by decide) ?_
    exact rI (v := nI 0) hx hb hr hlocks nb0 hK hP hD hS [0, 1, 2, 3, 4, 5, 6, 7, 8, 9, 10, 11, 12, 13] 0 rfl (by decide) ⟨rfl, by (try dsimp only); omega, Or.inr ⟨rfl, by (try dsimp only); omega⟩⟩ dX9_last_139
  · skip
    have z_2 := (nI_eq (a := (rdN fl n (a + 1) 2)) (b := lb) (by omega) (by omega)).mp c_2
    refine lv_aload_n hx hb dX9_last_18 rfl (lv_at hl 0 rfl) ?_
    refine lv_aload_n hx hb dX9_last_19 rfl (lv_at hl 0 rfl) ?_
    refine va_get (D := G) (ci := 8) (v := .int (nI a)) (C := RX9) (T := TX9) (N := 30) hx hb hts hi_X9 hown hK hP 0 rfl rfl 21 (by decide) f_105 (fun _ h9 => h9) rfl dX9_last_20 ?_
    refine lv_iconst (v := nI 3) hx hb dX9_last_23 (by decide) ?_
    refine lv_iadd hx hb dX9_last_24 ?_
    refine tp (nI_add _ _) ?_
    refine lv_iconst (v := nI 2) hx hb dX9_last_25 (by decide) ?_
    refine jI (va_runV (As := [.int (nI (a + 3)), .int (nI 2)]) (rest := []) ⟨hx, hb, hml, hown, hts⟩ (c_X9_numberAt l G ci cz cl q H.size (a + 3) 2 ref n num den mag fac who fnd pc ic a sta lb la fo dee kc fl wd df ag mk sc nu co fi ad it sp stk (by omega) hB (by omega) (by omega)) (cwV 2 hts gX9_last_X9_numberAt rfl rfl rfl (by decide +kernel) ⟨(Nat.le_of_ble_eq_true rfl), (Nat.le_of_ble_eq_true rfl)⟩) (pV (wc := [oM q ref n num den mag fac who fnd pc ic a sta lb la fo dee kc, aI ci (q 1) 600 fl, aI ci (q 2) 1024 wd, aI cz (q 3) 8 df, aI cz (q 4) 8 ag, aI ci (q 5) 8 mk, aI ci (q 6) 8 sc, aI ci (q 7) 12 nu, aI ci (q 8) 12 co, aI ci (q 9) 12 fi, aI ci (q 10) 12 ad, aI ci (q 11) 1800 it, aI ci (q 12) 8 sp, aI ci (q 13) 160 stk]) ok hK hP hD hS hA hO [0, 1, 2, 3, 4, 5, 6, 7, 8, 9, 10, 11, 12, 13] rfl (by decide) 0 rfl rfl) rfl rfl hl.1 rfl (lv_room (Nat.le_of_ble_eq_true rfl)) dX9_last_26 ⟨(Nat.le_of_ble_eq_true rfl), (Nat.le_of_ble_eq_true rfl)⟩) (wr := []) hP hD hS hA [0, 1, 2, 3, 4, 5, 6, 7, 8, 9, 10, 11, 12, 13] [] rfl rfl (by decide) (by decide) (fun r_3 u H locs hw_3 hP hD hS => ?_)
    try dsimp only at hw_3
    obtain ⟨rfl, h_3⟩ := hw_3
    have hP : va_P G vwCl [oM q ref n num den mag fac who fnd pc ic a sta lb la fo dee kc, aI ci (q 1) 600 fl, aI ci (q 2) 1024 wd, aI cz (q 3) 8 df, aI cz (q 4) 8 ag, aI ci (q 5) 8 mk, aI ci (q 6) 8 sc, aI ci (q 7) 12 nu, aI ci (q 8) 12 co, aI ci (q 9) 12 fi, aI ci (q 10) 12 ad, aI ci (q 11) 1800 it, aI ci (q 12) 8 sp, aI ci (q 13) 160 stk] H := hP
    have hD : va_D A [oM q ref n num den mag fac who fnd pc ic a sta lb la fo dee kc, aI ci (q 1) 600 fl, aI ci (q 2) 1024 wd, aI cz (q 3) 8 df, aI cz (q 4) 8 ag, aI ci (q 5) 8 mk, aI ci (q 6) 8 sc, aI ci (q 7) 12 nu, aI ci (q 8) 12 co, aI ci (q 9) 12 fi, aI ci (q 10) 12 ad, aI ci (q 11) 1800 it, aI ci (q 12) 8 sp, aI ci (q 13) 160 stk] := hD
    refine lv_aload_n hx hb dX9_last_29 rfl (lv_at hl 0 rfl) ?_
    refine va_get (D := G) (ci := 8) (v := .int (nI num)) (C := RX9) (T := TX9) (N := 30) hx hb hts hi_X9 hown hK hP 0 rfl rfl 8 (by decide) f_131 (fun _ h9 => h9) rfl dX9_last_30 ?_
    refine lv_icmp_ne (tgt := 77) hx hb dX9_last_33 (by decide) (fun c_4 => ?_) (fun c_4 => ?_)
    · skip
      have z_4 := mt (nI_eq (a := (rdN fl n (a + 3) 2)) (b := num) (by omega) (by omega)).mpr c_4
      refine lv_iconst (v := nI 0) hx hb dX9_last_77 (by decide) ?_
      refine lv_istore_n (lv' := [(1, .int (nI 0)), (0, .ref (q 0))]) hx hb dX9_last_78 rfl hl (by decide) rfl (fun ls hl => ?_)
      refine lv_aload_n hx hb dX9_last_79 rfl (lv_at hl 1 rfl) ?_
      refine lv_aload_n hx hb dX9_last_80 rfl (lv_at hl 1 rfl) ?_
      refine va_get (D := G) (ci := 8) (v := .int (nI a)) (C := RX9) (T := TX9) (N := 30) hx hb hts hi_X9 hown hK hP 0 rfl rfl 21 (by decide) f_105 (fun _ h9 => h9) rfl dX9_last_81 ?_
      refine va_put (D := G) (ci := 8) (v := .int (nI a)) (ty := .int) (C := RX9) (T := TX9) (N := 30) hx hb hts hi_X9 tyX9 tyX9_ok nmX9 hown hK hP hD hS 0 rfl rfl 24 (by decide) f_145 (fun _ h9 => h9) rfl (by decide +kernel) rfl rfl (Nat.le_of_ble_eq_true rfl) dX9_last_84 (fun H locs hP hD hS => ?_)
      have hP : va_P G vwCl [oM q ref n num den mag fac who fnd pc ic a sta lb a fo dee kc, aI ci (q 1) 600 fl, aI ci (q 2) 1024 wd, aI cz (q 3) 8 df, aI cz (q 4) 8 ag, aI ci (q 5) 8 mk, aI ci (q 6) 8 sc, aI ci (q 7) 12 nu, aI ci (q 8) 12 co, aI ci (q 9) 12 fi, aI ci (q 10) 12 ad, aI ci (q 11) 1800 it, aI ci (q 12) 8 sp, aI ci (q 13) 160 stk] H := hP
      have hD : va_D A [oM q ref n num den mag fac who fnd pc ic a sta lb a fo dee kc, aI ci (q 1) 600 fl, aI ci (q 2) 1024 wd, aI cz (q 3) 8 df, aI cz (q 4) 8 ag, aI ci (q 5) 8 mk, aI ci (q 6) 8 sc, aI ci (q 7) 12 nu, aI ci (q 8) 12 co, aI ci (q 9) 12 fi, aI ci (q 10) 12 ad, aI ci (q 11) 1800 it, aI ci (q 12) 8 sp, aI ci (q 13) 160 stk] := hD
      refine lv_aload_n hx hb dX9_last_87 rfl (lv_at hl 1 rfl) ?_
      refine lv_iconst (v := nI 3) hx hb dX9_last_88 (by decide) ?_
      refine va_put (D := G) (ci := 8) (v := .int (nI 3)) (ty := .int) (C := RX9) (T := TX9) (N := 30) hx hb hts hi_X9 tyX9 tyX9_ok nmX9 hown hK hP hD hS 0 rfl rfl 22 (by decide) f_128 (fun _ h9 => h9) rfl (by decide +kernel) rfl rfl (Nat.le_of_ble_eq_true rfl) dX9_last_89 (fun H locs hP hD hS => ?_)
      have hP : va_P G vwCl [oM q ref n num den mag fac who fnd pc ic a 3 lb a fo dee kc, aI ci (q 1) 600 fl, aI ci (q 2) 1024 wd, aI cz (q 3) 8 df, aI cz (q 4) 8 ag, aI ci (q 5) 8 mk, aI ci (q 6) 8 sc, aI ci (q 7) 12 nu, aI ci (q 8) 12 co, aI ci (q 9) 12 fi, aI ci (q 10) 12 ad, aI ci (q 11) 1800 it, aI ci (q 12) 8 sp, aI ci (q 13) 160 stk] H := hP
      have hD : va_D A [oM q ref n num den mag fac who fnd pc ic a 3 lb a fo dee kc, aI ci (q 1) 600 fl, aI ci (q 2) 1024 wd, aI cz (q 3) 8 df, aI cz (q 4) 8 ag, aI ci (q 5) 8 mk, aI ci (q 6) 8 sc, aI ci (q 7) 12 nu, aI ci (q 8) 12 co, aI ci (q 9) 12 fi, aI ci (q 10) 12 ad, aI ci (q 11) 1800 it, aI ci (q 12) 8 sp, aI ci (q 13) 160 stk] := hD
      refine lv_iload_n hx hb dX9_last_92 rfl (lv_at hl 0 rfl) ?_
      refine lv_if_eq (tgt := 138) hx hb dX9_last_93 (by decide) (fun _ => ?_) (fun c => absurd c (by decide))
      refine lv_iconst (v := nI 0) hx hb dX9_last_138 (by decide) ?_
      exact rI (v := nI 0) hx hb hr hlocks nb0 hK hP hD hS [0, 1, 2, 3, 4, 5, 6, 7, 8, 9, 10, 11, 12, 13] 0 rfl (by decide) ⟨rfl, by (try dsimp only); omega, Or.inr ⟨rfl, by (try dsimp only); omega⟩⟩ dX9_last_139
    · skip
      have z_4 := (nI_eq (a := (rdN fl n (a + 3) 2)) (b := num) (by omega) (by omega)).mp c_4
      refine lv_aload_n hx hb dX9_last_36 rfl (lv_at hl 0 rfl) ?_
      refine lv_aload_n hx hb dX9_last_37 rfl (lv_at hl 0 rfl) ?_
      refine va_get (D := G) (ci := 8) (v := .int (nI a)) (C := RX9) (T := TX9) (N := 30) hx hb hts hi_X9 hown hK hP 0 rfl rfl 21 (by decide) f_105 (fun _ h9 => h9) rfl dX9_last_38 ?_
      refine lv_iconst (v := nI 5) hx hb dX9_last_41 (by decide) ?_
      refine lv_iadd hx hb dX9_last_42 ?_
      refine tp (nI_add _ _) ?_
      refine lv_iconst (v := nI 2) hx hb dX9_last_43 (by decide) ?_
      refine jI (va_runV (As := [.int (nI (a + 5)), .int (nI 2)]) (rest := []) ⟨hx, hb, hml, hown, hts⟩ (c_X9_numberAt l G ci cz cl q H.size (a + 5) 2 ref n num den mag fac who fnd pc ic a sta lb la fo dee kc fl wd df ag mk sc nu co fi ad it sp stk (by omega) hB (by omega) (by omega)) (cwV 2 hts gX9_last_X9_numberAt rfl rfl rfl (by decide +kernel) ⟨(Nat.le_of_ble_eq_true rfl), (Nat.le_of_ble_eq_true rfl)⟩) (pV (wc := [oM q ref n num den mag fac who fnd pc ic a sta lb la fo dee kc, aI ci (q 1) 600 fl, aI ci (q 2) 1024 wd, aI cz (q 3) 8 df, aI cz (q 4) 8 ag, aI ci (q 5) 8 mk, aI ci (q 6) 8 sc, aI ci (q 7) 12 nu, aI ci (q 8) 12 co, aI ci (q 9) 12 fi, aI ci (q 10) 12 ad, aI ci (q 11) 1800 it, aI ci (q 12) 8 sp, aI ci (q 13) 160 stk]) ok hK hP hD hS hA hO [0, 1, 2, 3, 4, 5, 6, 7, 8, 9, 10, 11, 12, 13] rfl (by decide) 0 rfl rfl) rfl rfl hl.1 rfl (lv_room (Nat.le_of_ble_eq_true rfl)) dX9_last_44 ⟨(Nat.le_of_ble_eq_true rfl), (Nat.le_of_ble_eq_true rfl)⟩) (wr := []) hP hD hS hA [0, 1, 2, 3, 4, 5, 6, 7, 8, 9, 10, 11, 12, 13] [] rfl rfl (by decide) (by decide) (fun r_5 u H locs hw_5 hP hD hS => ?_)
      try dsimp only at hw_5
      obtain ⟨rfl, h_5⟩ := hw_5
      have hP : va_P G vwCl [oM q ref n num den mag fac who fnd pc ic a sta lb la fo dee kc, aI ci (q 1) 600 fl, aI ci (q 2) 1024 wd, aI cz (q 3) 8 df, aI cz (q 4) 8 ag, aI ci (q 5) 8 mk, aI ci (q 6) 8 sc, aI ci (q 7) 12 nu, aI ci (q 8) 12 co, aI ci (q 9) 12 fi, aI ci (q 10) 12 ad, aI ci (q 11) 1800 it, aI ci (q 12) 8 sp, aI ci (q 13) 160 stk] H := hP
      have hD : va_D A [oM q ref n num den mag fac who fnd pc ic a sta lb la fo dee kc, aI ci (q 1) 600 fl, aI ci (q 2) 1024 wd, aI cz (q 3) 8 df, aI cz (q 4) 8 ag, aI ci (q 5) 8 mk, aI ci (q 6) 8 sc, aI ci (q 7) 12 nu, aI ci (q 8) 12 co, aI ci (q 9) 12 fi, aI ci (q 10) 12 ad, aI ci (q 11) 1800 it, aI ci (q 12) 8 sp, aI ci (q 13) 160 stk] := hD
      refine lv_aload_n hx hb dX9_last_47 rfl (lv_at hl 0 rfl) ?_
      refine va_get (D := G) (ci := 8) (v := .int (nI den)) (C := RX9) (T := TX9) (N := 30) hx hb hts hi_X9 hown hK hP 0 rfl rfl 9 (by decide) f_134 (fun _ h9 => h9) rfl dX9_last_48 ?_
      refine lv_icmp_ne (tgt := 77) hx hb dX9_last_51 (by decide) (fun c_6 => ?_) (fun c_6 => ?_)
      · skip
        have z_6 := mt (nI_eq (a := (rdN fl n (a + 5) 2)) (b := den) (by omega) (by omega)).mpr c_6
        refine lv_iconst (v := nI 0) hx hb dX9_last_77 (by decide) ?_
        refine lv_istore_n (lv' := [(1, .int (nI 0)), (0, .ref (q 0))]) hx hb dX9_last_78 rfl hl (by decide) rfl (fun ls hl => ?_)
        refine lv_aload_n hx hb dX9_last_79 rfl (lv_at hl 1 rfl) ?_
        refine lv_aload_n hx hb dX9_last_80 rfl (lv_at hl 1 rfl) ?_
        refine va_get (D := G) (ci := 8) (v := .int (nI a)) (C := RX9) (T := TX9) (N := 30) hx hb hts hi_X9 hown hK hP 0 rfl rfl 21 (by decide) f_105 (fun _ h9 => h9) rfl dX9_last_81 ?_
        refine va_put (D := G) (ci := 8) (v := .int (nI a)) (ty := .int) (C := RX9) (T := TX9) (N := 30) hx hb hts hi_X9 tyX9 tyX9_ok nmX9 hown hK hP hD hS 0 rfl rfl 24 (by decide) f_145 (fun _ h9 => h9) rfl (by decide +kernel) rfl rfl (Nat.le_of_ble_eq_true rfl) dX9_last_84 (fun H locs hP hD hS => ?_)
        have hP : va_P G vwCl [oM q ref n num den mag fac who fnd pc ic a sta lb a fo dee kc, aI ci (q 1) 600 fl, aI ci (q 2) 1024 wd, aI cz (q 3) 8 df, aI cz (q 4) 8 ag, aI ci (q 5) 8 mk, aI ci (q 6) 8 sc, aI ci (q 7) 12 nu, aI ci (q 8) 12 co, aI ci (q 9) 12 fi, aI ci (q 10) 12 ad, aI ci (q 11) 1800 it, aI ci (q 12) 8 sp, aI ci (q 13) 160 stk] H := hP
        have hD : va_D A [oM q ref n num den mag fac who fnd pc ic a sta lb a fo dee kc, aI ci (q 1) 600 fl, aI ci (q 2) 1024 wd, aI cz (q 3) 8 df, aI cz (q 4) 8 ag, aI ci (q 5) 8 mk, aI ci (q 6) 8 sc, aI ci (q 7) 12 nu, aI ci (q 8) 12 co, aI ci (q 9) 12 fi, aI ci (q 10) 12 ad, aI ci (q 11) 1800 it, aI ci (q 12) 8 sp, aI ci (q 13) 160 stk] := hD
        refine lv_aload_n hx hb dX9_last_87 rfl (lv_at hl 1 rfl) ?_
        refine lv_iconst (v := nI 3) hx hb dX9_last_88 (by decide) ?_
        refine va_put (D := G) (ci := 8) (v := .int (nI 3)) (ty := .int) (C := RX9) (T := TX9) (N := 30) hx hb hts hi_X9 tyX9 tyX9_ok nmX9 hown hK hP hD hS 0 rfl rfl 22 (by decide) f_128 (fun _ h9 => h9) rfl (by decide +kernel) rfl rfl (Nat.le_of_ble_eq_true rfl) dX9_last_89 (fun H locs hP hD hS => ?_)
        have hP : va_P G vwCl [oM q ref n num den mag fac who fnd pc ic a 3 lb a fo dee kc, aI ci (q 1) 600 fl, aI ci (q 2) 1024 wd, aI cz (q 3) 8 df, aI cz (q 4) 8 ag, aI ci (q 5) 8 mk, aI ci (q 6) 8 sc, aI ci (q 7) 12 nu, aI ci (q 8) 12 co, aI ci (q 9) 12 fi, aI ci (q 10) 12 ad, aI ci (q 11) 1800 it, aI ci (q 12) 8 sp, aI ci (q 13) 160 stk] H := hP
        have hD : va_D A [oM q ref n num den mag fac who fnd pc ic a 3 lb a fo dee kc, aI ci (q 1) 600 fl, aI ci (q 2) 1024 wd, aI cz (q 3) 8 df, aI cz (q 4) 8 ag, aI ci (q 5) 8 mk, aI ci (q 6) 8 sc, aI ci (q 7) 12 nu, aI ci (q 8) 12 co, aI ci (q 9) 12 fi, aI ci (q 10) 12 ad, aI ci (q 11) 1800 it, aI ci (q 12) 8 sp, aI ci (q 13) 160 stk] := hD
        refine lv_iload_n hx hb dX9_last_92 rfl (lv_at hl 0 rfl) ?_
        refine lv_if_eq (tgt := 138) hx hb dX9_last_93 (by decide) (fun _ => ?_) (fun c => absurd c (by decide))
        refine lv_iconst (v := nI 0) hx hb dX9_last_138 (by decide) ?_
        exact rI (v := nI 0) hx hb hr hlocks nb0 hK hP hD hS [0, 1, 2, 3, 4, 5, 6, 7, 8, 9, 10, 11, 12, 13] 0 rfl (by decide) ⟨rfl, by (try dsimp only); omega, Or.inr ⟨rfl, by (try dsimp only); omega⟩⟩ dX9_last_139
      · skip
        have z_6 := (nI_eq (a := (rdN fl n (a + 5) 2)) (b := den) (by omega) (by omega)).mp c_6
        refine lv_aload_n hx hb dX9_last_54 rfl (lv_at hl 0 rfl) ?_
        refine lv_aload_n hx hb dX9_last_55 rfl (lv_at hl 0 rfl) ?_
        refine va_get (D := G) (ci := 8) (v := .int (nI a)) (C := RX9) (T := TX9) (N := 30) hx hb hts hi_X9 hown hK hP 0 rfl rfl 21 (by decide) f_105 (fun _ h9 => h9) rfl dX9_last_56 ?_
        refine lv_bipush (v := nI 7) hx hb dX9_last_59 (by decide) ?_
        refine lv_iadd hx hb dX9_last_61 ?_
        refine tp (nI_add _ _) ?_
        refine lv_iconst (v := nI 2) hx hb dX9_last_62 (by decide) ?_
        refine jI (va_runV (As := [.int (nI (a + 7)), .int (nI 2)]) (rest := []) ⟨hx, hb, hml, hown, hts⟩ (c_X9_numberAt l G ci cz cl q H.size (a + 7) 2 ref n num den mag fac who fnd pc ic a sta lb la fo dee kc fl wd df ag mk sc nu co fi ad it sp stk (by omega) hB (by omega) (by omega)) (cwV 2 hts gX9_last_X9_numberAt rfl rfl rfl (by decide +kernel) ⟨(Nat.le_of_ble_eq_true rfl), (Nat.le_of_ble_eq_true rfl)⟩) (pV (wc := [oM q ref n num den mag fac who fnd pc ic a sta lb la fo dee kc, aI ci (q 1) 600 fl, aI ci (q 2) 1024 wd, aI cz (q 3) 8 df, aI cz (q 4) 8 ag, aI ci (q 5) 8 mk, aI ci (q 6) 8 sc, aI ci (q 7) 12 nu, aI ci (q 8) 12 co, aI ci (q 9) 12 fi, aI ci (q 10) 12 ad, aI ci (q 11) 1800 it, aI ci (q 12) 8 sp, aI ci (q 13) 160 stk]) ok hK hP hD hS hA hO [0, 1, 2, 3, 4, 5, 6, 7, 8, 9, 10, 11, 12, 13] rfl (by decide) 0 rfl rfl) rfl rfl hl.1 rfl (lv_room (Nat.le_of_ble_eq_true rfl)) dX9_last_63 ⟨(Nat.le_of_ble_eq_true rfl), (Nat.le_of_ble_eq_true rfl)⟩) (wr := []) hP hD hS hA [0, 1, 2, 3, 4, 5, 6, 7, 8, 9, 10, 11, 12, 13] [] rfl rfl (by decide) (by decide) (fun r_7 u H locs hw_7 hP hD hS => ?_)
        try dsimp only at hw_7
        obtain ⟨rfl, h_7⟩ := hw_7
        have hP : va_P G vwCl [oM q ref n num den mag fac who fnd pc ic a sta lb la fo dee kc, aI ci (q 1) 600 fl, aI ci (q 2) 1024 wd, aI cz (q 3) 8 df, aI cz (q 4) 8 ag, aI ci (q 5) 8 mk, aI ci (q 6) 8 sc, aI ci (q 7) 12 nu, aI ci (q 8) 12 co, aI ci (q 9) 12 fi, aI ci (q 10) 12 ad, aI ci (q 11) 1800 it, aI ci (q 12) 8 sp, aI ci (q 13) 160 stk] H := hP
        have hD : va_D A [oM q ref n num den mag fac who fnd pc ic a sta lb la fo dee kc, aI ci (q 1) 600 fl, aI ci (q 2) 1024 wd, aI cz (q 3) 8 df, aI cz (q 4) 8 ag, aI ci (q 5) 8 mk, aI ci (q 6) 8 sc, aI ci (q 7) 12 nu, aI ci (q 8) 12 co, aI ci (q 9) 12 fi, aI ci (q 10) 12 ad, aI ci (q 11) 1800 it, aI ci (q 12) 8 sp, aI ci (q 13) 160 stk] := hD
        refine lv_aload_n hx hb dX9_last_66 rfl (lv_at hl 0 rfl) ?_
        refine va_get (D := G) (ci := 8) (v := .int (nI mag)) (C := RX9) (T := TX9) (N := 30) hx hb hts hi_X9 hown hK hP 0 rfl rfl 10 (by decide) f_137 (fun _ h9 => h9) rfl dX9_last_67 ?_
        refine lv_icmp_ne (tgt := 77) hx hb dX9_last_70 (by decide) (fun c_8 => ?_) (fun c_8 => ?_)
        · skip
          have z_8 := mt (nI_eq (a := (rdN fl n (a + 7) 2)) (b := mag) (by omega) (by omega)).mpr c_8
          refine lv_iconst (v := nI 0) hx hb dX9_last_77 (by decide) ?_
          refine lv_istore_n (lv' := [(1, .int (nI 0)), (0, .ref (q 0))]) hx hb dX9_last_78 rfl hl (by decide) rfl (fun ls hl => ?_)
          refine lv_aload_n hx hb dX9_last_79 rfl (lv_at hl 1 rfl) ?_
          refine lv_aload_n hx hb dX9_last_80 rfl (lv_at hl 1 rfl) ?_
          refine va_get (D := G) (ci := 8) (v := .int (nI a)) (C := RX9) (T := TX9) (N := 30) hx hb hts hi_X9 hown hK hP 0 rfl rfl 21 (by decide) f_105 (fun _ h9 => h9) rfl dX9_last_81 ?_
          refine va_put (D := G) (ci := 8) (v := .int (nI a)) (ty := .int) (C := RX9) (T := TX9) (N := 30) hx hb hts hi_X9 tyX9 tyX9_ok nmX9 hown hK hP hD hS 0 rfl rfl 24 (by decide) f_145 (fun _ h9 => h9) rfl (by decide +kernel) rfl rfl (Nat.le_of_ble_eq_true rfl) dX9_last_84 (fun H locs hP hD hS => ?_)
          have hP : va_P G vwCl [oM q ref n num den mag fac who fnd pc ic a sta lb a fo dee kc, aI ci (q 1) 600 fl, aI ci (q 2) 1024 wd, aI cz (q 3) 8 df, aI cz (q 4) 8 ag, aI ci (q 5) 8 mk, aI ci (q 6) 8 sc, aI ci (q 7) 12 nu, aI ci (q 8) 12 co, aI ci (q 9) 12 fi, aI ci (q 10) 12 ad, aI ci (q 11) 1800 it, aI ci (q 12) 8 sp, aI ci (q 13) 160 stk] H := hP
          have hD : va_D A [oM q ref n num den mag fac who fnd pc ic a sta lb a fo dee kc, aI ci (q 1) 600 fl, aI ci (q 2) 1024 wd, aI cz (q 3) 8 df, aI cz (q 4) 8 ag, aI ci (q 5) 8 mk, aI ci (q 6) 8 sc, aI ci (q 7) 12 nu, aI ci (q 8) 12 co, aI ci (q 9) 12 fi, aI ci (q 10) 12 ad, aI ci (q 11) 1800 it, aI ci (q 12) 8 sp, aI ci (q 13) 160 stk] := hD
          refine lv_aload_n hx hb dX9_last_87 rfl (lv_at hl 1 rfl) ?_
          refine lv_iconst (v := nI 3) hx hb dX9_last_88 (by decide) ?_
          refine va_put (D := G) (ci := 8) (v := .int (nI 3)) (ty := .int) (C := RX9) (T := TX9) (N := 30) hx hb hts hi_X9 tyX9 tyX9_ok nmX9 hown hK hP hD hS 0 rfl rfl 22 (by decide) f_128 (fun _ h9 => h9) rfl (by decide +kernel) rfl rfl (Nat.le_of_ble_eq_true rfl) dX9_last_89 (fun H locs hP hD hS => ?_)
          have hP : va_P G vwCl [oM q ref n num den mag fac who fnd pc ic a 3 lb a fo dee kc, aI ci (q 1) 600 fl, aI ci (q 2) 1024 wd, aI cz (q 3) 8 df, aI cz (q 4) 8 ag, aI ci (q 5) 8 mk, aI ci (q 6) 8 sc, aI ci (q 7) 12 nu, aI ci (q 8) 12 co, aI ci (q 9) 12 fi, aI ci (q 10) 12 ad, aI ci (q 11) 1800 it, aI ci (q 12) 8 sp, aI ci (q 13) 160 stk] H := hP
          have hD : va_D A [oM q ref n num den mag fac who fnd pc ic a 3 lb a fo dee kc, aI ci (q 1) 600 fl, aI ci (q 2) 1024 wd, aI cz (q 3) 8 df, aI cz (q 4) 8 ag, aI ci (q 5) 8 mk, aI ci (q 6) 8 sc, aI ci (q 7) 12 nu, aI ci (q 8) 12 co, aI ci (q 9) 12 fi, aI ci (q 10) 12 ad, aI ci (q 11) 1800 it, aI ci (q 12) 8 sp, aI ci (q 13) 160 stk] := hD
          refine lv_iload_n hx hb dX9_last_92 rfl (lv_at hl 0 rfl) ?_
          refine lv_if_eq (tgt := 138) hx hb dX9_last_93 (by decide) (fun _ => ?_) (fun c => absurd c (by decide))
          refine lv_iconst (v := nI 0) hx hb dX9_last_138 (by decide) ?_
          exact rI (v := nI 0) hx hb hr hlocks nb0 hK hP hD hS [0, 1, 2, 3, 4, 5, 6, 7, 8, 9, 10, 11, 12, 13] 0 rfl (by decide) ⟨rfl, by (try dsimp only); omega, Or.inr ⟨rfl, by (try dsimp only); omega⟩⟩ dX9_last_139
        · skip
          have z_8 := (nI_eq (a := (rdN fl n (a + 7) 2)) (b := mag) (by omega) (by omega)).mp c_8
          refine lv_iconst (v := nI 1) hx hb dX9_last_73 (by decide) ?_
          refine lv_goto (tgt := 78) hx hb dX9_last_74 (by decide) ?_
          refine lv_istore_n (lv' := [(1, .int (nI 1)), (0, .ref (q 0))]) hx hb dX9_last_78 rfl hl (by decide) rfl (fun ls hl => ?_)
          refine lv_aload_n hx hb dX9_last_79 rfl (lv_at hl 1 rfl) ?_
          refine lv_aload_n hx hb dX9_last_80 rfl (lv_at hl 1 rfl) ?_
          refine va_get (D := G) (ci := 8) (v := .int (nI a)) (C := RX9) (T := TX9) (N := 30) hx hb hts hi_X9 hown hK hP 0 rfl rfl 21 (by decide) f_105 (fun _ h9 => h9) rfl dX9_last_81 ?_
          refine va_put (D := G) (ci := 8) (v := .int (nI a)) (ty := .int) (C := RX9) (T := TX9) (N := 30) hx hb hts hi_X9 tyX9 tyX9_ok nmX9 hown hK hP hD hS 0 rfl rfl 24 (by decide) f_145 (fun _ h9 => h9) rfl (by decide +kernel) rfl rfl (Nat.le_of_ble_eq_true rfl) dX9_last_84 (fun H locs hP hD hS => ?_)
          have hP : va_P G vwCl [oM q ref n num den mag fac who fnd pc ic a sta lb a fo dee kc, aI ci (q 1) 600 fl, aI ci (q 2) 1024 wd, aI cz (q 3) 8 df, aI cz (q 4) 8 ag, aI ci (q 5) 8 mk, aI ci (q 6) 8 sc, aI ci (q 7) 12 nu, aI ci (q 8) 12 co, aI ci (q 9) 12 fi, aI ci (q 10) 12 ad, aI ci (q 11) 1800 it, aI ci (q 12) 8 sp, aI ci (q 13) 160 stk] H := hP
          have hD : va_D A [oM q ref n num den mag fac who fnd pc ic a sta lb a fo dee kc, aI ci (q 1) 600 fl, aI ci (q 2) 1024 wd, aI cz (q 3) 8 df, aI cz (q 4) 8 ag, aI ci (q 5) 8 mk, aI ci (q 6) 8 sc, aI ci (q 7) 12 nu, aI ci (q 8) 12 co, aI ci (q 9) 12 fi, aI ci (q 10) 12 ad, aI ci (q 11) 1800 it, aI ci (q 12) 8 sp, aI ci (q 13) 160 stk] := hD
          refine lv_aload_n hx hb dX9_last_87 rfl (lv_at hl 1 rfl) ?_
          refine lv_iconst (v := nI 3) hx hb dX9_last_88 (by decide) ?_
          refine va_put (D := G) (ci := 8) (v := .int (nI 3)) (ty := .int) (C := RX9) (T := TX9) (N := 30) hx hb hts hi_X9 tyX9 tyX9_ok nmX9 hown hK hP hD hS 0 rfl rfl 22 (by decide) f_128 (fun _ h9 => h9) rfl (by decide +kernel) rfl rfl (Nat.le_of_ble_eq_true rfl) dX9_last_89 (fun H locs hP hD hS => ?_)
          have hP : va_P G vwCl [oM q ref n num den mag fac who fnd pc ic a 3 lb a fo dee kc, aI ci (q 1) 600 fl, aI ci (q 2) 1024 wd, aI cz (q 3) 8 df, aI cz (q 4) 8 ag, aI ci (q 5) 8 mk, aI ci (q 6) 8 sc, aI ci (q 7) 12 nu, aI ci (q 8) 12 co, aI ci (q 9) 12 fi, aI ci (q 10) 12 ad, aI ci (q 11) 1800 it, aI ci (q 12) 8 sp, aI ci (q 13) 160 stk] H := hP
          have hD : va_D A [oM q ref n num den mag fac who fnd pc ic a 3 lb a fo dee kc, aI ci (q 1) 600 fl, aI ci (q 2) 1024 wd, aI cz (q 3) 8 df, aI cz (q 4) 8 ag, aI ci (q 5) 8 mk, aI ci (q 6) 8 sc, aI ci (q 7) 12 nu, aI ci (q 8) 12 co, aI ci (q 9) 12 fi, aI ci (q 10) 12 ad, aI ci (q 11) 1800 it, aI ci (q 12) 8 sp, aI ci (q 13) 160 stk] := hD
          refine lv_iload_n hx hb dX9_last_92 rfl (lv_at hl 0 rfl) ?_
          refine lv_if_eq (tgt := 138) hx hb dX9_last_93 (by decide) (fun c => absurd c (by decide)) (fun _ => ?_)
          refine lv_aload_n hx hb dX9_last_96 rfl (lv_at hl 1 rfl) ?_
          refine va_get (D := G) (ci := 8) (v := .ref (q 1)) (C := RX9) (T := TX9) (N := 30) hx hb hts hi_X9 hown hK hP 0 rfl rfl 1 (by decide) f_7 (fun _ h9 => h9) rfl dX9_last_97 ?_
          refine lv_aload_n hx hb dX9_last_100 rfl (lv_at hl 1 rfl) ?_
          refine va_get (D := G) (ci := 8) (v := .int (nI a)) (C := RX9) (T := TX9) (N := 30) hx hb hts hi_X9 hown hK hP 0 rfl rfl 21 (by decide) f_105 (fun _ h9 => h9) rfl dX9_last_101 ?_
          refine lv_bipush (v := nI 9) hx hb dX9_last_104 (by decide) ?_
          refine lv_iadd hx hb dX9_last_106 ?_
          refine tp (nI_add _ _) ?_
          refine va_iald hx hb hK hP 1 0 rfl rfl (vp_in_nI (by omega) (by omega)) dX9_last_107 ?_
          refine tp (y := fl (a + 9)) (congrArg fl (nI_clamp (by omega))) ?_
          refine tp (y := nI (rdN fl n (a + 9) 1)) (rdN_row hB (by omega)) ?_
          refine lv_aload_n hx hb dX9_last_108 rfl (lv_at hl 1 rfl) ?_
          refine va_get (D := G) (ci := 8) (v := .int (nI dee)) (C := RX9) (T := TX9) (N := 30) hx hb hts hi_X9 hown hK hP 0 rfl rfl 26 (by decide) f_114 (fun _ h9 => h9) rfl dX9_last_109 ?_
          refine lv_icmp_ne (tgt := 138) hx hb dX9_last_112 (by decide) (fun c_9 => ?_) (fun c_9 => ?_)
          · skip
            have z_9 := mt (nI_eq (a := (rdN fl n (a + 9) 1)) (b := dee) (by omega) (by omega)).mpr c_9
            refine lv_iconst (v := nI 0) hx hb dX9_last_138 (by decide) ?_
            exact rI (v := nI 0) hx hb hr hlocks nb0 hK hP hD hS [0, 1, 2, 3, 4, 5, 6, 7, 8, 9, 10, 11, 12, 13] 0 rfl (by decide) ⟨rfl, by (try dsimp only); omega, Or.inr ⟨rfl, by (try dsimp only); omega⟩⟩ dX9_last_139
          · skip
            have z_9 := (nI_eq (a := (rdN fl n (a + 9) 1)) (b := dee) (by omega) (by omega)).mp c_9
            refine lv_aload_n hx hb dX9_last_115 rfl (lv_at hl 1 rfl) ?_
            refine lv_aload_n hx hb dX9_last_116 rfl (lv_at hl 1 rfl) ?_
            refine va_get (D := G) (ci := 8) (v := .int (nI a)) (C := RX9) (T := TX9) (N := 30) hx hb hts hi_X9 hown hK hP 0 rfl rfl 21 (by decide) f_105 (fun _ h9 => h9) rfl dX9_last_117 ?_
            refine lv_bipush (v := nI 10) hx hb dX9_last_120 (by decide) ?_
            refine lv_iadd hx hb dX9_last_122 ?_
            refine tp (nI_add _ _) ?_
            refine lv_iconst (v := nI 2) hx hb dX9_last_123 (by decide) ?_
            refine jI (va_runV (As := [.int (nI (a + 10)), .int (nI 2)]) (rest := []) ⟨hx, hb, hml, hown, hts⟩ (c_X9_numberAt l G ci cz cl q H.size (a + 10) 2 ref n num den mag fac who fnd pc ic a 3 lb a fo dee kc fl wd df ag mk sc nu co fi ad it sp stk (by omega) hB (by omega) (by omega)) (cwV 2 hts gX9_last_X9_numberAt rfl rfl rfl (by decide +kernel) ⟨(Nat.le_of_ble_eq_true rfl), (Nat.le_of_ble_eq_true rfl)⟩) (pV (wc := [oM q ref n num den mag fac who fnd pc ic a 3 lb a fo dee kc, aI ci (q 1) 600 fl, aI ci (q 2) 1024 wd, aI cz (q 3) 8 df, aI cz (q 4) 8 ag, aI ci (q 5) 8 mk, aI ci (q 6) 8 sc, aI ci (q 7) 12 nu, aI ci (q 8) 12 co, aI ci (q 9) 12 fi, aI ci (q 10) 12 ad, aI ci (q 11) 1800 it, aI ci (q 12) 8 sp, aI ci (q 13) 160 stk]) ok hK hP hD hS hA hO [0, 1, 2, 3, 4, 5, 6, 7, 8, 9, 10, 11, 12, 13] rfl (by decide) 0 rfl rfl) rfl rfl hl.1 rfl (lv_room (Nat.le_of_ble_eq_true rfl)) dX9_last_124 ⟨(Nat.le_of_ble_eq_true rfl), (Nat.le_of_ble_eq_true rfl)⟩) (wr := []) hP hD hS hA [0, 1, 2, 3, 4, 5, 6, 7, 8, 9, 10, 11, 12, 13] [] rfl rfl (by decide) (by decide) (fun r_10 u H locs hw_10 hP hD hS => ?_)
            try dsimp only at hw_10
            obtain ⟨rfl, h_10⟩ := hw_10
            have hP : va_P G vwCl [oM q ref n num den mag fac who fnd pc ic a 3 lb a fo dee kc, aI ci (q 1) 600 fl, aI ci (q 2) 1024 wd, aI cz (q 3) 8 df, aI cz (q 4) 8 ag, aI ci (q 5) 8 mk, aI ci (q 6) 8 sc, aI ci (q 7) 12 nu, aI ci (q 8) 12 co, aI ci (q 9) 12 fi, aI ci (q 10) 12 ad, aI ci (q 11) 1800 it, aI ci (q 12) 8 sp, aI ci (q 13) 160 stk] H := hP
            have hD : va_D A [oM q ref n num den mag fac who fnd pc ic a 3 lb a fo dee kc, aI ci (q 1) 600 fl, aI ci (q 2) 1024 wd, aI cz (q 3) 8 df, aI cz (q 4) 8 ag, aI ci (q 5) 8 mk, aI ci (q 6) 8 sc, aI ci (q 7) 12 nu, aI ci (q 8) 12 co, aI ci (q 9) 12 fi, aI ci (q 10) 12 ad, aI ci (q 11) 1800 it, aI ci (q 12) 8 sp, aI ci (q 13) 160 stk] := hD
            refine lv_aload_n hx hb dX9_last_127 rfl (lv_at hl 1 rfl) ?_
            refine va_get (D := G) (ci := 8) (v := .int (nI pc)) (C := RX9) (T := TX9) (N := 30) hx hb hts hi_X9 hown hK hP 0 rfl rfl 14 (by decide) f_95 (fun _ h9 => h9) rfl dX9_last_128 ?_
            refine lv_icmp_ne (tgt := 138) hx hb dX9_last_131 (by decide) (fun c_11 => ?_) (fun c_11 => ?_)
            · skip
              have z_11 := mt (nI_eq (a := (rdN fl n (a + 10) 2)) (b := pc) (by omega) (by omega)).mpr c_11
              refine lv_iconst (v := nI 0) hx hb dX9_last_138 (by decide) ?_
              exact rI (v := nI 0) hx hb hr hlocks nb0 hK hP hD hS [0, 1, 2, 3, 4, 5, 6, 7, 8, 9, 10, 11, 12, 13] 0 rfl (by decide) ⟨rfl, by (try dsimp only); omega, Or.inr ⟨rfl, by (try dsimp only); omega⟩⟩ dX9_last_139
            · skip
              have z_11 := (nI_eq (a := (rdN fl n (a + 10) 2)) (b := pc) (by omega) (by omega)).mp c_11
              refine lv_iconst (v := nI 1) hx hb dX9_last_134 (by decide) ?_
              refine lv_goto (tgt := 139) hx hb dX9_last_135 (by decide) ?_
              exact rI (v := nI 1) hx hb hr hlocks nb1 hK hP hD hS [0, 1, 2, 3, 4, 5, 6, 7, 8, 9, 10, 11, 12, 13] 1 rfl (by decide) ⟨rfl, by (try dsimp only); omega, Or.inl ⟨rfl, by (try dsimp only); omega, by (try dsimp only); omega, by (try dsimp only); omega, by (try dsimp only); omega, by (try dsimp only); omega, by (try dsimp only); omega⟩⟩ dX9_last_139
