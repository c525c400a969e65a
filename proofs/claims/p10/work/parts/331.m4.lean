set_option maxHeartbeats 4000000 in
set_option maxRecDepth 100000 in
theorem c_X9_close (l : Launch) (G : va_G) (ci cz cl : ClassId) (q : Nat → Nat) (sz : Nat) (ref : Int32) (n : Nat) (num : Nat) (den : Nat) (mag : Nat) (fac : UInt64) (who : Nat) (fnd : Int32) (pc : Nat) (ic : Nat) (a : Nat) (sta : Nat) (lb : Nat) (la : Nat) (fo : Int32) (dee : Nat) (kc : Nat) (fl : Nat → Int32) (wd : Nat → Int32) (df : Nat → Int32) (ag : Nat → Int32) (mk : Nat → Int32) (sc : Nat → Int32) (nu : Nat → Int32) (co : Nat → Int32) (fi : Nat → Int32) (ad : Nat → Int32) (it : Nat → Int32) (sp : Nat → Int32) (stk : Nat → Int32) (hn : n ≤ 600) (hB : FB fl) (ha : a + 4 ≤ n) (hM : MK kc pc ic fi co fac fo sta lb la dee num den mag) : CtI l yX9_close wsX9_close ({ frames := 1, cells := 0, slots := 0, locals := 24 }) G (TY ci cz cl) O0 [.ref (q 0)] [oM q ref n num den mag fac who fnd pc ic a sta lb la fo dee kc, aI ci (q 1) 600 fl, aI ci (q 2) 1024 wd, aI cz (q 3) 8 df, aI cz (q 4) 8 ag, aI ci (q 5) 8 mk, aI ci (q 6) 8 sc, aI ci (q 7) 12 nu, aI ci (q 8) 12 co, aI ci (q 9) 12 fi, aI ci (q 10) 12 ad, aI ci (q 11) 1800 it, aI ci (q 12) 8 sp, aI ci (q 13) 160 stk] sz (fun (r : Int32) (u : Nat) => r = nI u ∧ u ≤ 1 ∧ RClose fl n a la df ag u) (fun u : Nat => [oM q ref n num den mag fac who fnd pc ic a 4 lb la fo dee kc, aI ci (q 1) 600 fl, aI ci (q 2) 1024 wd, aI cz (q 3) 8 df, aI cz (q 4) 8 ag, aI ci (q 5) 8 mk, aI ci (q 6) 8 sc, aI ci (q 7) 12 nu, aI ci (q 8) 12 co, aI ci (q 9) 12 fi, aI ci (q 10) 12 ad, aI ci (q 11) 1800 it, aI ci (q 12) 8 sp, aI ci (q 13) 160 stk]) 0 0 := by
  refine Met.ofW (cc := cX9_close) (maxL := 3) (ret := (some .boolean)) (by decide) rfl ?_
  intro p e s m args below meth c s₁ B hml hv
  obtain ⟨rfl, ⟨hsz, hP, hK, hD0⟩, hO⟩ := hv
  have hx := B.exec
  have hb := B.bytes
  have hr := B.returns
  have hts := atoms_spec (ws := wsX9_close) B.pre
  have hown : s.vm.findClass RX9 = some m.cls := findClass_of_methodNamed B.named
  have hlocks := B.notSynchronized
  subst hsz
  have hD := hD0.self (sz := s.heap.size)
  generalize hAe : va_A [oM q ref n num den mag fac who fnd pc ic a sta lb la fo dee kc, aI ci (q 1) 600 fl, aI ci (q 2) 1024 wd, aI cz (q 3) 8 df, aI cz (q 4) 8 ag, aI ci (q 5) 8 mk, aI ci (q 6) 8 sc, aI ci (q 7) 12 nu, aI ci (q 8) 12 co, aI ci (q 9) 12 fi, aI ci (q 10) 12 ad, aI ci (q 11) 1800 it, aI ci (q 12) 8 sp, aI ci (q 13) 160 stk] s.heap.size = A at hD hO ⊢
  have hA : ∀ q : Nat, s.heap.size ≤ q → A q := fun q h => by rw [← hAe]; exact Or.inr h
  have ok := ok0
  refine startH (A := A) (fun H locs hP hS => ?_) hP
  have hi_X9 := (by decide +kernel : ∀ w ∈ wsX90, w ∈ wsX9_close)
  have f_105 := hts (.fieldLink RX9 105 "PageReaderModel" "at" "I") (by decide +kernel)
  have f_145 := hts (.fieldLink RX9 145 "PageReaderModel" "lastAt" "I") (by decide +kernel)
  have f_61 := hts (.fieldLink RX9 61 "PageReaderModel" "length" "I") (by decide +kernel)
  have f_128 := hts (.fieldLink RX9 128 "PageReaderModel" "state" "I") (by decide +kernel)
  have f_16 := hts (.fieldLink RX9 16 "PageReaderModel" "defined" "[Z") (by decide +kernel)
  have f_20 := hts (.fieldLink RX9 20 "PageReaderModel" "again" "[Z") (by decide +kernel)
  have f_7 := hts (.fieldLink RX9 7 "PageReaderModel" "file" "[I") (by decide +kernel)
  have hl := lv_entry ([.ref (q 0)]) (n := 3) (Nat.le_of_ble_eq_true rfl)
  rw [lg_entry_eq]
  generalize (lg_sl ([.ref (q 0)]) ++ List.replicate (3 - (lg_sl ([.ref (q 0)])).length) Slot.unset).toArray = ls at hl ⊢
  have hl : lv_has ls 3 [(0, .ref (q 0))] := hl
  obtain ⟨hkc, hpc, hic, hPI, hf, hFO, hst, hbd⟩ := hM
  have hb3 := rdN_b hB n (a + 3)
  refine lv_aload_n hx hb dX9_close_0 rfl (lv_at hl 0 rfl) ?_
  refine lv_aload_n hx hb dX9_close_1 rfl (lv_at hl 0 rfl) ?_
  refine va_get (D := G) (ci := 8) (v := .int (nI a)) (C := RX9) (T := TX9) (N := 30) hx hb hts hi_X9 hown hK hP 0 rfl rfl 21 (by decide) f_105 (fun _ h9 => h9) rfl dX9_close_2 ?_
  refine lv_iconst (v := nI 1) hx hb dX9_close_5 (by decide) ?_
  refine lv_iadd hx hb dX9_close_6 ?_
  refine tp (nI_add _ _) ?_
  refine lv_iconst (v := nI 2) hx hb dX9_close_7 (by decide) ?_
  refine jI (va_runV (As := [.int (nI (a + 1)), .int (nI 2)]) (rest := []) ⟨hx, hb, hml, hown, hts⟩ (c_X9_numberAt l G ci cz cl q H.size (a + 1) 2 ref n num den mag fac who fnd pc ic a sta lb la fo dee kc fl wd df ag mk sc nu co fi ad it sp stk (by omega) hB (by omega) (by omega)) (cwV 2 hts gX9_close_X9_numberAt rfl rfl rfl (by decide +kernel) ⟨(Nat.le_of_ble_eq_true rfl), (Nat.le_of_ble_eq_true rfl)⟩) (pV (wc := [oM q ref n num den mag fac who fnd pc ic a sta lb la fo dee kc, aI ci (q 1) 600 fl, aI ci (q 2) 1024 wd, aI cz (q 3) 8 df, aI cz (q 4) 8 ag, aI ci (q 5) 8 mk, aI ci (q 6) 8 sc, aI ci (q 7) 12 nu, aI ci (q 8) 12 co, aI ci (q 9) 12 fi, aI ci (q 10) 12 ad, aI ci (q 11) 1800 it, aI ci (q 12) 8 sp, aI ci (q 13) 160 stk]) ok hK hP hD hS hA hO [0, 1, 2, 3, 4, 5, 6, 7, 8, 9, 10, 11, 12, 13] rfl (by decide) 0 rfl rfl) rfl rfl hl.1 rfl (lv_room (Nat.le_of_ble_eq_true rfl)) dX9_close_8 ⟨(Nat.le_of_ble_eq_true rfl), (Nat.le_of_ble_eq_true rfl)⟩) (wr := []) hP hD hS hA [0, 1, 2, 3, 4, 5, 6, 7, 8, 9, 10, 11, 12, 13] [] rfl rfl (by decide) (by decide) (fun r_1 u H locs hw_1 hP hD hS => ?_)
  try dsimp only at hw_1
  obtain ⟨rfl, h_1⟩ := hw_1
  have hP : va_P G vwCl [oM q ref n num den mag fac who fnd pc ic a sta lb la fo dee kc, aI ci (q 1) 600 fl, aI ci (q 2) 1024 wd, aI cz (q 3) 8 df, aI cz (q 4) 8 ag, aI ci (q 5) 8 mk, aI ci (q 6) 8 sc, aI ci (q 7) 12 nu, aI ci (q 8) 12 co, aI ci (q 9) 12 fi, aI ci (q 10) 12 ad, aI ci (q 11) 1800 it, aI ci (q 12) 8 sp, aI ci (q 13) 160 stk] H := hP
  have hD : va_D A [oM q ref n num den mag fac who fnd pc ic a sta lb la fo dee kc, aI ci (q 1) 600 fl, aI ci (q 2) 1024 wd, aI cz (q 3) 8 df, aI cz (q 4) 8 ag, aI ci (q 5) 8 mk, aI ci (q 6) 8 sc, aI ci (q 7) 12 nu, aI ci (q 8) 12 co, aI ci (q 9) 12 fi, aI ci (q 10) 12 ad, aI ci (q 11) 1800 it, aI ci (q 12) 8 sp, aI ci (q 13) 160 stk] := hD
  refine lv_aload_n hx hb dX9_close_11 rfl (lv_at hl 0 rfl) ?_
  refine va_get (D := G) (ci := 8) (v := .int (nI la)) (C := RX9) (T := TX9) (N := 30) hx hb hts hi_X9 hown hK hP 0 rfl rfl 24 (by decide) f_145 (fun _ h9 => h9) rfl dX9_close_12 ?_
  refine lv_icmp_ne (tgt := 61) hx hb dX9_close_15 (by decide) (fun c_2 => ?_) (fun c_2 => ?_)
  · skip
    have z_2 := mt (nI_eq (a := (rdN fl n (a + 1) 2)) (b := la) (by omega) (by omega)).mpr c_2
    refine lv_iconst (v := nI 0) hx hb dX9_close_61 (by decide) ?_
    refine lv_istore_n (lv' := [(1, .int (nI 0)), (0, .ref (q 0))]) hx hb dX9_close_62 rfl hl (by decide) rfl (fun ls hl => ?_)
    refine lv_aload_n hx hb dX9_close_63 rfl (lv_at hl 1 rfl) ?_
    refine va_get (D := G) (ci := 8) (v := .int (nI a)) (C := RX9) (T := TX9) (N := 30) hx hb hts hi_X9 hown hK hP 0 rfl rfl 21 (by decide) f_105 (fun _ h9 => h9) rfl dX9_close_64 ?_
    refine lv_iconst (v := nI 4) hx hb dX9_close_67 (by decide) ?_
    refine lv_iadd hx hb dX9_close_68 ?_
    refine tp (nI_add _ _) ?_
    refine lv_istore_n (lv' := [(2, .int (nI (a + 4))), (1, .int (nI 0)), (0, .ref (q 0))]) hx hb dX9_close_69 rfl hl (by decide) rfl (fun ls hl => ?_)
    have loop_70 : ∀ (fuel : Nat) (i : Nat) (k : Nat) (H : Heap) (locs : List Loc), n - i < fuel → (a + 4 ≤ i ∧ i ≤ 700) → (k ≤ 1) → (RC1 fl n a la k i) → va_P G vwCl [oM q ref n num den mag fac who fnd pc ic a sta lb la fo dee kc, aI ci (q 1) 600 fl, aI ci (q 2) 1024 wd, aI cz (q 3) 8 df, aI cz (q 4) 8 ag, aI ci (q 5) 8 mk, aI ci (q 6) 8 sc, aI ci (q 7) 12 nu, aI ci (q 8) 12 co, aI ci (q 9) 12 fi, aI ci (q 10) 12 ad, aI ci (q 11) 1800 it, aI ci (q 12) 8 sp, aI ci (q 13) 160 stk] H → va_D A [oM q ref n num den mag fac who fnd pc ic a sta lb la fo dee kc, aI ci (q 1) 600 fl, aI ci (q 2) 1024 wd, aI cz (q 3) 8 df, aI cz (q 4) 8 ag, aI ci (q 5) 8 mk, aI ci (q 6) 8 sc, aI ci (q 7) 12 nu, aI ci (q 8) 12 co, aI ci (q 9) 12 fi, aI ci (q 10) 12 ad, aI ci (q 11) 1800 it, aI ci (q 12) 8 sp, aI ci (q 13) 160 stk] → va_S A s.heap H locs → ∀ ls : Array Slot, lv_has ls 3 [(0, .ref (q 0)), (1, .int (nI k)), (2, .int (nI i))] → W p l e (headSpec wsX9_close ({ frames := 1, cells := 0, slots := 0, locals := 24 })).room s m ([.ref (q 0)] : List Value).toArray below meth c H locs 0 0 (MQ below (va_Qi (fun (r : Int32) (u : Nat) => r = nI u ∧ u ≤ 1 ∧ RClose fl n a la df ag u) (fun u t => PQ G (TY ci cz cl) A [oM q ref n num den mag fac who fnd pc ic a 4 lb la fo dee kc, aI ci (q 1) 600 fl, aI ci (q 2) 1024 wd, aI cz (q 3) 8 df, aI cz (q 4) 8 ag, aI ci (q 5) 8 mk, aI ci (q 6) 8 sc, aI ci (q 7) 12 nu, aI ci (q 8) 12 co, aI ci (q 9) 12 fi, aI ci (q 10) 12 ad, aI ci (q 11) 1800 it, aI ci (q 12) 8 sp, aI ci (q 13) 160 stk] t) A) ([.ref (q 0)] : List Value).toArray s 0 0 A) (F0 m 70 ls []) := by
      intro fuel
      induction fuel with
      | zero => intro i k H locs hf; exact absurd hf (by omega)
      | succ fuel ih =>
        intro i k H locs hf hi hk hc hP hD hS ls hl
        refine lv_iload_n hx hb dX9_close_70 rfl (lv_at hl 2 rfl) ?_
        refine lv_aload_n hx hb dX9_close_71 rfl (lv_at hl 0 rfl) ?_
        refine va_get (D := G) (ci := 8) (v := .int (nI n)) (C := RX9) (T := TX9) (N := 30) hx hb hts hi_X9 hown hK hP 0 rfl rfl 2 (by decide) f_61 (fun _ h9 => h9) rfl dX9_close_72 ?_
        refine lv_icmp_ge (tgt := 106) hx hb dX9_close_75 (by decide) (fun c_3 => ?_) (fun c_3 => ?_)
        · skip
          have z_3 := (nI_leI (a := n) (b := i) (by omega) (by omega)).mp c_3
          refine lv_iconst (v := nI 0) hx hb dX9_close_106 (by decide) ?_
          refine lv_istore_n (lv' := [(2, .int (nI 0)), (0, .ref (q 0)), (1, .int (nI k))]) hx hb dX9_close_107 rfl hl (by decide) rfl (fun ls hl => ?_)
          have loop_108 : ∀ (fuel : Nat) (i : Nat) (k : Nat) (H : Heap) (locs : List Loc), 8 - i < fuel → (i ≤ 8) → (k ≤ 1) → (RC2 fl n a la df ag k i) → va_P G vwCl [oM q ref n num den mag fac who fnd pc ic a sta lb la fo dee kc, aI ci (q 1) 600 fl, aI ci (q 2) 1024 wd, aI cz (q 3) 8 df, aI cz (q 4) 8 ag, aI ci (q 5) 8 mk, aI ci (q 6) 8 sc, aI ci (q 7) 12 nu, aI ci (q 8) 12 co, aI ci (q 9) 12 fi, aI ci (q 10) 12 ad, aI ci (q 11) 1800 it, aI ci (q 12) 8 sp, aI ci (q 13) 160 stk] H → va_D A [oM q ref n num den mag fac who fnd pc ic a sta lb la fo dee kc, aI ci (q 1) 600 fl, aI ci (q 2) 1024 wd, aI cz (q 3) 8 df, aI cz (q 4) 8 ag, aI ci (q 5) 8 mk, aI ci (q 6) 8 sc, aI ci (q 7) 12 nu, aI ci (q 8) 12 co, aI ci (q 9) 12 fi, aI ci (q 10) 12 ad, aI ci (q 11) 1800 it, aI ci (q 12) 8 sp, aI ci (q 13) 160 stk] → va_S A s.heap H locs → ∀ ls : Array Slot, lv_has ls 3 [(0, .ref (q 0)), (1, .int (nI k)), (2, .int (nI i))] → W p l e (headSpec wsX9_close ({ frames := 1, cells := 0, slots := 0, locals := 24 })).room s m ([.ref (q 0)] : List Value).toArray below meth c H locs 0 0 (MQ below (va_Qi (fun (r : Int32) (u : Nat) => r = nI u ∧ u ≤ 1 ∧ RClose fl n a la df ag u) (fun u t => PQ G (TY ci cz cl) A [oM q ref n num den mag fac who fnd pc ic a 4 lb la fo dee kc, aI ci (q 1) 600 fl, aI ci (q 2) 1024 wd, aI cz (q 3) 8 df, aI cz (q 4) 8 ag, aI ci (q 5) 8 mk, aI ci (q 6) 8 sc, aI ci (q 7) 12 nu, aI ci (q 8) 12 co, aI ci (q 9) 12 fi, aI ci (q 10) 12 ad, aI ci (q 11) 1800 it, aI ci (q 12) 8 sp, aI ci (q 13) 160 stk] t) A) ([.ref (q 0)] : List Value).toArray s 0 0 A) (F0 m 108 ls []) := by
            intro fuel
            induction fuel with
            | zero => intro i k H locs hf; exact absurd hf (by omega)
            | succ fuel ih =>
              intro i k H locs hf hi hk hd hP hD hS ls hl
              refine lv_iload_n hx hb dX9_close_108 rfl (lv_at hl 2 rfl) ?_
              refine lv_bipush (v := nI 8) hx hb dX9_close_109 (by decide) ?_
              refine lv_icmp_ge (tgt := 145) hx hb dX9_close_111 (by decide) (fun c_4 => ?_) (fun c_4 => ?_)
              · skip
                have z_4 := (nI_leI (a := 8) (b := i) (by omega) (by omega)).mp c_4
                refine lv_aload_n hx hb dX9_close_145 rfl (lv_at hl 0 rfl) ?_
                refine lv_iconst (v := nI 4) hx hb dX9_close_146 (by decide) ?_
                refine va_put (D := G) (ci := 8) (v := .int (nI 4)) (ty := .int) (C := RX9) (T := TX9) (N := 30) hx hb hts hi_X9 tyX9 tyX9_ok nmX9 hown hK hP hD hS 0 rfl rfl 22 (by decide) f_128 (fun _ h9 => h9) rfl (by decide +kernel) rfl rfl (Nat.le_of_ble_eq_true rfl) dX9_close_147 (fun H locs hP hD hS => ?_)
                have hP : va_P G vwCl [oM q ref n num den mag fac who fnd pc ic a 4 lb la fo dee kc, aI ci (q 1) 600 fl, aI ci (q 2) 1024 wd, aI cz (q 3) 8 df, aI cz (q 4) 8 ag, aI ci (q 5) 8 mk, aI ci (q 6) 8 sc, aI ci (q 7) 12 nu, aI ci (q 8) 12 co, aI ci (q 9) 12 fi, aI ci (q 10) 12 ad, aI ci (q 11) 1800 it, aI ci (q 12) 8 sp, aI ci (q 13) 160 stk] H := hP
                have hD : va_D A [oM q ref n num den mag fac who fnd pc ic a 4 lb la fo dee kc, aI ci (q 1) 600 fl, aI ci (q 2) 1024 wd, aI cz (q 3) 8 df, aI cz (q 4) 8 ag, aI ci (q 5) 8 mk, aI ci (q 6) 8 sc, aI ci (q 7) 12 nu, aI ci (q 8) 12 co, aI ci (q 9) 12 fi, aI ci (q 10) 12 ad, aI ci (q 11) 1800 it, aI ci (q 12) 8 sp, aI ci (q 13) 160 stk] := hD
                refine lv_iload_n hx hb dX9_close_150 rfl (lv_at hl 1 rfl) ?_
                exact rI (v := nI k) hx hb hr hlocks (nbn (by omega)) hK hP hD hS [0, 1, 2, 3, 4, 5, 6, 7, 8, 9, 10, 11, 12, 13] k rfl (by decide) ⟨rfl, by (try dsimp only); omega, RC2_c hd (by (try dsimp only); omega) (by (try dsimp only); omega)⟩ dX9_close_151
              · skip
                have z_4 := mt (nI_leI (a := 8) (b := i) (by omega) (by omega)).mpr c_4
                refine lv_iload_n hx hb dX9_close_114 rfl (lv_at hl 1 rfl) ?_
                refine lv_if_eq (tgt := 137) hx hb dX9_close_115 (by decide) (fun c_5 => ?_) (fun c_5 => ?_)
                · skip
                  have z_5 := (nI_eq (a := k) (b := 0) (by omega) (by omega)).mp c_5
                  refine lv_iconst (v := nI 0) hx hb dX9_close_137 (by decide) ?_
                  refine lv_istore_n (lv' := [(1, .int (nI 0)), (0, .ref (q 0)), (2, .int (nI i))]) hx hb dX9_close_138 rfl hl (by decide) rfl (fun ls hl => ?_)
                  refine lv_iinc (v := nI (i + 1)) (lv' := [(2, .int (nI (i + 1))), (1, .int (nI 0)), (0, .ref (q 0))]) hx hb dX9_close_139 hl (k := 2) rfl (nI_add _ _) (by decide) rfl (fun ls hl => ?_)
                  refine lv_goto (tgt := 108) hx hb dX9_close_142 (by decide) ?_
                  exact ih (i + 1) 0 H locs (by omega) (by omega) (by omega) (by first | exact RC2_s (RC2_1 (by omega) hd) (by assumption) | exact RC2_f (i := i) (by omega) (by assumption) | exact RC2_e (by omega) hd) (hP.sub [0, 1, 2, 3, 4, 5, 6, 7, 8, 9, 10, 11, 12, 13] rfl) (hD.sub [0, 1, 2, 3, 4, 5, 6, 7, 8, 9, 10, 11, 12, 13] (by decide) rfl) hS ls (lv_sub hl [2, 1, 0] rfl)
                · skip
                  have z_5 := mt (nI_eq (a := k) (b := 0) (by omega) (by omega)).mpr c_5
                  refine lv_aload_n hx hb dX9_close_118 rfl (lv_at hl 0 rfl) ?_
                  refine va_get (D := G) (ci := 8) (v := .ref (q 3)) (C := RX9) (T := TX9) (N := 30) hx hb hts hi_X9 hown hK hP 0 rfl rfl 4 (by decide) f_16 (fun _ h9 => h9) rfl dX9_close_119 ?_
                  refine lv_iload_n hx hb dX9_close_122 rfl (lv_at hl 2 rfl) ?_
                  refine va_zald hx hb hK hP 3 1 rfl rfl (vp_in_nI (by omega) (by omega)) dX9_close_123 ?_
                  refine tp (y := df i) (congrArg df (nI_clamp (by omega))) ?_
                  refine lv_aload_n hx hb dX9_close_124 rfl (lv_at hl 0 rfl) ?_
                  refine va_get (D := G) (ci := 8) (v := .ref (q 4)) (C := RX9) (T := TX9) (N := 30) hx hb hts hi_X9 hown hK hP 0 rfl rfl 5 (by decide) f_20 (fun _ h9 => h9) rfl dX9_close_125 ?_
                  refine lv_iload_n hx hb dX9_close_128 rfl (lv_at hl 2 rfl) ?_
                  refine va_zald hx hb hK hP 4 1 rfl rfl (vp_in_nI (by omega) (by omega)) dX9_close_129 ?_
                  refine tp (y := ag i) (congrArg ag (nI_clamp (by omega))) ?_
                  refine lv_icmp_ne (tgt := 137) hx hb dX9_close_130 (by decide) (fun c_6 => ?_) (fun c_6 => ?_)
                  · skip
                    refine lv_iconst (v := nI 0) hx hb dX9_close_137 (by decide) ?_
                    refine lv_istore_n (lv' := [(1, .int (nI 0)), (0, .ref (q 0)), (2, .int (nI i))]) hx hb dX9_close_138 rfl hl (by decide) rfl (fun ls hl => ?_)
                    refine lv_iinc (v := nI (i + 1)) (lv' := [(2, .int (nI (i + 1))), (1, .int (nI 0)), (0, .ref (q 0))]) hx hb dX9_close_139 hl (k := 2) rfl (nI_add _ _) (by decide) rfl (fun ls hl => ?_)
                    refine lv_goto (tgt := 108) hx hb dX9_close_142 (by decide) ?_
                    exact ih (i + 1) 0 H locs (by omega) (by omega) (by omega) (by first | exact RC2_s (RC2_1 (by omega) hd) (by assumption) | exact RC2_f (i := i) (by omega) (by assumption) | exact RC2_e (by omega) hd) (hP.sub [0, 1, 2, 3, 4, 5, 6, 7, 8, 9, 10, 11, 12, 13] rfl) (hD.sub [0, 1, 2, 3, 4, 5, 6, 7, 8, 9, 10, 11, 12, 13] (by decide) rfl) hS ls (lv_sub hl [2, 1, 0] rfl)
                  · skip
                    refine lv_iconst (v := nI 1) hx hb dX9_close_133 (by decide) ?_
                    refine lv_goto (tgt := 138) hx hb dX9_close_134 (by decide) ?_
                    refine lv_istore_n (lv' := [(1, .int (nI 1)), (0, .ref (q 0)), (2, .int (nI i))]) hx hb dX9_close_138 rfl hl (by decide) rfl (fun ls hl => ?_)
                    refine lv_iinc (v := nI (i + 1)) (lv' := [(2, .int (nI (i + 1))), (1, .int (nI 1)), (0, .ref (q 0))]) hx hb dX9_close_139 hl (k := 2) rfl (nI_add _ _) (by decide) rfl (fun ls hl => ?_)
                    refine lv_goto (tgt := 108) hx hb dX9_close_142 (by decide) ?_
                    exact ih (i + 1) 1 H locs (by omega) (by omega) (by omega) (by first | exact RC2_s (RC2_1 (by omega) hd) (by assumption) | exact RC2_f (i := i) (by omega) (by assumption) | exact RC2_e (by omega) hd) (hP.sub [0, 1, 2, 3, 4, 5, 6, 7, 8, 9, 10, 11, 12, 13] rfl) (hD.sub [0, 1, 2, 3, 4, 5, 6, 7, 8, 9, 10, 11, 12, 13] (by decide) rfl) hS ls (lv_sub hl [2, 1, 0] rfl)
          exact loop_108 (8 - 0 + 1) 0 k H locs (Nat.lt_succ_self _) (by omega) (by omega) (RC2_0 hc (by omega)) (hP.sub [0, 1, 2, 3, 4, 5, 6, 7, 8, 9, 10, 11, 12, 13] rfl) (hD.sub [0, 1, 2, 3, 4, 5, 6, 7, 8, 9, 10, 11, 12, 13] (by decide) rfl) hS ls (lv_sub hl [1, 2, 0] rfl)
        · skip
          have z_3 := mt (nI_leI (a := n) (b := i) (by omega) (by omega)).mpr c_3
          refine lv_iload_n hx hb dX9_close_78 rfl (lv_at hl 1 rfl) ?_
          refine lv_if_eq (tgt := 98) hx hb dX9_close_79 (by decide) (fun c_7 => ?_) (fun c_7 => ?_)
          · skip
            have z_7 := (nI_eq (a := k) (b := 0) (by omega) (by omega)).mp c_7
            refine lv_iconst (v := nI 0) hx hb dX9_close_98 (by decide) ?_
            refine lv_istore_n (lv' := [(1, .int (nI 0)), (0, .ref (q 0)), (2, .int (nI i))]) hx hb dX9_close_99 rfl hl (by decide) rfl (fun ls hl => ?_)
            refine lv_iinc (v := nI (i + 1)) (lv' := [(2, .int (nI (i + 1))), (1, .int (nI 0)), (0, .ref (q 0))]) hx hb dX9_close_100 hl (k := 2) rfl (nI_add _ _) (by decide) rfl (fun ls hl => ?_)
            refine lv_goto (tgt := 70) hx hb dX9_close_103 (by decide) ?_
            exact ih (i + 1) 0 H locs (by omega) (by omega) (by omega) (by first | exact RC1_s (RC1_1 (by omega) hc) (by rw [← rdB_lo (n := n) (by omega)]; omega) | exact RC1_f (i := i) (by omega) (by omega) (by rw [← rdB_lo (n := n) (by omega)]; omega) | exact RC1_e (by omega) hc) (hP.sub [0, 1, 2, 3, 4, 5, 6, 7, 8, 9, 10, 11, 12, 13] rfl) (hD.sub [0, 1, 2, 3, 4, 5, 6, 7, 8, 9, 10, 11, 12, 13] (by decide) rfl) hS ls (lv_sub hl [2, 1, 0] rfl)
          · skip
            have z_7 := mt (nI_eq (a := k) (b := 0) (by omega) (by omega)).mpr c_7
            refine lv_aload_n hx hb dX9_close_82 rfl (lv_at hl 0 rfl) ?_
            refine va_get (D := G) (ci := 8) (v := .ref (q 1)) (C := RX9) (T := TX9) (N := 30) hx hb hts hi_X9 hown hK hP 0 rfl rfl 1 (by decide) f_7 (fun _ h9 => h9) rfl dX9_close_83 ?_
            refine lv_iload_n hx hb dX9_close_86 rfl (lv_at hl 2 rfl) ?_
            refine va_iald hx hb hK hP 1 0 rfl rfl (vp_in_nI (by omega) (by omega)) dX9_close_87 ?_
            refine tp (y := fl i) (congrArg fl (nI_clamp (by omega))) ?_
            have hbi := rdB_le hB n i
            refine tp (y := nI (rdB fl n i)) (rdB_row hB (by omega)) ?_
            refine lv_sipush (v := nI 223) hx hb dX9_close_88 (by decide) ?_
            refine lv_icmp_ne (tgt := 98) hx hb dX9_close_91 (by decide) (fun c_8 => ?_) (fun c_8 => ?_)
            · skip
              have z_8 := mt (nI_eq (a := (rdB fl n i)) (b := 223) (by omega) (by omega)).mpr c_8
              refine lv_iconst (v := nI 0) hx hb dX9_close_98 (by decide) ?_
              refine lv_istore_n (lv' := [(1, .int (nI 0)), (0, .ref (q 0)), (2, .int (nI i))]) hx hb dX9_close_99 rfl hl (by decide) rfl (fun ls hl => ?_)
              refine lv_iinc (v := nI (i + 1)) (lv' := [(2, .int (nI (i + 1))), (1, .int (nI 0)), (0, .ref (q 0))]) hx hb dX9_close_100 hl (k := 2) rfl (nI_add _ _) (by decide) rfl (fun ls hl => ?_)
              refine lv_goto (tgt := 70) hx hb dX9_close_103 (by decide) ?_
              exact ih (i + 1) 0 H locs (by omega) (by omega) (by omega) (by first | exact RC1_s (RC1_1 (by omega) hc) (by rw [← rdB_lo (n := n) (by omega)]; omega) | exact RC1_f (i := i) (by omega) (by omega) (by rw [← rdB_lo (n := n) (by omega)]; omega) | exact RC1_e (by omega) hc) (hP.sub [0, 1, 2, 3, 4, 5, 6, 7, 8, 9, 10, 11, 12, 13] rfl) (hD.sub [0, 1, 2, 3, 4, 5, 6, 7, 8, 9, 10, 11, 12, 13] (by decide) rfl) hS ls (lv_sub hl [2, 1, 0] rfl)
            · skip
              have z_8 := (nI_eq (a := (rdB fl n i)) (b := 223) (by omega) (by omega)).mp c_8
              refine lv_iconst (v := nI 1) hx hb dX9_close_94 (by decide) ?_
              refine lv_goto (tgt := 99) hx hb dX9_close_95 (by decide) ?_
              refine lv_istore_n (lv' := [(1, .int (nI 1)), (0, .ref (q 0)), (2, .int (nI i))]) hx hb dX9_close_99 rfl hl (by decide) rfl (fun ls hl => ?_)
              refine lv_iinc (v := nI (i + 1)) (lv' := [(2, .int (nI (i + 1))), (1, .int (nI 1)), (0, .ref (q 0))]) hx hb dX9_close_100 hl (k := 2) rfl (nI_add _ _) (by decide) rfl (fun ls hl => ?_)
              refine lv_goto (tgt := 70) hx hb dX9_close_103 (by decide) ?_
              exact ih (i + 1) 1 H locs (by omega) (by omega) (by omega) (by first | exact RC1_s (RC1_1 (by omega) hc) (by rw [← rdB_lo (n := n) (by omega)]; omega) | exact RC1_f (i := i) (by omega) (by omega) (by rw [← rdB_lo (n := n) (by omega)]; omega) | exact RC1_e (by omega) hc) (hP.sub [0, 1, 2, 3, 4, 5, 6, 7, 8, 9, 10, 11, 12, 13] rfl) (hD.sub [0, 1, 2, 3, 4, 5, 6, 7, 8, 9, 10, 11, 12, 13] (by decide) rfl) hS ls (lv_sub hl [2, 1, 0] rfl)
    exact loop_70 (n - (a + 4) + 1) (a + 4) 0 H locs (Nat.lt_succ_self _) (by omega) (by omega) (by first | exact RC1_0 (RC0_mk (by omega) (by omega) (by omega) (by omega)) | exact RC1_n (fun h => by obtain ⟨q1, q2, q3, q4⟩ := h; omega)) (hP.sub [0, 1, 2, 3, 4, 5, 6, 7, 8, 9, 10, 11, 12, 13] rfl) (hD.sub [0, 1, 2, 3, 4, 5, 6, 7, 8, 9, 10, 11, 12, 13] (by decide) rfl) hS ls (lv_sub hl [2, 1, 0] rfl)
  · skip
    have z_2 := (nI_eq (a := (rdN fl n (a + 1) 2)) (b := la) (by omega) (by omega)).mp c_2
    refine lv_aload_n hx hb dX9_close_18 rfl (lv_at hl 0 rfl) ?_
    refine va_get (D := G) (ci := 8) (v := .ref (q 1)) (C := RX9) (T := TX9) (N := 30) hx hb hts hi_X9 hown hK hP 0 rfl rfl 1 (by decide) f_7 (fun _ h9 => h9) rfl dX9_close_19 ?_
    refine lv_aload_n hx hb dX9_close_22 rfl (lv_at hl 0 rfl) ?_
    refine va_get (D := G) (ci := 8) (v := .int (nI a)) (C := RX9) (T := TX9) (N := 30) hx hb hts hi_X9 hown hK hP 0 rfl rfl 21 (by decide) f_105 (fun _ h9 => h9) rfl dX9_close_23 ?_
    refine lv_iconst (v := nI 3) hx hb dX9_close_26 (by decide) ?_
    refine lv_iadd hx hb dX9_close_27 ?_
    refine tp (nI_add _ _) ?_
    refine va_iald hx hb hK hP 1 0 rfl rfl (vp_in_nI (by omega) (by omega)) dX9_close_28 ?_
    refine tp (y := fl (a + 3)) (congrArg fl (nI_clamp (by omega))) ?_
    refine tp (y := nI (rdN fl n (a + 3) 1)) (rdN_row hB (by omega)) ?_
    refine lv_iconst (v := nI 2) hx hb dX9_close_29 (by decide) ?_
    refine lv_icmp_ne (tgt := 61) hx hb dX9_close_30 (by decide) (fun c_9 => ?_) (fun c_9 => ?_)
    · skip
      have z_9 := mt (nI_eq (a := (rdN fl n (a + 3) 1)) (b := 2) (by omega) (by omega)).mpr c_9
      refine lv_iconst (v := nI 0) hx hb dX9_close_61 (by decide) ?_
      refine lv_istore_n (lv' := [(1, .int (nI 0)), (0, .ref (q 0))]) hx hb dX9_close_62 rfl hl (by decide) rfl (fun ls hl => ?_)
      refine lv_aload_n hx hb dX9_close_63 rfl (lv_at hl 1 rfl) ?_
      refine va_get (D := G) (ci := 8) (v := .int (nI a)) (C := RX9) (T := TX9) (N := 30) hx hb hts hi_X9 hown hK hP 0 rfl rfl 21 (by decide) f_105 (fun _ h9 => h9) rfl dX9_close_64 ?_
      refine lv_iconst (v := nI 4) hx hb dX9_close_67 (by decide) ?_
      refine lv_iadd hx hb dX9_close_68 ?_
      refine tp (nI_add _ _) ?_
      refine lv_istore_n (lv' := [(2, .int (nI (a + 4))), (1, .int (nI 0)), (0, .ref (q 0))]) hx hb dX9_close_69 rfl hl (by decide) rfl (fun ls hl => ?_)
      have loop_70 : ∀ (fuel : Nat) (i : Nat) (k : Nat) (H : Heap) (locs : List Loc), n - i < fuel → (a + 4 ≤ i ∧ i ≤ 700) → (k ≤ 1) → (RC1 fl n a la k i) → va_P G vwCl [oM q ref n num den mag fac who fnd pc ic a sta lb la fo dee kc, aI ci (q 1) 600 fl, aI ci (q 2) 1024 wd, aI cz (q 3) 8 df, aI cz (q 4) 8 ag, aI ci (q 5) 8 mk, aI ci (q 6) 8 sc, aI ci (q 7) 12 nu, aI ci (q 8) 12 co, aI ci (q 9) 12 fi, aI ci (q 10) 12 ad, aI ci (q 11) 1800 it, aI ci (q 12) 8 sp, aI ci (q 13) 160 stk] H → va_D A [oM q ref n num den mag fac who fnd pc ic a sta lb la fo dee kc, aI ci (q 1) 600 fl, aI ci (q 2) 1024 wd, aI cz (q 3) 8 df, aI cz (q 4) 8 ag, aI ci (q 5) 8 mk, aI ci (q 6) 8 sc, aI ci (q 7) 12 nu, aI ci (q 8) 12 co, aI ci (q 9) 12 fi, aI ci (q 10) 12 ad, aI ci (q 11) 1800 it, aI ci (q 12) 8 sp, aI ci (q 13) 160 stk] → va_S A s.heap H locs → ∀ ls : Array Slot, lv_has ls 3 [(0, .ref (q 0)), (1, .int (nI k)), (2, .int (nI i))] → W p l e (headSpec wsX9_close ({ frames := 1, cells := 0, slots := 0, locals := 24 })).room s m ([.ref (q 0)] : List Value).toArray below meth c H locs 0 0 (MQ below (va_Qi (fun (r : Int32) (u : Nat) => r = nI u ∧ u ≤ 1 ∧ RClose fl n a la df ag u) (fun u t => PQ G (TY ci cz cl) A [oM q ref n num den mag fac who fnd pc ic a 4 lb la fo dee kc, aI ci (q 1) 600 fl, aI ci (q 2) 1024 wd, aI cz (q 3) 8 df, aI cz (q 4) 8 ag, aI ci (q 5) 8 mk, aI ci (q 6) 8 sc, aI ci (q 7) 12 nu, aI ci (q 8) 12 co, aI ci (q 9) 12 fi, aI ci (q 10) 12 ad, aI ci (q 11) 1800 it, aI ci (q 12) 8 sp, aI ci (q 13) 160 stk] t) A) ([.ref (q 0)] : List Value).toArray s 0 0 A) (F0 m 70 ls []) := by
        intro fuel
        induction fuel with
        | zero => intro i k H locs hf; exact absurd hf (by omega)
        | succ fuel ih =>
          intro i k H locs hf hi hk hc hP hD hS ls hl
          refine lv_iload_n hx hb dX9_close_70 rfl (lv_at hl 2 rfl) ?_
          refine lv_aload_n hx hb dX9_close_71 rfl (lv_at hl 0 rfl) ?_
          refine va_get (D := G) (ci := 8) (v := .int (nI n)) (C := RX9) (T := TX9) (N := 30) hx hb hts hi_X9 hown hK hP 0 rfl rfl 2 (by decide) f_61 (fun _ h9 => h9) rfl dX9_close_72 ?_
          refine lv_icmp_ge (tgt := 106) hx hb dX9_close_75 (by decide) (fun c_10 => ?_) (fun c_10 => ?_)
          · skip
            have z_10 := (nI_leI (a := n) (b := i) (by omega) (by omega)).mp c_10
            refine lv_iconst (v := nI 0) hx hb dX9_close_106 (by decide) ?_
            refine lv_istore_n (lv' := [(2, .int (nI 0)), (0, .ref (q 0)), (1, .int (nI k))]) hx hb dX9_close_107 rfl hl (by decide) rfl (fun ls hl => ?_)
            have loop_108 : ∀ (fuel : Nat) (i : Nat) (k : Nat) (H : Heap) (locs : List Loc), 8 - i < fuel → (i ≤ 8) → (k ≤ 1) → (RC2 fl n a la df ag k i) → va_P G vwCl [oM q ref n num den mag fac who fnd pc ic a sta lb la fo dee kc, aI ci (q 1) 600 fl, aI ci (q 2) 1024 wd, aI cz (q 3) 8 df, aI cz (q 4) 8 ag, aI ci (q 5) 8 mk, aI ci (q 6) 8 sc, aI ci (q 7) 12 nu, aI ci (q 8) 12 co, aI ci (q 9) 12 fi, aI ci (q 10) 12 ad, aI ci (q 11) 1800 it, aI ci (q 12) 8 sp, aI ci (q 13) 160 stk] H → va_D A [oM q ref n num den mag fac who fnd pc ic a sta lb la fo dee kc, aI ci (q 1) 600 fl, aI ci (q 2) 1024 wd, aI cz (q 3) 8 df, aI cz (q 4) 8 ag, aI ci (q 5) 8 mk, aI ci (q 6) 8 sc, aI ci (q 7) 12 nu, aI ci (q 8) 12 co, aI ci (q 9) 12 fi, aI ci (q 10) 12 ad, aI ci (q 11) 1800 it, aI ci (q 12) 8 sp, aI ci (q 13) 160 stk] → va_S A s.heap H locs → ∀ ls : Array Slot, lv_has ls 3 [(0, .ref (q 0)), (1, .int (nI k)), (2, .int (nI i))] → W p l e (headSpec wsX9_close ({ frames := 1, cells := 0, slots := 0, locals := 24 })).room s m ([.ref (q 0)] : List Value).toArray below meth c H locs 0 0 (MQ below (va_Qi (fun (r : Int32) (u : Nat) => r = nI u ∧ u ≤ 1 ∧ RClose fl n a la df ag u) (fun u t => PQ G (TY ci cz cl) A [oM q ref n num den mag fac who fnd pc ic a 4 lb la fo dee kc, aI ci (q 1) 600 fl, aI ci (q 2) 1024 wd, aI cz (q 3) 8 df, aI cz (q 4) 8 ag, aI ci (q 5) 8 mk, aI ci (q 6) 8 sc, aI ci (q 7) 12 nu, aI ci (q 8) 12 co, aI ci (q 9) 12 fi, aI ci (q 10) 12 ad, aI ci (q 11) 1800 it, aI ci (q 12) 8 sp, aI ci (q 13) 160 stk] t) A) ([.ref (q 0)] : List Value).toArray s 0 0 A) (F0 m 108 ls []) := by
              intro fuel
              induction fuel with
              | zero => intro i k H locs hf; exact absurd hf (by omega)
              | succ fuel ih =>
                intro i k H locs hf hi hk hd hP hD hS ls hl
                refine lv_iload_n hx hb dX9_close_108 rfl (lv_at hl 2 rfl) ?_
                refine lv_bipush (v := nI 8) hx hb dX9_close_109 (by decide) ?_
                refine lv_icmp_ge (tgt := 145) hx hb dX9_close_111 (by decide) (fun c_11 => ?_) (fun c_11 => ?_)
                · skip
                  have z_11 := (nI_leI (a := 8) (b := i) (by omega) (by omega)).mp c_11
                  refine lv_aload_n hx hb dX9_close_145 rfl (lv_at hl 0 rfl) ?_
                  refine lv_iconst (v := nI 4) hx hb dX9_close_146 (by decide) ?_
                  refine va_put (D := G) (ci := 8) (v := .int (nI 4)) (ty := .int) (C := RX9) (T := TX9) (N := 30) hx hb hts hi_X9 tyX9 tyX9_ok nmX9 hown hK hP hD hS 0 rfl rfl 22 (by decide) f_128 (fun _ h9 => h9) rfl (by decide +kernel) rfl rfl (Nat.le_of_ble_eq_true rfl) dX9_close_147 (fun H locs hP hD hS => ?_)
                  have hP : va_P G vwCl [oM q ref n num den mag fac who fnd pc ic a 4 lb la fo dee kc, aI ci (q 1) 600 fl, aI ci (q 2) 1024 wd, aI cz (q 3) 8 df, aI cz (q 4) 8 ag, aI ci (q 5) 8 mk, aI ci (q 6) 8 sc, aI ci (q 7) 12 nu, aI ci (q 8) 12 co, aI ci (q 9) 12 fi, aI ci (q 10) 12 ad, aI ci (q 11) 1800 it, aI ci (q 12) 8 sp, aI ci (q 13) 160 stk] H := hP
                  have hD : va_D A [oM q ref n num den mag fac who fnd pc ic a 4 lb la fo dee kc, aI ci (q 1) 600 fl, aI ci (q 2) 1024 wd, aI cz (q 3) 8 df, aI cz (q 4) 8 ag, aI ci (q 5) 8 mk, aI ci (q 6) 8 sc, aI ci (q 7) 12 nu, aI ci (q 8) 12 co, aI ci (q 9) 12 fi, aI ci (q 10) 12 ad, aI ci (q 11) 1800 it, aI ci (q 12) 8 sp, aI ci (q 13) 160 stk] := hD
                  refine lv_iload_n hx hb dX9_close_150 rfl (lv_at hl 1 rfl) ?_
                  exact rI (v := nI k) hx hb hr hlocks (nbn (by omega)) hK hP hD hS [0, 1, 2, 3, 4, 5, 6, 7, 8, 9, 10, 11, 12, 13] k rfl (by decide) ⟨rfl, by (try dsimp only); omega, RC2_c hd (by (try dsimp only); omega) (by (try dsimp only); omega)⟩ dX9_close_151
                · skip
                  have z_11 := mt (nI_leI (a := 8) (b := i) (by omega) (by omega)).mpr c_11
                  refine lv_iload_n hx hb dX9_close_114 rfl (lv_at hl 1 rfl) ?_
                  refine lv_if_eq (tgt := 137) hx hb dX9_close_115 (by decide) (fun c_12 => ?_) (fun c_12 => ?_)
                  · skip
                    have z_12 := (nI_eq (a := k) (b := 0) (by omega) (by omega)).mp c_12
                    refine lv_iconst (v := nI 0) hx hb dX9_close_137 (by decide) ?_
                    refine lv_istore_n (lv' := [(1, .int (nI 0)), (0, .ref (q 0)), (2, .int (nI i))]) hx hb dX9_close_138 rfl hl (by decide) rfl (fun ls hl => ?_)
                    refine lv_iinc (v := nI (i + 1)) (lv' := [(2, .int (nI (i + 1))), (1, .int (nI 0)), (0, .ref (q 0))]) hx hb dX9_close_139 hl (k := 2) rfl (nI_add _ _) (by decide) rfl (fun ls hl => ?_)
                    refine lv_goto (tgt := 108) hx hb dX9_close_142 (by decide) ?_
                    exact ih (i + 1) 0 H locs (by omega) (by omega) (by omega) (by first | exact RC2_s (RC2_1 (by omega) hd) (by assumption) | exact RC2_f (i := i) (by omega) (by assumption) | exact RC2_e (by omega) hd) (hP.sub [0, 1, 2, 3, 4, 5, 6, 7, 8, 9, 10, 11, 12, 13] rfl) (hD.sub [0, 1, 2, 3, 4, 5, 6, 7, 8, 9, 10, 11, 12, 13] (by decide) rfl) hS ls (lv_sub hl [2, 1, 0] rfl)
                  · skip
                    have z_12 := mt (nI_eq (a := k) (b := 0) (by omega) (by omega)).mpr c_12
                    refine lv_aload_n hx hb dX9_close_118 rfl (lv_at hl 0 rfl) ?_
                    refine va_get (D := G) (ci := 8) (v := .ref (q 3)) (C := RX9) (T := TX9) (N := 30) hx hb hts hi_X9 hown hK hP 0 rfl rfl 4 (by decide) f_16 (fun _ h9 => h9) rfl dX9_close_119 ?_
                    refine lv_iload_n hx hb dX9_close_122 rfl (lv_at hl 2 rfl) ?_
                    refine va_zald hx hb hK hP 3 1 rfl rfl (vp_in_nI (by omega) (by omega)) dX9_close_123 ?_
                    refine tp (y := df i) (congrArg df (nI_clamp (by omega))) ?_
                    refine lv_aload_n hx hb dX9_close_124 rfl (lv_at hl 0 rfl) ?_
                    refine va_get (D := G) (ci := 8) (v := .ref (q 4)) (C := RX9) (T := TX9) (N := 30) hx hb hts hi_X9 hown hK hP 0 rfl rfl 5 (by decide) f_20 (fun _ h9 => h9) rfl dX9_close_125 ?_
                    refine lv_iload_n hx hb dX9_close_128 rfl (lv_at hl 2 rfl) ?_
                    refine va_zald hx hb hK hP 4 1 rfl rfl (vp_in_nI (by omega) (by omega)) dX9_close_129 ?_
                    refine tp (y := ag i) (congrArg ag (nI_clamp (by omega))) ?_
                    refine lv_icmp_ne (tgt := 137) hx hb dX9_close_130 (by decide) (fun c_13 => ?_) (fun c_13 => ?_)
                    · skip
                      refine lv_iconst (v := nI 0) hx hb dX9_close_137 (by decide) ?_
                      refine lv_istore_n (lv' := [(1, .int (nI 0)), (0, .ref (q 0)), (2, .int (nI i))]) hx hb dX9_close_138 rfl hl (by decide) rfl (fun ls hl => ?_)
                      refine lv_iinc (v := nI (i + 1)) (lv' := [(2, .int (nI (i + 1))), (1, .int (nI 0)), (0, .ref (q 0))]) hx hb dX9_close_139 hl (k := 2) rfl (nI_add _ _) (by decide) rfl (fun ls hl => ?_)
                      refine lv_goto (tgt := 108) hx hb dX9_close_142 (by decide) ?_
                      exact ih (i + 1) 0 H locs (by omega) (by omega) (by omega) (by first | exact RC2_s (RC2_1 (by omega) hd) (by assumption) | exact RC2_f (i := i) (by omega) (by assumption) | exact RC2_e (by omega) hd) (hP.sub [0, 1, 2, 3, 4, 5, 6, 7, 8, 9, 10, 11, 12, 13] rfl) (hD.sub [0, 1, 2, 3, 4, 5, 6, 7, 8, 9, 10, 11, 12, 13] (by decide) rfl) hS ls (lv_sub hl [2, 1, 0] rfl)
                    · skip
                      refine lv_iconst (v := nI 1) hx hb dX9_close_133 (by decide) ?_
                      refine lv_goto (tgt := 138) hx hb dX9_close_134 (by decide) ?_
                      refine lv_istore_n (lv' := [(1, .int (nI 1)), (0, .ref (q 0)), (2, .int (nI i))]) hx hb dX9_close_138 rfl hl (by decide) rfl (fun ls hl => ?_)
                      refine lv_iinc (v := nI (i + 1)) (lv' := [(2, .int (nI (i + 1))), (1, .int (nI 1)), (0, .ref (q 0))]) hx hb dX9_close_139 hl (k := 2) rfl (nI_add _ _) (by decide) rfl (fun ls hl => ?_)
                      refine lv_goto (tgt := 108) hx hb dX9_close_142 (by decide) ?_
                      exact ih (i + 1) 1 H locs (by omega) (by omega) (by omega) (by first | exact RC2_s (RC2_1 (by omega) hd) (by assumption) | exact RC2_f (i := i) (by omega) (by assumption) | exact RC2_e (by omega) hd) (hP.sub [0, 1, 2, 3, 4, 5, 6, 7, 8, 9, 10, 11, 12, 13] rfl) (hD.sub [0, 1, 2, 3, 4, 5, 6, 7, 8, 9, 10, 11, 12, 13] (by decide) rfl) hS ls (lv_sub hl [2, 1, 0] rfl)
            exact loop_108 (8 - 0 + 1) 0 k H locs (Nat.lt_succ_self _) (by omega) (by omega) (RC2_0 hc (by omega)) (hP.sub [0, 1, 2, 3, 4, 5, 6, 7, 8, 9, 10, 11, 12, 13] rfl) (hD.sub [0, 1, 2, 3, 4, 5, 6, 7, 8, 9, 10, 11, 12, 13] (by decide) rfl) hS ls (lv_sub hl [1, 2, 0] rfl)
          · skip
            have z_10 := mt (nI_leI (a := n) (b := i) (by omega) (by omega)).mpr c_10
            refine lv_iload_n hx hb dX9_close_78 rfl (lv_at hl 1 rfl) ?_
            refine lv_if_eq (tgt := 98) hx hb dX9_close_79 (by decide) (fun c_14 => ?_) (fun c_14 => ?_)
            · skip
              have z_14 := (nI_eq (a := k) (b := 0) (by omega) (by omega)).mp c_14
              refine lv_iconst (v := nI 0) hx hb dX9_close_98 (by decide) ?_
              refine lv_istore_n (lv' := [(1, .int (nI 0)), (0, .ref (q 0)), (2, .int (nI i))]) hx hb dX9_close_99 rfl hl (by decide) rfl (fun ls hl => ?_)
              refine lv_iinc (v := nI (i + 1)) (lv' := [(2, .int (nI (i + 1))), (1, .int (nI 0)), (0, .ref (q 0))]) hx hb dX9_close_100 hl (k := 2) rfl (nI_add _ _) (by decide) rfl (fun ls hl => ?_)
              refine lv_goto (tgt := 70) hx hb dX9_close_103 (by decide) ?_
              exact ih (i + 1) 0 H locs (by omega) (by omega) (by omega) (by first | exact RC1_s (RC1_1 (by omega) hc) (by rw [← rdB_lo (n := n) (by omega)]; omega) | exact RC1_f (i := i) (by omega) (by omega) (by rw [← rdB_lo (n := n) (by omega)]; omega) | exact RC1_e (by omega) hc) (hP.sub [0, 1, 2, 3, 4, 5, 6, 7, 8, 9, 10, 11, 12, 13] rfl) (hD.sub [0, 1, 2, 3, 4, 5, 6, 7, 8, 9, 10, 11, 12, 13] (by decide) rfl) hS ls (lv_sub hl [2, 1, 0] rfl)
            · skip
              have z_14 := mt (nI_eq (a := k) (b := 0) (by omega) (by omega)).mpr c_14
              refine lv_aload_n hx hb dX9_close_82 rfl (lv_at hl 0 rfl) ?_
              refine va_get (D := G) (ci := 8) (v := .ref (q 1)) (C := RX9) (T := TX9) (N := 30) hx hb hts hi_X9 hown hK hP 0 rfl rfl 1 (by decide) f_7 (fun _ h9 => h9) rfl dX9_close_83 ?_
              refine lv_iload_n hx hb dX9_close_86 rfl (lv_at hl 2 rfl) ?_
              refine va_iald hx hb hK hP 1 0 rfl rfl (vp_in_nI (by omega) (by omega)) dX9_close_87 ?_
              refine tp (y := fl i) (congrArg fl (nI_clamp (by omega))) ?_
              have hbi := rdB_le hB n i
              refine tp (y := nI (rdB fl n i)) (rdB_row hB (by omega)) ?_
              refine lv_sipush (v := nI 223) hx hb dX9_close_88 (by decide) ?_
              refine lv_icmp_ne (tgt := 98) hx hb dX9_close_91 (by decide) (fun c_15 => ?_) (fun c_15 => ?_)
              · skip
                have z_15 := mt (nI_eq (a := (rdB fl n i)) (b := 223) (by omega) (by omega)).mpr c_15
                refine lv_iconst (v := nI 0) hx hb dX9_close_98 (by decide) ?_
                refine lv_istore_n (lv' := [(1, .int (nI 0)), (0, .ref (q 0)), (2, .int (nI i))]) hx hb dX9_close_99 rfl hl (by decide) rfl (fun ls hl => ?_)
                refine lv_iinc (v := nI (i + 1)) (lv' := [(2, .int (nI (i + 1))), (1, .int (nI 0)), (0, .ref (q 0))]) hx hb dX9_close_100 hl (k := 2) rfl (nI_add _ _) (by decide) rfl (fun ls hl => ?_)
                refine lv_goto (tgt := 70) hx hb dX9_close_103 (by decide) ?_
                exact ih (i + 1) 0 H locs (by omega) (by omega) (by omega) (by first | exact RC1_s (RC1_1 (by omega) hc) (by rw [← rdB_lo (n := n) (by omega)]; omega) | exact RC1_f (i := i) (by omega) (by omega) (by rw [← rdB_lo (n := n) (by omega)]; omega) | exact RC1_e (by omega) hc) (hP.sub [0, 1, 2, 3, 4, 5, 6, 7, 8, 9, 10, 11, 12, 13] rfl) (hD.sub [0, 1, 2, 3, 4, 5, 6, 7, 8, 9, 10, 11, 12, 13] (by decide) rfl) hS ls (lv_sub hl [2, 1, 0] rfl)
              · skip
                have z_15 := (nI_eq (a := (rdB fl n i)) (b := 223) (by omega) (by omega)).mp c_15
                refine lv_iconst (v := nI 1) hx hb dX9_close_94 (by decide) ?_
                refine lv_goto (tgt := 99) hx hb dX9_close_95 (by decide) ?_
                refine lv_istore_n (lv' := [(1, .int (nI 1)), (0, .ref (q 0)), (2, .int (nI i))]) hx hb dX9_close_99 rfl hl (by decide) rfl (fun ls hl => ?_)
                refine lv_iinc (v := nI (i + 1)) (lv' := [(2, .int (nI (i + 1))), (1, .int (nI 1)), (0, .ref (q 0))]) hx hb dX9_close_100 hl (k := 2) rfl (nI_add _ _) (by decide) rfl (fun ls hl => ?_)
                refine lv_goto (tgt := 70) hx hb dX9_close_103 (by decide) ?_
                exact ih (i + 1) 1 H locs (by omega) (by omega) (by omega) (by first | exact RC1_s (RC1_1 (by omega) hc) (by rw [← rdB_lo (n := n) (by omega)]; omega) | exact RC1_f (i := i) (by omega) (by omega) (by rw [← rdB_lo (n := n) (by omega)]; omega) | exact RC1_e (by omega) hc) (hP.sub [0, 1, 2, 3, 4, 5, 6, 7, 8, 9, 10, 11, 12, 13] rfl) (hD.sub [0, 1, 2, 3, 4, 5, 6, 7, 8, 9, 10, 11, 12, 13] (by decide) rfl) hS ls (lv_sub hl [2, 1, 0] rfl)
      exact loop_70 (n - (a + 4) + 1) (a + 4) 0 H locs (Nat.lt_succ_self _) (by omega) (by omega) (by first | exact RC1_0 (RC0_mk (by omega) (by omega) (by omega) (by omega)) | exact RC1_n (fun h => by obtain ⟨q1, q2, q3, q4⟩ := h; omega)) (hP.sub [0, 1, 2, 3, 4, 5, 6, 7, 8, 9, 10, 11, 12, 13] rfl) (hD.sub [0, 1, 2, 3, 4, 5, 6, 7, 8, 9, 10, 11, 12, 13] (by decide) rfl) hS ls (lv_sub hl [2, 1, 0] rfl)
    · skip
      have z_9 := (nI_eq (a := (rdN fl n (a + 3) 1)) (b := 2) (by omega) (by omega)).mp c_9
      refine lv_aload_n hx hb dX9_close_33 rfl (lv_at hl 0 rfl) ?_
      refine va_get (D := G) (ci := 8) (v := .int (nI n)) (C := RX9) (T := TX9) (N := 30) hx hb hts hi_X9 hown hK hP 0 rfl rfl 2 (by decide) f_61 (fun _ h9 => h9) rfl dX9_close_34 ?_
      refine lv_aload_n hx hb dX9_close_37 rfl (lv_at hl 0 rfl) ?_
      refine va_get (D := G) (ci := 8) (v := .int (nI a)) (C := RX9) (T := TX9) (N := 30) hx hb hts hi_X9 hown hK hP 0 rfl rfl 21 (by decide) f_105 (fun _ h9 => h9) rfl dX9_close_38 ?_
      refine lv_isub hx hb dX9_close_41 ?_
      refine tp (pk_sub (by omega)) ?_
      refine lv_iconst (v := nI 4) hx hb dX9_close_42 (by decide) ?_
      refine lv_isub hx hb dX9_close_43 ?_
      refine tp (pk_sub (by omega)) ?_
      refine lv_iconst (v := nI 4) hx hb dX9_close_44 (by decide) ?_
      refine lv_icmp_lt (tgt := 61) hx hb dX9_close_45 (by decide) (fun c_16 => ?_) (fun c_16 => ?_)
      · skip
        have z_16 := (nI_ltI (a := ((n - a) - 4)) (b := 4) (by omega) (by omega)).mp c_16
        refine lv_iconst (v := nI 0) hx hb dX9_close_61 (by decide) ?_
        refine lv_istore_n (lv' := [(1, .int (nI 0)), (0, .ref (q 0))]) hx hb dX9_close_62 rfl hl (by decide) rfl (fun ls hl => ?_)
        refine lv_aload_n hx hb dX9_close_63 rfl (lv_at hl 1 rfl) ?_
        refine va_get (D := G) (ci := 8) (v := .int (nI a)) (C := RX9) (T := TX9) (N := 30) hx hb hts hi_X9 hown hK hP 0 rfl rfl 21 (by decide) f_105 (fun _ h9 => h9) rfl dX9_close_64 ?_
        refine lv_iconst (v := nI 4) hx hb dX9_close_67 (by decide) ?_
        refine lv_iadd hx hb dX9_close_68 ?_
        refine tp (nI_add _ _) ?_
        refine lv_istore_n (lv' := [(2, .int (nI (a + 4))), (1, .int (nI 0)), (0, .ref (q 0))]) hx hb dX9_close_69 rfl hl (by decide) rfl (fun ls hl => ?_)
        have loop_70 : ∀ (fuel : Nat) (i : Nat) (k : Nat) (H : Heap) (locs : List Loc), n - i < fuel → (a + 4 ≤ i ∧ i ≤ 700) → (k ≤ 1) → (RC1 fl n a la k i) → va_P G vwCl [oM q ref n num den mag fac who fnd pc ic a sta lb la fo dee kc, aI ci (q 1) 600 fl, aI ci (q 2) 1024 wd, aI cz (q 3) 8 df, aI cz (q 4) 8 ag, aI ci (q 5) 8 mk, aI ci (q 6) 8 sc, aI ci (q 7) 12 nu, aI ci (q 8) 12 co, aI ci (q 9) 12 fi, aI ci (q 10) 12 ad, aI ci (q 11) 1800 it, aI ci (q 12) 8 sp, aI ci (q 13) 160 stk] H → va_D A [oM q ref n num den mag fac who fnd pc ic a sta lb la fo dee kc, aI ci (q 1) 600 fl, aI ci (q 2) 1024 wd, aI cz (q 3) 8 df, aI cz (q 4) 8 ag, aI ci (q 5) 8 mk, aI ci (q 6) 8 sc, aI ci (q 7) 12 nu, aI ci (q 8) 12 co, aI ci (q 9) 12 fi, aI ci (q 10) 12 ad, aI ci (q 11) 1800 it, aI ci (q 12) 8 sp, aI ci (q 13) 160 stk] → va_S A s.heap H locs → ∀ ls : Array Slot, lv_has ls 3 [(0, .ref (q 0)), (1, .int (nI k)), (2, .int (nI i))] → W p l e (headSpec wsX9_close ({ frames := 1, cells := 0, slots := 0, locals := 24 })).room s m ([.ref (q 0)] : List Value).toArray below meth c H locs 0 0 (MQ below (va_Qi (fun (r : Int32) (u : Nat) => r = nI u ∧ u ≤ 1 ∧ RClose fl n a la df ag u) (fun u t => PQ G (TY ci cz cl) A [oM q ref n num den mag fac who fnd pc ic a 4 lb la fo dee kc, aI ci (q 1) 600 fl, aI ci (q 2) 1024 wd, aI cz (q 3) 8 df, aI cz (q 4) 8 ag, aI ci (q 5) 8 mk, aI ci (q 6) 8 sc, aI ci (q 7) 12 nu, aI ci (q 8) 12 co, aI ci (q 9) 12 fi, aI ci (q 10) 12 ad, aI ci (q 11) 1800 it, aI ci (q 12) 8 sp, aI ci (q 13) 160 stk] t) A) ([.ref (q 0)] : List Value).toArray s 0 0 A) (F0 m 70 ls []) := by
          intro fuel
          induction fuel with
          | zero => intro i k H locs hf; exact absurd hf (by omega)
          | succ fuel ih =>
            intro i k H locs hf hi hk hc hP hD hS ls hl
            refine lv_iload_n hx hb dX9_close_70 rfl (lv_at hl 2 rfl) ?_
            refine lv_aload_n hx hb dX9_close_71 rfl (lv_at hl 0 rfl) ?_
            refine va_get (D := G) (ci := 8) (v := .int (nI n)) (C := RX9) (T := TX9) (N := 30) hx hb hts hi_X9 hown hK hP 0 rfl rfl 2 (by decide) f_61 (fun _ h9 => h9) rfl dX9_close_72 ?_
            refine lv_icmp_ge (tgt := 106) hx hb dX9_close_75 (by decide) (fun c_17 => ?_) (fun c_17 => ?_)
            · skip
              have z_17 := (nI_leI (a := n) (b := i) (by omega) (by omega)).mp c_17
              refine lv_iconst (v := nI 0) hx hb dX9_close_106 (by decide) ?_
              refine lv_istore_n (lv' := [(2, .int (nI 0)), (0, .ref (q 0)), (1, .int (nI k))]) hx hb dX9_close_107 rfl hl (by decide) rfl (fun ls hl => ?_)
              have loop_108 : ∀ (fuel : Nat) (i : Nat) (k : Nat) (H : Heap) (locs : List Loc), 8 - i < fuel → (i ≤ 8) → (k ≤ 1) → (RC2 fl n a la df ag k i) → va_P G vwCl [oM q ref n num den mag fac who fnd pc ic a sta lb la fo dee kc, aI ci (q 1) 600 fl, aI ci (q 2) 1024 wd, aI cz (q 3) 8 df, aI cz (q 4) 8 ag, aI ci (q 5) 8 mk, aI ci (q 6) 8 sc, aI ci (q 7) 12 nu, aI ci (q 8) 12 co, aI ci (q 9) 12 fi, aI ci (q 10) 12 ad, aI ci (q 11) 1800 it, aI ci (q 12) 8 sp, aI ci (q 13) 160 stk] H → va_D A [oM q ref n num den mag fac who fnd pc ic a sta lb la fo dee kc, aI ci (q 1) 600 fl, aI ci (q 2) 1024 wd, aI cz (q 3) 8 df, aI cz (q 4) 8 ag, aI ci (q 5) 8 mk, aI ci (q 6) 8 sc, aI ci (q 7) 12 nu, aI ci (q 8) 12 co, aI ci (q 9) 12 fi, aI ci (q 10) 12 ad, aI ci (q 11) 1800 it, aI ci (q 12) 8 sp, aI ci (q 13) 160 stk] → va_S A s.heap H locs → ∀ ls : Array Slot, lv_has ls 3 [(0, .ref (q 0)), (1, .int (nI k)), (2, .int (nI i))] → W p l e (headSpec wsX9_close ({ frames := 1, cells := 0, slots := 0, locals := 24 })).room s m ([.ref (q 0)] : List Value).toArray below meth c H locs 0 0 (MQ below (va_Qi (fun (r : Int32) (u : Nat) => r = nI u ∧ u ≤ 1 ∧ RClose fl n a la df ag u) (fun u t => PQ G (TY ci cz cl) A [oM q ref n num den mag fac who fnd pc ic a 4 lb la fo dee kc, aI ci (q 1) 600 fl, aI ci (q 2) 1024 wd, aI cz (q 3) 8 df, aI cz (q 4) 8 ag, aI ci (q 5) 8 mk, aI ci (q 6) 8 sc, aI ci (q 7) 12 nu, aI ci (q 8) 12 co, aI ci (q 9) 12 fi, aI ci (q 10) 12 ad, aI ci (q 11) 1800 it, aI ci (q 12) 8 sp, aI ci (q 13) 160 stk] t) A) ([.ref (q 0)] : List Value).toArray s 0 0 A) (F0 m 108 ls []) := by
                intro fuel
                induction fuel with
                | zero => intro i k H locs hf; exact absurd hf (by omega)
                | succ fuel ih =>
                  intro i k H locs hf hi hk hd hP hD hS ls hl
                  refine lv_iload_n hx hb dX9_close_108 rfl (lv_at hl 2 rfl) ?_
                  refine lv_bipush (v := nI 8) hx hb dX9_close_109 (by decide) ?_
                  refine lv_icmp_ge (tgt := 145) hx hb dX9_close_111 (by decide) (fun c_18 => ?_) (fun c_18 => ?_)
                  · skip
                    have z_18 := (nI_leI (a := 8) (b := i) (by omega) (by omega)).mp c_18
                    refine lv_aload_n hx hb dX9_close_145 rfl (lv_at hl 0 rfl) ?_
                    refine lv_iconst (v := nI 4) hx hb dX9_close_146 (by decide) ?_
                    refine va_put (D := G) (ci := 8) (v := .int (nI 4)) (ty := .int) (C := RX9) (T := TX9) (N := 30) hx hb hts hi_X9 tyX9 tyX9_ok nmX9 hown hK hP hD hS 0 rfl rfl 22 (by decide) f_128 (fun _ h9 => h9) rfl (by decide +kernel) rfl rfl (Nat.le_of_ble_eq_true rfl) dX9_close_147 (fun H locs hP hD hS => ?_)
                    have hP : va_P G vwCl [oM q ref n num den mag fac who fnd pc ic a 4 lb la fo dee kc, aI ci (q 1) 600 fl, aI ci (q 2) 1024 wd, aI cz (q 3) 8 df, aI cz (q 4) 8 ag, aI ci (q 5) 8 mk, aI ci (q 6) 8 sc, aI ci (q 7) 12 nu, aI ci (q 8) 12 co, aI ci (q 9) 12 fi, aI ci (q 10) 12 ad, aI ci (q 11) 1800 it, aI ci (q 12) 8 sp, aI ci (q 13) 160 stk] H := hP
                    have hD : va_D A [oM q ref n num den mag fac who fnd pc ic a 4 lb la fo dee kc, aI ci (q 1) 600 fl, aI ci (q 2) 1024 wd, aI cz (q 3) 8 df, aI cz (q 4) 8 ag, aI ci (q 5) 8 mk, aI ci (q 6) 8 sc, aI ci (q 7) 12 nu, aI ci (q 8) 12 co, aI ci (q 9) 12 fi, aI ci (q 10) 12 ad, aI ci (q 11) 1800 it, aI ci (q 12) 8 sp, aI ci (q 13) 160 stk] := hD
                    refine lv_iload_n hx hb dX9_close_150 rfl (lv_at hl 1 rfl) ?_
                    exact rI (v := nI k) hx hb hr hlocks (nbn (by omega)) hK hP hD hS [0, 1, 2, 3, 4, 5, 6, 7, 8, 9, 10, 11, 12, 13] k rfl (by decide) ⟨rfl, by (try dsimp only); omega, RC2_c hd (by (try dsimp only); omega) (by (try dsimp only); omega)⟩ dX9_close_151
                  · skip
                    have z_18 := mt (nI_leI (a := 8) (b := i) (by omega) (by omega)).mpr c_18
                    refine lv_iload_n hx hb dX9_close_114 rfl (lv_at hl 1 rfl) ?_
                    refine lv_if_eq (tgt := 137) hx hb dX9_close_115 (by decide) (fun c_19 => ?_) (fun c_19 => ?_)
                    · skip
                      have z_19 := (nI_eq (a := k) (b := 0) (by omega) (by omega)).mp c_19
                      refine lv_iconst (v := nI 0) hx hb dX9_close_137 (by decide) ?_
                      refine lv_istore_n (lv' := [(1, .int (nI 0)), (0, .ref (q 0)), (2, .int (nI i))]) hx hb dX9_close_138 rfl hl (by decide) rfl (fun ls hl => ?_)
                      refine lv_iinc (v := nI (i + 1)) (lv' := [(2, .int (nI (i + 1))), (1, .int (nI 0)), (0, .ref (q 0))]) hx hb dX9_close_139 hl (k := 2) rfl (nI_add _ _) (by decide) rfl (fun ls hl => ?_)
                      refine lv_goto (tgt := 108) hx hb dX9_close_142 (by decide) ?_
                      exact ih (i + 1) 0 H locs (by omega) (by omega) (by omega) (by first | exact RC2_s (RC2_1 (by omega) hd) (by assumption) | exact RC2_f (i := i) (by omega) (by assumption) | exact RC2_e (by omega) hd) (hP.sub [0, 1, 2, 3, 4, 5, 6, 7, 8, 9, 10, 11, 12, 13] rfl) (hD.sub [0, 1, 2, 3, 4, 5, 6, 7, 8, 9, 10, 11, 12, 13] (by decide) rfl) hS ls (lv_sub hl [2, 1, 0] rfl)
                    · skip
                      have z_19 := mt (nI_eq (a := k) (b := 0) (by omega) (by omega)).mpr c_19
                      refine lv_aload_n hx hb dX9_close_118 rfl (lv_at hl 0 rfl) ?_
                      refine va_get (D := G) (ci := 8) (v := .ref (q 3)) (C := RX9) (T := TX9) (N := 30) hx hb hts hi_X9 hown hK hP 0 rfl rfl 4 (by decide) f_16 (fun _ h9 => h9) rfl dX9_close_119 ?_
                      refine lv_iload_n hx hb dX9_close_122 rfl (lv_at hl 2 rfl) ?_
                      refine va_zald hx hb hK hP 3 1 rfl rfl (vp_in_nI (by omega) (by omega)) dX9_close_123 ?_
                      refine tp (y := df i) (congrArg df (nI_clamp (by omega))) ?_
                      refine lv_aload_n hx hb dX9_close_124 rfl (lv_at hl 0 rfl) ?_
                      refine va_get (D := G) (ci := 8) (v := .ref (q 4)) (C := RX9) (T := TX9) (N := 30) hx hb hts hi_X9 hown hK hP 0 rfl rfl 5 (by decide) f_20 (fun _ h9 => h9) rfl dX9_close_125 ?_
                      refine lv_iload_n hx hb dX9_close_128 rfl (lv_at hl 2 rfl) ?_
                      refine va_zald hx hb hK hP 4 1 rfl rfl (vp_in_nI (by omega) (by omega)) dX9_close_129 ?_
                      refine tp (y := ag i) (congrArg ag (nI_clamp (by omega))) ?_
                      refine lv_icmp_ne (tgt := 137) hx hb dX9_close_130 (by decide) (fun c_20 => ?_) (fun c_20 => ?_)
                      · skip
                        refine lv_iconst (v := nI 0) hx hb dX9_close_137 (by decide) ?_
                        refine lv_istore_n (lv' := [(1, .int (nI 0)), (0, .ref (q 0)), (2, .int (nI i))]) hx hb dX9_close_138 rfl hl (by decide) rfl (fun ls hl => ?_)
                        refine lv_iinc (v := nI (i + 1)) (lv' := [(2, .int (nI (i + 1))), (1, .int (nI 0)), (0, .ref (q 0))]) hx hb dX9_close_139 hl (k := 2) rfl (nI_add _ _) (by decide) rfl (fun ls hl => ?_)
                        refine lv_goto (tgt := 108) hx hb dX9_close_142 (by decide) ?_
                        exact ih (i + 1) 0 H locs (by omega) (by omega) (by omega) (by first | exact RC2_s (RC2_1 (by omega) hd) (by assumption) | exact RC2_f (i := i) (by omega) (by assumption) | exact RC2_e (by omega) hd) (hP.sub [0, 1, 2, 3, 4, 5, 6, 7, 8, 9, 10, 11, 12, 13] rfl) (hD.sub [0, 1, 2, 3, 4, 5, 6, 7, 8, 9, 10, 11, 12, 13] (by decide) rfl) hS ls (lv_sub hl [2, 1, 0] rfl)
                      · skip
                        refine lv_iconst (v := nI 1) hx hb dX9_close_133 (by decide) ?_
                        refine lv_goto (tgt := 138) hx hb dX9_close_134 (by decide) ?_
                        refine lv_istore_n (lv' := [(1, .int (nI 1)), (0, .ref (q 0)), (2, .int (nI i))]) hx hb dX9_close_138 rfl hl (by decide) rfl (fun ls hl => ?_)
                        refine lv_iinc (v := nI (i + 1)) (lv' := [(2, .int (nI (i + 1))), (1, .int (nI 1)), (0, .ref (q 0))]) hx hb dX9_close_139 hl (k := 2) rfl (nI_add _ _) (by decide) rfl (fun ls hl => ?_)
                        refine lv_goto (tgt := 108) hx hb dX9_close_142 (by decide) ?_
                        exact ih (i + 1) 1 H locs (by omega) (by omega) (by omega) (by first | exact RC2_s (RC2_1 (by omega) hd) (by assumption) | exact RC2_f (i := i) (by omega) (by assumption) | exact RC2_e (by omega) hd) (hP.sub [0, 1, 2, 3, 4, 5, 6, 7, 8, 9, 10, 11, 12, 13] rfl) (hD.sub [0, 1, 2, 3, 4, 5, 6, 7, 8, 9, 10, 11, 12, 13] (by decide) rfl) hS ls (lv_sub hl [2, 1, 0] rfl)
              exact loop_108 (8 - 0 + 1) 0 k H locs (Nat.lt_succ_self _) (by omega) (by omega) (RC2_0 hc (by omega)) (hP.sub [0, 1, 2, 3, 4, 5, 6, 7, 8, 9, 10, 11, 12, 13] rfl) (hD.sub [0, 1, 2, 3, 4, 5, 6, 7, 8, 9, 10, 11, 12, 13] (by decide) rfl) hS ls (lv_sub hl [1, 2, 0] rfl)
            · skip
              have z_17 := mt (nI_leI (a := n) (b := i) (by omega) (by omega)).mpr c_17
              refine lv_iload_n hx hb dX9_close_78 rfl (lv_at hl 1 rfl) ?_
              refine lv_if_eq (tgt := 98) hx hb dX9_close_79 (by decide) (fun c_21 => ?_) (fun c_21 => ?_)
              · skip
                have z_21 := (nI_eq (a := k) (b := 0) (by omega) (by omega)).mp c_21
                refine lv_iconst (v := nI 0) hx hb dX9_close_98 (by decide) ?_
                refine lv_istore_n (lv' := [(1, .int (nI 0)), (0, .ref (q 0)), (2, .int (nI i))]) hx hb dX9_close_99 rfl hl (by decide) rfl (fun ls hl => ?_)
                refine lv_iinc (v := nI (i + 1)) (lv' := [(2, .int (nI (i + 1))), (1, .int (nI 0)), (0, .ref (q 0))]) hx hb dX9_close_100 hl (k := 2) rfl (nI_add _ _) (by decide) rfl (fun ls hl => ?_)
                refine lv_goto (tgt := 70) hx hb dX9_close_103 (by decide) ?_
                exact ih (i + 1) 0 H locs (by omega) (by omega) (by omega) (by first | exact RC1_s (RC1_1 (by omega) hc) (by rw [← rdB_lo (n := n) (by omega)]; omega) | exact RC1_f (i := i) (by omega) (by omega) (by rw [← rdB_lo (n := n) (by omega)]; omega) | exact RC1_e (by omega) hc) (hP.sub [0, 1, 2, 3, 4, 5, 6, 7, 8, 9, 10, 11, 12, 13] rfl) (hD.sub [0, 1, 2, 3, 4, 5, 6, 7, 8, 9, 10, 11, 12, 13] (by decide) rfl) hS ls (lv_sub hl [2, 1, 0] rfl)
              · skip
                have z_21 := mt (nI_eq (a := k) (b := 0) (by omega) (by omega)).mpr c_21
                refine lv_aload_n hx hb dX9_close_82 rfl (lv_at hl 0 rfl) ?_
                refine va_get (D := G) (ci := 8) (v := .ref (q 1)) (C := RX9) (T := TX9) (N := 30) hx hb hts hi_X9 hown hK hP 0 rfl rfl 1 (by decide) f_7 (fun _ h9 => h9) rfl dX9_close_83 ?_
                refine lv_iload_n hx hb dX9_close_86 rfl (lv_at hl 2 rfl) ?_
                refine va_iald hx hb hK hP 1 0 rfl rfl (vp_in_nI (by omega) (by omega)) dX9_close_87 ?_
                refine tp (y := fl i) (congrArg fl (nI_clamp (by omega))) ?_
                have hbi := rdB_le hB n i
                refine tp (y := nI (rdB fl n i)) (rdB_row hB (by omega)) ?_
                refine lv_sipush (v := nI 223) hx hb dX9_close_88 (by decide) ?_
                refine lv_icmp_ne (tgt := 98) hx hb dX9_close_91 (by decide) (fun c_22 => ?_) (fun c_22 => ?_)
                · skip
                  have z_22 := mt (nI_eq (a := (rdB fl n i)) (b := 223) (by omega) (by omega)).mpr c_22
                  refine lv_iconst (v := nI 0) hx hb dX9_close_98 (by decide) ?_
                  refine lv_istore_n (lv' := [(1, .int (nI 0)), (0, .ref (q 0)), (2, .int (nI i))]) hx hb dX9_close_99 rfl hl (by decide) rfl (fun ls hl => ?_)
                  refine lv_iinc (v := nI (i + 1)) (lv' := [(2, .int (nI (i + 1))), (1, .int (nI 0)), (0, .ref (q 0))]) hx hb dX9_close_100 hl (k := 2) rfl (nI_add _ _) (by decide) rfl (fun ls hl => ?_)
                  refine lv_goto (tgt := 70) hx hb dX9_close_103 (by decide) ?_
                  exact ih (i + 1) 0 H locs (by omega) (by omega) (by omega) (by first | exact RC1_s (RC1_1 (by omega) hc) (by rw [← rdB_lo (n := n) (by omega)]; omega) | exact RC1_f (i := i) (by omega) (by omega) (by rw [← rdB_lo (n := n) (by omega)]; omega) | exact RC1_e (by omega) hc) (hP.sub [0, 1, 2, 3, 4, 5, 6, 7, 8, 9, 10, 11, 12, 13] rfl) (hD.sub [0, 1, 2, 3, 4, 5, 6, 7, 8, 9, 10, 11, 12, 13] (by decide) rfl) hS ls (lv_sub hl [2, 1, 0] rfl)
                · skip
                  have z_22 := (nI_eq (a := (rdB fl n i)) (b := 223) (by omega) (by omega)).mp c_22
                  refine lv_iconst (v := nI 1) hx hb dX9_close_94 (by decide) ?_
                  refine lv_goto (tgt := 99) hx hb dX9_close_95 (by decide) ?_
                  refine lv_istore_n (lv' := [(1, .int (nI 1)), (0, .ref (q 0)), (2, .int (nI i))]) hx hb dX9_close_99 rfl hl (by decide) rfl (fun ls hl => ?_)
                  refine lv_iinc (v := nI (i + 1)) (lv' := [(2, .int (nI (i + 1))), (1, .int (nI 1)), (0, .ref (q 0))]) hx hb dX9_close_100 hl (k := 2) rfl (nI_add _ _) (by decide) rfl (fun ls hl => ?_)
                  refine lv_goto (tgt := 70) hx hb dX9_close_103 (by decide) ?_
                  exact ih (i + 1) 1 H locs (by omega) (by omega) (by omega) (by first | exact RC1_s (RC1_1 (by omega) hc) (by rw [← rdB_lo (n := n) (by omega)]; omega) | exact RC1_f (i := i) (by omega) (by omega) (by rw [← rdB_lo (n := n) (by omega)]; omega) | exact RC1_e (by omega) hc) (hP.sub [0, 1, 2, 3, 4, 5, 6, 7, 8, 9, 10, 11, 12, 13] rfl) (hD.sub [0, 1, 2, 3, 4, 5, 6, 7, 8, 9, 10, 11, 12, 13] (by decide) rfl) hS ls (lv_sub hl [2, 1, 0] rfl)
        exact loop_70 (n - (a + 4) + 1) (a + 4) 0 H locs (Nat.lt_succ_self _) (by omega) (by omega) (by first | exact RC1_0 (RC0_mk (by omega) (by omega) (by omega) (by omega)) | exact RC1_n (fun h => by obtain ⟨q1, q2, q3, q4⟩ := h; omega)) (hP.sub [0, 1, 2, 3, 4, 5, 6, 7, 8, 9, 10, 11, 12, 13] rfl) (hD.sub [0, 1, 2, 3, 4, 5, 6, 7, 8, 9, 10, 11, 12, 13] (by decide) rfl) hS ls (lv_sub hl [2, 1, 0] rfl)
      · skip
        have z_16 := mt (nI_ltI (a := ((n - a) - 4)) (b := 4) (by omega) (by omega)).mpr c_16
        refine lv_aload_n hx hb dX9_close_48 rfl (lv_at hl 0 rfl) ?_
        refine va_get (D := G) (ci := 8) (v := .int (nI n)) (C := RX9) (T := TX9) (N := 30) hx hb hts hi_X9 hown hK hP 0 rfl rfl 2 (by decide) f_61 (fun _ h9 => h9) rfl dX9_close_49 ?_
        refine lv_iconst (v := nI 4) hx hb dX9_close_52 (by decide) ?_
        refine lv_irem hx hb dX9_close_53 (by decide) ?_
        refine tp (pk_rem (by omega) (by omega) (by omega)) ?_
        refine lv_if_ne (tgt := 61) hx hb dX9_close_54 (by decide) (fun c_23 => ?_) (fun c_23 => ?_)
        · skip
          have z_23 := mt (nI_eq (a := (n % 4)) (b := 0) (by omega) (by omega)).mpr c_23
          refine lv_iconst (v := nI 0) hx hb dX9_close_61 (by decide) ?_
          refine lv_istore_n (lv' := [(1, .int (nI 0)), (0, .ref (q 0))]) hx hb dX9_close_62 rfl hl (by decide) rfl (fun ls hl => ?_)
          refine lv_aload_n hx hb dX9_close_63 rfl (lv_at hl 1 rfl) ?_
          refine va_get (D := G) (ci := 8) (v := .int (nI a)) (C := RX9) (T := TX9) (N := 30) hx hb hts hi_X9 hown hK hP 0 rfl rfl 21 (by decide) f_105 (fun _ h9 => h9) rfl dX9_close_64 ?_
          refine lv_iconst (v := nI 4) hx hb dX9_close_67 (by decide) ?_
          refine lv_iadd hx hb dX9_close_68 ?_
          refine tp (nI_add _ _) ?_
          refine lv_istore_n (lv' := [(2, .int (nI (a + 4))), (1, .int (nI 0)), (0, .ref (q 0))]) hx hb dX9_close_69 rfl hl (by decide) rfl (fun ls hl => ?_)
          have loop_70 : ∀ (fuel : Nat) (i : Nat) (k : Nat) (H : Heap) (locs : List Loc), n - i < fuel → (a + 4 ≤ i ∧ i ≤ 700) → (k ≤ 1) → (RC1 fl n a la k i) → va_P G vwCl [oM q ref n num den mag fac who fnd pc ic a sta lb la fo dee kc, aI ci (q 1) 600 fl, aI ci (q 2) 1024 wd, aI cz (q 3) 8 df, aI cz (q 4) 8 ag, aI ci (q 5) 8 mk, aI ci (q 6) 8 sc, aI ci (q 7) 12 nu, aI ci (q 8) 12 co, aI ci (q 9) 12 fi, aI ci (q 10) 12 ad, aI ci (q 11) 1800 it, aI ci (q 12) 8 sp, aI ci (q 13) 160 stk] H → va_D A [oM q ref n num den mag fac who fnd pc ic a sta lb la fo dee kc, aI ci (q 1) 600 fl, aI ci (q 2) 1024 wd, aI cz (q 3) 8 df, aI cz (q 4) 8 ag, aI ci (q 5) 8 mk, aI ci (q 6) 8 sc, aI ci (q 7) 12 nu, aI ci (q 8) 12 co, aI ci (q 9) 12 fi, aI ci (q 10) 12 ad, aI ci (q 11) 1800 it, aI ci (q 12) 8 sp, aI ci (q 13) 160 stk] → va_S A s.heap H locs → ∀ ls : Array Slot, lv_has ls 3 [(0, .ref (q 0)), (1, .int (nI k)), (2, .int (nI i))] → W p l e (headSpec wsX9_close ({ frames := 1, cells := 0, slots := 0, locals := 24 })).room s m ([.ref (q 0)] : List Value).toArray below meth c H locs 0 0 (MQ below (va_Qi (fun (r : Int32) (u : Nat) => r = nI u ∧ u ≤ 1 ∧ RClose fl n a la df ag u) (fun u t => PQ G (TY ci cz cl) A [oM q ref n num den mag fac who fnd pc ic a 4 lb la fo dee kc, aI ci (q 1) 600 fl, aI ci (q 2) 1024 wd, aI cz (q 3) 8 df, aI cz (q 4) 8 ag, aI ci (q 5) 8 mk, aI ci (q 6) 8 sc, aI ci (q 7) 12 nu, aI ci (q 8) 12 co, aI ci (q 9) 12 fi, aI ci (q 10) 12 ad, aI ci (q 11) 1800 it, aI ci (q 12) 8 sp, aI ci (q 13) 160 stk] t) A) ([.ref (q 0)] : List Value).toArray s 0 0 A) (F0 m 70 ls []) := by
            intro fuel
            induction fuel with
            | zero => intro i k H locs hf; exact absurd hf (by omega)
            | succ fuel ih =>
              intro i k H locs hf hi hk hc hP hD hS ls hl
              refine lv_iload_n hx hb dX9_close_70 rfl (lv_at hl 2 rfl) ?_
              refine lv_aload_n hx hb dX9_close_71 rfl (lv_at hl 0 rfl) ?_
              refine va_get (D := G) (ci := 8) (v := .int (nI n)) (C := RX9) (T := TX9) (N := 30) hx hb hts hi_X9 hown hK hP 0 rfl rfl 2 (by decide) f_61 (fun _ h9 => h9) rfl dX9_close_72 ?_
              refine lv_icmp_ge (tgt := 106) hx hb dX9_close_75 (by decide) (fun c_24 => ?_) (fun c_24 => ?_)
              · skip
                have z_24 := (nI_leI (a := n) (b := i) (by omega) (by omega)).mp c_24
                refine lv_iconst (v := nI 0) hx hb dX9_close_106 (by decide) ?_
                refine lv_istore_n (lv' := [(2, .int (nI 0)), (0, .ref (q 0)), (1, .int (nI k))]) hx hb dX9_close_107 rfl hl (by decide) rfl (fun ls hl => ?_)
                have loop_108 : ∀ (fuel : Nat) (i : Nat) (k : Nat) (H : Heap) (locs : List Loc), 8 - i < fuel → (i ≤ 8) → (k ≤ 1) → (RC2 fl n a la df ag k i) → va_P G vwCl [oM q ref n num den mag fac who fnd pc ic a sta lb la fo dee kc, aI ci (q 1) 600 fl, aI ci (q 2) 1024 wd, aI cz (q 3) 8 df, aI cz (q 4) 8 ag, aI ci (q 5) 8 mk, aI ci (q 6) 8 sc, aI ci (q 7) 12 nu, aI ci (q 8) 12 co, aI ci (q 9) 12 fi, aI ci (q 10) 12 ad, aI ci (q 11) 1800 it, aI ci (q 12) 8 sp, aI ci (q 13) 160 stk] H → va_D A [oM q ref n num den mag fac who fnd pc ic a sta lb la fo dee kc, aI ci (q 1) 600 fl, aI ci (q 2) 1024 wd, aI cz (q 3) 8 df, aI cz (q 4) 8 ag, aI ci (q 5) 8 mk, aI ci (q 6) 8 sc, aI ci (q 7) 12 nu, aI ci (q 8) 12 co, aI ci (q 9) 12 fi, aI ci (q 10) 12 ad, aI ci (q 11) 1800 it, aI ci (q 12) 8 sp, aI ci (q 13) 160 stk] → va_S A s.heap H locs → ∀ ls : Array Slot, lv_has ls 3 [(0, .ref (q 0)), (1, .int (nI k)), (2, .int (nI i))] → W p l e (headSpec wsX9_close ({ frames := 1, cells := 0, slots := 0, locals := 24 })).room s m ([.ref (q 0)] : List Value).toArray below meth c H locs 0 0 (MQ below (va_Qi (fun (r : Int32) (u : Nat) => r = nI u ∧ u ≤ 1 ∧ RClose fl n a la df ag u) (fun u t => PQ G (TY ci cz cl) A [oM q ref n num den mag fac who fnd pc ic a 4 lb la fo dee kc, aI ci (q 1) 600 fl, aI ci (q 2) 1024 wd, aI cz (q 3) 8 df, aI cz (q 4) 8 ag, aI ci (q 5) 8 mk, aI ci (q 6) 8 sc, aI ci (q 7) 12 nu, aI ci (q 8) 12 co, aI ci (q 9) 12 fi, aI ci (q 10) 12 ad, aI ci (q 11) 1800 it, aI ci (q 12) 8 sp, aI ci (q 13) 160 stk] t) A) ([.ref (q 0)] : List Value).toArray s 0 0 A) (F0 m 108 ls []) := by
                  intro fuel
                  induction fuel with
                  | zero => intro i k H locs hf; exact absurd hf (by omega)
                  | succ fuel ih =>
                    intro i k H locs hf hi hk hd hP hD hS ls hl
                    refine lv_iload_n hx hb dX9_close_108 rfl (lv_at hl 2 rfl) ?_
                    refine lv_bipush (v := nI 8) hx hb dX9_close_109 (by decide) ?_
                    refine lv_icmp_ge (tgt := 145) hx hb dX9_close_111 (by decide) (fun c_25 => ?_) (fun c_25 => ?_)
                    · skip
                      have z_25 := (nI_leI (a := 8) (b := i) (by omega) (by omega)).mp c_25
                      refine lv_aload_n hx hb dX9_close_145 rfl (lv_at hl 0 rfl) ?_
                      refine lv_iconst (v := nI 4) hx hb dX9_close_146 (by decide) ?_
                      refine va_put (D := G) (ci := 8) (v := .int (nI 4)) (ty := .int) (C := RX9) (T := TX9) (N := 30) hx hb hts hi_X9 tyX9 tyX9_ok nmX9 hown hK hP hD hS 0 rfl rfl 22 (by decide) f_128 (fun _ h9 => h9) rfl (by decide +kernel) rfl rfl (Nat.le_of_ble_eq_true rfl) dX9_close_147 (fun H locs hP hD hS => ?_)
                      have hP : va_P G vwCl [oM q ref n num den mag fac who fnd pc ic a 4 lb la fo dee kc, aI ci (q 1) 600 fl, aI ci (q 2) 1024 wd, aI cz (q 3) 8 df, aI cz (q 4) 8 ag, aI ci (q 5) 8 mk, aI ci (q 6) 8 sc, aI ci (q 7) 12 nu, aI ci (q 8) 12 co, aI ci (q 9) 12 fi, aI ci (q 10) 12 ad, aI ci (q 11) 1800 it, aI ci (q 12) 8 sp, aI ci (q 13) 160 stk] H := hP
                      have hD : va_D A [oM q ref n num den mag fac who fnd pc ic a 4 lb la fo dee kc, aI ci (q 1) 600 fl, aI ci (q 2) 1024 wd, aI cz (q 3) 8 df, aI cz (q 4) 8 ag, aI ci (q 5) 8 mk, aI ci (q 6) 8 sc, aI ci (q 7) 12 nu, aI ci (q 8) 12 co, aI ci (q 9) 12 fi, aI ci (q 10) 12 ad, aI ci (q 11) 1800 it, aI ci (q 12) 8 sp, aI ci (q 13) 160 stk] := hD
                      refine lv_iload_n hx hb dX9_close_150 rfl (lv_at hl 1 rfl) ?_
                      exact rI (v := nI k) hx hb hr hlocks (nbn (by omega)) hK hP hD hS [0, 1, 2, 3, 4, 5, 6, 7, 8, 9, 10, 11, 12, 13] k rfl (by decide) ⟨rfl, by (try dsimp only); omega, RC2_c hd (by (try dsimp only); omega) (by (try dsimp only); omega)⟩ dX9_close_151
                    · skip
                      have z_25 := mt (nI_leI (a := 8) (b := i) (by omega) (by omega)).mpr c_25
                      refine lv_iload_n hx hb dX9_close_114 rfl (lv_at hl 1 rfl) ?_
                      refine lv_if_eq (tgt := 137) hx hb dX9_close_115 (by decide) (fun c_26 => ?_) (fun c_26 => ?_)
                      · skip
                        have z_26 := (nI_eq (a := k) (b := 0) (by omega) (by omega)).mp c_26
                        refine lv_iconst (v := nI 0) hx hb dX9_close_137 (by decide) ?_
                        refine lv_istore_n (lv' := [(1, .int (nI 0)), (0, .ref (q 0)), (2, .int (nI i))]) hx hb dX9_close_138 rfl hl (by decide) rfl (fun ls hl => ?_)
                        refine lv_iinc (v := nI (i + 1)) (lv' := [(2, .int (nI (i + 1))), (1, .int (nI 0)), (0, .ref (q 0))]) hx hb dX9_close_139 hl (k := 2) rfl (nI_add _ _) (by decide) rfl (fun ls hl => ?_)
                        refine lv_goto (tgt := 108) hx hb dX9_close_142 (by decide) ?_
                        exact ih (i + 1) 0 H locs (by omega) (by omega) (by omega) (by first | exact RC2_s (RC2_1 (by omega) hd) (by assumption) | exact RC2_f (i := i) (by omega) (by assumption) | exact RC2_e (by omega) hd) (hP.sub [0, 1, 2, 3, 4, 5, 6, 7, 8, 9, 10, 11, 12, 13] rfl) (hD.sub [0, 1, 2, 3, 4, 5, 6, 7, 8, 9, 10, 11, 12, 13] (by decide) rfl) hS ls (lv_sub hl [2, 1, 0] rfl)
                      · skip
                        have z_26 := mt (nI_eq (a := k) (b := 0) (by omega) (by omega)).mpr c_26
                        refine lv_aload_n hx hb dX9_close_118 rfl (lv_at hl 0 rfl) ?_
                        refine va_get (D := G) (ci := 8) (v := .ref (q 3)) (C := RX9) (T := TX9) (N := 30) hx hb hts hi_X9 hown hK hP 0 rfl rfl 4 (by decide) f_16 (fun _ h9 => h9) rfl dX9_close_119 ?_
                        refine lv_iload_n hx hb dX9_close_122 rfl (lv_at hl 2 rfl) ?_
                        refine va_zald hx hb hK hP 3 1 rfl rfl (vp_in_nI (by omega) (by omega)) dX9_close_123 ?_
                        refine tp (y := df i) (congrArg df (nI_clamp (by omega))) ?_
                        refine lv_aload_n hx hb dX9_close_124 rfl (lv_at hl 0 rfl) ?_
                        refine va_get (D := G) (ci := 8) (v := .ref (q 4)) (C := RX9) (T := TX9) (N := 30) hx hb hts hi_X9 hown hK hP 0 rfl rfl 5 (by decide) f_20 (fun _ h9 => h9) rfl dX9_close_125 ?_
                        refine lv_iload_n hx hb dX9_close_128 rfl (lv_at hl 2 rfl) ?_
                        refine va_zald hx hb hK hP 4 1 rfl rfl (vp_in_nI (by omega) (by omega)) dX9_close_129 ?_
                        refine tp (y := ag i) (congrArg ag (nI_clamp (by omega))) ?_
                        refine lv_icmp_ne (tgt := 137) hx hb dX9_close_130 (by decide) (fun c_27 => ?_) (fun c_27 => ?_)
                        · skip
                          refine lv_iconst (v := nI 0) hx hb dX9_close_137 (by decide) ?_
                          refine lv_istore_n (lv' := [(1, .int (nI 0)), (0, .ref (q 0)), (2, .int (nI i))]) hx hb dX9_close_138 rfl hl (by decide) rfl (fun ls hl => ?_)
                          refine lv_iinc (v := nI (i + 1)) (lv' := [(2, .int (nI (i + 1))), (1, .int (nI 0)), (0, .ref (q 0))]) hx hb dX9_close_139 hl (k := 2) rfl (nI_add _ _) (by decide) rfl (fun ls hl => ?_)
                          refine lv_goto (tgt := 108) hx hb dX9_close_142 (by decide) ?_
                          exact ih (i + 1) 0 H locs (by omega) (by omega) (by omega) (by first | exact RC2_s (RC2_1 (by omega) hd) (by assumption) | exact RC2_f (i := i) (by omega) (by assumption) | exact RC2_e (by omega) hd) (hP.sub [0, 1, 2, 3, 4, 5, 6, 7, 8, 9, 10, 11, 12, 13] rfl) (hD.sub [0, 1, 2, 3, 4, 5, 6, 7, 8, 9, 10, 11, 12, 13] (by decide) rfl) hS ls (lv_sub hl [2, 1, 0] rfl)
                        · skip
                          refine lv_iconst (v := nI 1) hx hb dX9_close_133 (by decide) ?_
                          refine lv_goto (tgt := 138) hx hb dX9_close_134 (by decide) ?_
                          refine lv_istore_n (lv' := [(1, .int (nI 1)), (0, .ref (q 0)), (2, .int (nI i))]) hx hb dX9_close_138 rfl hl (by decide) rfl (fun ls hl => ?_)
                          refine lv_iinc (v := nI (i + 1)) (lv' := [(2, .int (nI (i + 1))), (1, .int (nI 1)), (0, .ref (q 0))]) hx hb dX9_close_139 hl (k := 2) rfl (nI_add _ _) (by decide) rfl (fun ls hl => ?_)
                          refine lv_goto (tgt := 108) hx hb dX9_close_142 (by decide) ?_
                          exact ih (i + 1) 1 H locs (by omega) (by omega) (by omega) (by first | exact RC2_s (RC2_1 (by omega) hd) (by assumption) | exact RC2_f (i := i) (by omega) (by assumption) | exact RC2_e (by omega) hd) (hP.sub [0, 1, 2, 3, 4, 5, 6, 7, 8, 9, 10, 11, 12, 13] rfl) (hD.sub [0, 1, 2, 3, 4, 5, 6, 7, 8, 9, 10, 11, 12, 13] (by decide) rfl) hS ls (lv_sub hl [2, 1, 0] rfl)
                exact loop_108 (8 - 0 + 1) 0 k H locs (Nat.lt_succ_self _) (by omega) (by omega) (RC2_0 hc (by omega)) (hP.sub [0, 1, 2, 3, 4, 5, 6, 7, 8, 9, 10, 11, 12, 13] rfl) (hD.sub [0, 1, 2, 3, 4, 5, 6, 7, 8, 9, 10, 11, 12, 13] (by decide) rfl) hS ls (lv_sub hl [1, 2, 0] rfl)
              · skip
                have z_24 := mt (nI_leI (a := n) (b := i) (by omega) (by omega)).mpr c_24
                refine lv_iload_n hx hb dX9_close_78 rfl (lv_at hl 1 rfl) ?_
                refine lv_if_eq (tgt := 98) hx hb dX9_close_79 (by decide) (fun c_28 => ?_) (fun c_28 => ?_)
                · skip
                  have z_28 := (nI_eq (a := k) (b := 0) (by omega) (by omega)).mp c_28
                  refine lv_iconst (v := nI 0) hx hb dX9_close_98 (by decide) ?_
                  refine lv_istore_n (lv' := [(1, .int (nI 0)), (0, .ref (q 0)), (2, .int (nI i))]) hx hb dX9_close_99 rfl hl (by decide) rfl (fun ls hl => ?_)
                  refine lv_iinc (v := nI (i + 1)) (lv' := [(2, .int (nI (i + 1))), (1, .int (nI 0)), (0, .ref (q 0))]) hx hb dX9_close_100 hl (k := 2) rfl (nI_add _ _) (by decide) rfl (fun ls hl => ?_)
                  refine lv_goto (tgt := 70) hx hb dX9_close_103 (by decide) ?_
                  exact ih (i + 1) 0 H locs (by omega) (by omega) (by omega) (by first | exact RC1_s (RC1_1 (by omega) hc) (by rw [← rdB_lo (n := n) (by omega)]; omega) | exact RC1_f (i := i) (by omega) (by omega) (by rw [← rdB_lo (n := n) (by omega)]; omega) | exact RC1_e (by omega) hc) (hP.sub [0, 1, 2, 3, 4, 5, 6, 7, 8, 9, 10, 11, 12, 13] rfl) (hD.sub [0, 1, 2, 3, 4, 5, 6, 7, 8, 9, 10, 11, 12, 13] (by decide) rfl) hS ls (lv_sub hl [2, 1, 0] rfl)
                · skip
                  have z_28 := mt (nI_eq (a := k) (b := 0) (by omega) (by omega)).mpr c_28
                  refine lv_aload_n hx hb dX9_close_82 rfl (lv_at hl 0 rfl) ?_
                  refine va_get (D := G) (ci := 8) (v := .ref (q 1)) (C := RX9) (T := TX9) (N := 30) hx hb hts hi_X9 hown hK hP 0 rfl rfl 1 (by decide) f_7 (fun _ h9 => h9) rfl dX9_close_83 ?_
                  refine lv_iload_n hx hb dX9_close_86 rfl (lv_at hl 2 rfl) ?_
                  refine va_iald hx hb hK hP 1 0 rfl rfl (vp_in_nI (by omega) (by omega)) dX9_close_87 ?_
                  refine tp (y := fl i) (congrArg fl (nI_clamp (by omega))) ?_
                  have hbi := rdB_le hB n i
                  refine tp (y := nI (rdB fl n i)) (rdB_row hB (by omega)) ?_
                  refine lv_sipush (v := nI 223) hx hb dX9_close_88 (by decide) ?_
                  refine lv_icmp_ne (tgt := 98) hx hb dX9_close_91 (by decide) (fun c_29 => ?_) (fun c_29 => ?_)
                  · skip
                    have z_29 := mt (nI_eq (a := (rdB fl n i)) (b := 223) (by omega) (by omega)).mpr c_29
                    refine lv_iconst (v := nI 0) hx hb dX9_close_98 (by decide) ?_
                    refine lv_istore_n (lv' := [(1, .int (nI 0)), (0, .ref (q 0)), (2, .int (nI i))]) hx hb dX9_close_99 rfl hl (by decide) rfl (fun ls hl => ?_)
                    refine lv_iinc (v := nI (i + 1)) (lv' := [(2, .int (nI (i + 1))), (1, .int (nI 0)), (0, .ref (q 0))]) hx hb dX9_close_100 hl (k := 2) rfl (nI_add _ _) (by decide) rfl (fun ls hl => ?_)
                    refine lv_goto (tgt := 70) hx hb dX9_close_103 (by decide) ?_
                    exact ih (i + 1) 0 H locs (by omega) (by omega) (by omega) (by first | exact RC1_s (RC1_1 (by omega) hc) (by rw [← rdB_lo (n := n) (by omega)]; omega) | exact RC1_f (i := i) (by omega) (by omega) (by rw [← rdB_lo (n := n) (by omega)]; omega) | exact RC1_e (by omega) hc) (hP.sub [0, 1, 2, 3, 4, 5, 6, 7, 8, 9, 10, 11, 12, 13] rfl) (hD.sub [0, 1, 2, 3, 4, 5, 6, 7, 8, 9, 10, 11, 12, 13] (by decide) rfl) hS ls (lv_sub hl [2, 1, 0] rfl)
                  · skip
                    have z_29 := (nI_eq (a := (rdB fl n i)) (b := 223) (by omega) (by omega)).mp c_29
                    refine lv_iconst (v := nI 1) hx hb dX9_close_94 (by decide) ?_
                    refine lv_goto (tgt := 99) hx hb dX9_close_95 (by decide) ?_
                    refine lv_istore_n (lv' := [(1, .int (nI 1)), (0, .ref (q 0)), (2, .int (nI i))]) hx hb dX9_close_99 rfl hl (by decide) rfl (fun ls hl => ?_)
                    refine lv_iinc (v := nI (i + 1)) (lv' := [(2, .int (nI (i + 1))), (1, .int (nI 1)), (0, .ref (q 0))]) hx hb dX9_close_100 hl (k := 2) rfl (nI_add _ _) (by decide) rfl (fun ls hl => ?_)
                    refine lv_goto (tgt := 70) hx hb dX9_close_103 (by decide) ?_
                    exact ih (i + 1) 1 H locs (by omega) (by omega) (by omega) (by first | exact RC1_s (RC1_1 (by omega) hc) (by rw [← rdB_lo (n := n) (by omega)]; omega) | exact RC1_f (i := i) (by omega) (by omega) (by rw [← rdB_lo (n := n) (by omega)]; omega) | exact RC1_e (by omega) hc) (hP.sub [0, 1, 2, 3, 4, 5, 6, 7, 8, 9, 10, 11, 12, 13] rfl) (hD.sub [0, 1, 2, 3, 4, 5, 6, 7, 8, 9, 10, 11, 12, 13] (by decide) rfl) hS ls (lv_sub hl [2, 1, 0] rfl)
          exact loop_70 (n - (a + 4) + 1) (a + 4) 0 H locs (Nat.lt_succ_self _) (by omega) (by omega) (by first | exact RC1_0 (RC0_mk (by omega) (by omega) (by omega) (by omega)) | exact RC1_n (fun h => by obtain ⟨q1, q2, q3, q4⟩ := h; omega)) (hP.sub [0, 1, 2, 3, 4, 5, 6, 7, 8, 9, 10, 11, 12, 13] rfl) (hD.sub [0, 1, 2, 3, 4, 5, 6, 7, 8, 9, 10, 11, 12, 13] (by decide) rfl) hS ls (lv_sub hl [2, 1, 0] rfl)
        · skip
          have z_23 := (nI_eq (a := (n % 4)) (b := 0) (by omega) (by omega)).mp c_23
          refine lv_iconst (v := nI 1) hx hb dX9_close_57 (by decide) ?_
          refine lv_goto (tgt := 62) hx hb dX9_close_58 (by decide) ?_
          refine lv_istore_n (lv' := [(1, .int (nI 1)), (0, .ref (q 0))]) hx hb dX9_close_62 rfl hl (by decide) rfl (fun ls hl => ?_)
          refine lv_aload_n hx hb dX9_close_63 rfl (lv_at hl 1 rfl) ?_
          refine va_get (D := G) (ci := 8) (v := .int (nI a)) (C := RX9) (T := TX9) (N := 30) hx hb hts hi_X9 hown hK hP 0 rfl rfl 21 (by decide) f_105 (fun _ h9 => h9) rfl dX9_close_64 ?_
          refine lv_iconst (v := nI 4) hx hb dX9_close_67 (by decide) ?_
          refine lv_iadd hx hb dX9_close_68 ?_
          refine tp (nI_add _ _) ?_
          refine lv_istore_n (lv' := [(2, .int (nI (a + 4))), (1, .int (nI 1)), (0, .ref (q 0))]) hx hb dX9_close_69 rfl hl (by decide) rfl (fun ls hl => ?_)
          have loop_70 : ∀ (fuel : Nat) (i : Nat) (k : Nat) (H : Heap) (locs : List Loc), n - i < fuel → (a + 4 ≤ i ∧ i ≤ 700) → (k ≤ 1) → (RC1 fl n a la k i) → va_P G vwCl [oM q ref n num den mag fac who fnd pc ic a sta lb la fo dee kc, aI ci (q 1) 600 fl, aI ci (q 2) 1024 wd, aI cz (q 3) 8 df, aI cz (q 4) 8 ag, aI ci (q 5) 8 mk, aI ci (q 6) 8 sc, aI ci (q 7) 12 nu, aI ci (q 8) 12 co, aI ci (q 9) 12 fi, aI ci (q 10) 12 ad, aI ci (q 11) 1800 it, aI ci (q 12) 8 sp, aI ci (q 13) 160 stk] H → va_D A [oM q ref n num den mag fac who fnd pc ic a sta lb la fo dee kc, aI ci (q 1) 600 fl, aI ci (q 2) 1024 wd, aI cz (q 3) 8 df, aI cz (q 4) 8 ag, aI ci (q 5) 8 mk, aI ci (q 6) 8 sc, aI ci (q 7) 12 nu, aI ci (q 8) 12 co, aI ci (q 9) 12 fi, aI ci (q 10) 12 ad, aI ci (q 11) 1800 it, aI ci (q 12) 8 sp, aI ci (q 13) 160 stk] → va_S A s.heap H locs → ∀ ls : Array Slot, lv_has ls 3 [(0, .ref (q 0)), (1, .int (nI k)), (2, .int (nI i))] → W p l e (headSpec wsX9_close ({ frames := 1, cells := 0, slots := 0, locals := 24 })).room s m ([.ref (q 0)] : List Value).toArray below meth c H locs 0 0 (MQ below (va_Qi (fun (r : Int32) (u : Nat) => r = nI u ∧ u ≤ 1 ∧ RClose fl n a la df ag u) (fun u t => PQ G (TY ci cz cl) A [oM q ref n num den mag fac who fnd pc ic a 4 lb la fo dee kc, aI ci (q 1) 600 fl, aI ci (q 2) 1024 wd, aI cz (q 3) 8 df, aI cz (q 4) 8 ag, aI ci (q 5) 8 mk, aI ci (q 6) 8 sc, aI ci (q 7) 12 nu, aI ci (q 8) 12 co, aI ci (q 9) 12 fi, aI ci (q 10) 12 ad, aI ci (q 11) 1800 it, aI ci (q 12) 8 sp, aI ci (q 13) 160 stk] t) A) ([.ref (q 0)] : List Value).toArray s 0 0 A) (F0 m 70 ls []) := by
            intro fuel
            induction fuel with
            | zero => intro i k H locs hf; exact absurd hf (by omega)
            | succ fuel ih =>
              intro i k H locs hf hi hk hc hP hD hS ls hl
              refine lv_iload_n hx hb dX9_close_70 rfl (lv_at hl 2 rfl) ?_
              refine lv_aload_n hx hb dX9_close_71 rfl (lv_at hl 0 rfl) ?_
              refine va_get (D := G) (ci := 8) (v := .int (nI n)) (C := RX9) (T := TX9) (N := 30) hx hb hts hi_X9 hown hK hP 0 rfl rfl 2 (by decide) f_61 (fun _ h9 => h9) rfl dX9_close_72 ?_
              refine lv_icmp_ge (tgt := 106) hx hb dX9_close_75 (by decide) (fun c_30 => ?_) (fun c_30 => ?_)
              · skip
                have z_30 := (nI_leI (a := n) (b := i) (by omega) (by omega)).mp c_30
                refine lv_iconst (v := nI 0) hx hb dX9_close_106 (by decide) ?_
                refine lv_istore_n (lv' := [(2, .int (nI 0)), (0, .ref (q 0)), (1, .int (nI k))]) hx hb dX9_close_107 rfl hl (by decide) rfl (fun ls hl => ?_)
                have loop_108 : ∀ (fuel : Nat) (i : Nat) (k : Nat) (H : Heap) (locs : List Loc), 8 - i < fuel → (i ≤ 8) → (k ≤ 1) → (RC2 fl n a la df ag k i) → va_P G vwCl [oM q ref n num den mag fac who fnd pc ic a sta lb la fo dee kc, aI ci (q 1) 600 fl, aI ci (q 2) 1024 wd, aI cz (q 3) 8 df, aI cz (q 4) 8 ag, aI ci (q 5) 8 mk, aI ci (q 6) 8 sc, aI ci (q 7) 12 nu, aI ci (q 8) 12 co, aI ci (q 9) 12 fi, aI ci (q 10) 12 ad, aI ci (q 11) 1800 it, aI ci (q 12) 8 sp, aI ci (q 13) 160 stk] H → va_D A [oM q ref n num den mag fac who fnd pc ic a sta lb la fo dee kc, aI ci (q 1) 600 fl, aI ci (q 2) 1024 wd, aI cz (q 3) 8 df, aI cz (q 4) 8 ag, aI ci (q 5) 8 mk, aI ci (q 6) 8 sc, aI ci (q 7) 12 nu, aI ci (q 8) 12 co, aI ci (q 9) 12 fi, aI ci (q 10) 12 ad, aI ci (q 11) 1800 it, aI ci (q 12) 8 sp, aI ci (q 13) 160 stk] → va_S A s.heap H locs → ∀ ls : Array Slot, lv_has ls 3 [(0, .ref (q 0)), (1, .int (nI k)), (2, .int (nI i))] → W p l e (headSpec wsX9_close ({ frames := 1, cells := 0, slots := 0, locals := 24 })).room s m ([.ref (q 0)] : List Value).toArray below meth c H locs 0 0 (MQ below (va_Qi (fun (r : Int32) (u : Nat) => r = nI u ∧ u ≤ 1 ∧ RClose fl n a la df ag u) (fun u t => PQ G (TY ci cz cl) A [oM q ref n num den mag fac who fnd pc ic a 4 lb la fo dee kc, aI ci (q 1) 600 fl, aI ci (q 2) 1024 wd, aI cz (q 3) 8 df, aI cz (q 4) 8 ag, aI ci (q 5) 8 mk, aI ci (q 6) 8 sc, aI ci (q 7) 12 nu, aI ci (q 8) 12 co, aI ci (q 9) 12 fi, aI ci (q 10) 12 ad, aI ci (q 11) 1800 it, aI ci (q 12) 8 sp, aI ci (q 13) 160 stk] t) A) ([.ref (q 0)] : List Value).toArray s 0 0 A) (F0 m 108 ls []) := by
                  intro fuel
                  induction fuel with
                  | zero => intro i k H locs hf; exact absurd hf (by omega)
                  | succ fuel ih =>
                    intro i k H locs hf hi hk hd hP hD hS ls hl
                    refine lv_iload_n hx hb dX9_close_108 rfl (lv_at hl 2 rfl) ?_
                    refine lv_bipush (v := nI 8) hx hb dX9_close_109 (by decide) ?_
                    refine lv_icmp_ge (tgt := 145) hx hb dX9_close_111 (by decide) (fun c_31 => ?_) (fun c_31 => ?_)
                    · skip
                      have z_31 := (nI_leI (a := 8) (b := i) (by omega) (by omega)).mp c_31
                      refine lv_aload_n hx hb dX9_close_145 rfl (lv_at hl 0 rfl) ?_
                      refine lv_iconst (v := nI 4) hx hb dX9_close_146 (by decide) ?_
                      refine va_put (D := G) (ci := 8) (v := .int (nI 4)) (ty := .int) (C := RX9) (T := TX9) (N := 30) hx hb hts hi_X9 tyX9 tyX9_ok nmX9 hown hK hP hD hS 0 rfl rfl 22 (by decide) f_128 (fun _ h9 => h9) rfl (by decide +kernel) rfl rfl (Nat.le_of_ble_eq_true rfl) dX9_close_147 (fun H locs hP hD hS => ?_)
                      have hP : va_P G vwCl [oM q ref n num den mag fac who fnd pc ic a 4 lb la fo dee kc, aI ci (q 1) 600 fl, aI ci (q 2) 1024 wd, aI cz (q 3) 8 df, aI cz (q 4) 8 ag, aI ci (q 5) 8 mk, aI ci (q 6) 8 sc, aI ci (q 7) 12 nu, aI ci (q 8) 12 co, aI ci (q 9) 12 fi, aI ci (q 10) 12 ad, aI ci (q 11) 1800 it, aI ci (q 12) 8 sp, aI ci (q 13) 160 stk] H := hP
                      have hD : va_D A [oM q ref n num den mag fac who fnd pc ic a 4 lb la fo dee kc, aI ci (q 1) 600 fl, aI ci (q 2) 1024 wd, aI cz (q 3) 8 df, aI cz (q 4) 8 ag, aI ci (q 5) 8 mk, aI ci (q 6) 8 sc, aI ci (q 7) 12 nu, aI ci (q 8) 12 co, aI ci (q 9) 12 fi, aI ci (q 10) 12 ad, aI ci (q 11) 1800 it, aI ci (q 12) 8 sp, aI ci (q 13) 160 stk] := hD
                      refine lv_iload_n hx hb dX9_close_150 rfl (lv_at hl 1 rfl) ?_
                      exact rI (v := nI k) hx hb hr hlocks (nbn (by omega)) hK hP hD hS [0, 1, 2, 3, 4, 5, 6, 7, 8, 9, 10, 11, 12, 13] k rfl (by decide) ⟨rfl, by (try dsimp only); omega, RC2_c hd (by (try dsimp only); omega) (by (try dsimp only); omega)⟩ dX9_close_151
                    · skip
                      have z_31 := mt (nI_leI (a := 8) (b := i) (by omega) (by omega)).mpr c_31
                      refine lv_iload_n hx hb dX9_close_114 rfl (lv_at hl 1 rfl) ?_
                      refine lv_if_eq (tgt := 137) hx hb dX9_close_115 (by decide) (fun c_32 => ?_) (fun c_32 => ?_)
                      · skip
                        have z_32 := (nI_eq (a := k) (b := 0) (by omega) (by omega)).mp c_32
                        refine lv_iconst (v := nI 0) hx hb dX9_close_137 (by decide) ?_
                        refine lv_istore_n (lv' := [(1, .int (nI 0)), (0, .ref (q 0)), (2, .int (nI i))]) hx hb dX9_close_138 rfl hl (by decide) rfl (fun ls hl => ?_)
                        refine lv_iinc (v := nI (i + 1)) (lv' := [(2, .int (nI (i + 1))), (1, .int (nI 0)), (0, .ref (q 0))]) hx hb dX9_close_139 hl (k := 2) rfl (nI_add _ _) (by decide) rfl (fun ls hl => ?_)
                        refine lv_goto (tgt := 108) hx hb dX9_close_142 (by decide) ?_
                        exact ih (i + 1) 0 H locs (by omega) (by omega) (by omega) (by first | exact RC2_s (RC2_1 (by omega) hd) (by assumption) | exact RC2_f (i := i) (by omega) (by assumption) | exact RC2_e (by omega) hd) (hP.sub [0, 1, 2, 3, 4, 5, 6, 7, 8, 9, 10, 11, 12, 13] rfl) (hD.sub [0, 1, 2, 3, 4, 5, 6, 7, 8, 9, 10, 11, 12, 13] (by decide) rfl) hS ls (lv_sub hl [2, 1, 0] rfl)
                      · skip
                        have z_32 := mt (nI_eq (a := k) (b := 0) (by omega) (by omega)).mpr c_32
                        refine lv_aload_n hx hb dX9_close_118 rfl (lv_at hl 0 rfl) ?_
                        refine va_get (D := G) (ci := 8) (v := .ref (q 3)) (C := RX9) (T := TX9) (N := 30) hx hb hts hi_X9 hown hK hP 0 rfl rfl 4 (by decide) f_16 (fun _ h9 => h9) rfl dX9_close_119 ?_
                        refine lv_iload_n hx hb dX9_close_122 rfl (lv_at hl 2 rfl) ?_
                        refine va_zald hx hb hK hP 3 1 rfl rfl (vp_in_nI (by omega) (by omega)) dX9_close_123 ?_
                        refine tp (y := df i) (congrArg df (nI_clamp (by omega))) ?_
                        refine lv_aload_n hx hb dX9_close_124 rfl (lv_at hl 0 rfl) ?_
                        refine va_get (D := G) (ci := 8) (v := .ref (q 4)) (C := RX9) (T := TX9) (N := 30) hx hb hts hi_X9 hown hK hP 0 rfl rfl 5 (by decide) f_20 (fun _ h9 => h9) rfl dX9_close_125 ?_
                        refine lv_iload_n hx hb dX9_close_128 rfl (lv_at hl 2 rfl) ?_
                        refine va_zald hx hb hK hP 4 1 rfl rfl (vp_in_nI (by omega) (by omega)) dX9_close_129 ?_
                        refine tp (y := ag i) (congrArg ag (nI_clamp (by omega))) ?_
                        refine lv_icmp_ne (tgt := 137) hx hb dX9_close_130 (by decide) (fun c_33 => ?_) (fun c_33 => ?_)
                        · skip
                          refine lv_iconst (v := nI 0) hx hb dX9_close_137 (by decide) ?_
                          refine lv_istore_n (lv' := [(1, .int (nI 0)), (0, .ref (q 0)), (2, .int (nI i))]) hx hb dX9_close_138 rfl hl (by decide) rfl (fun ls hl => ?_)
                          refine lv_iinc (v := nI (i + 1)) (lv' := [(2, .int (nI (i + 1))), (1, .int (nI 0)), (0, .ref (q 0))]) hx hb dX9_close_139 hl (k := 2) rfl (nI_add _ _) (by decide) rfl (fun ls hl => ?_)
                          refine lv_goto (tgt := 108) hx hb dX9_close_142 (by decide) ?_
                          exact ih (i + 1) 0 H locs (by omega) (by omega) (by omega) (by first | exact RC2_s (RC2_1 (by omega) hd) (by assumption) | exact RC2_f (i := i) (by omega) (by assumption) | exact RC2_e (by omega) hd) (hP.sub [0, 1, 2, 3, 4, 5, 6, 7, 8, 9, 10, 11, 12, 13] rfl) (hD.sub [0, 1, 2, 3, 4, 5, 6, 7, 8, 9, 10, 11, 12, 13] (by decide) rfl) hS ls (lv_sub hl [2, 1, 0] rfl)
                        · skip
                          refine lv_iconst (v := nI 1) hx hb dX9_close_133 (by decide) ?_
                          refine lv_goto (tgt := 138) hx hb dX9_close_134 (by decide) ?_
                          refine lv_istore_n (lv' := [(1, .int (nI 1)), (0, .ref (q 0)), (2, .int (nI i))]) hx hb dX9_close_138 rfl hl (by decide) rfl (fun ls hl => ?_)
                          refine lv_iinc (v := nI (i + 1)) (lv' := [(2, .int (nI (i + 1))), (1, .int (nI 1)), (0, .ref (q 0))]) hx hb dX9_close_139 hl (k := 2) rfl (nI_add _ _) (by decide) rfl (fun ls hl => ?_)
                          refine lv_goto (tgt := 108) hx hb dX9_close_142 (by decide) ?_
                          exact ih (i + 1) 1 H locs (by omega) (by omega) (by omega) (by first | exact RC2_s (RC2_1 (by omega) hd) (by assumption) | exact RC2_f (i := i) (by omega) (by assumption) | exact RC2_e (by omega) hd) (hP.sub [0, 1, 2, 3, 4, 5, 6, 7, 8, 9, 10, 11, 12, 13] rfl) (hD.sub [0, 1, 2, 3, 4, 5, 6, 7, 8, 9, 10, 11, 12, 13] (by decide) rfl) hS ls (lv_sub hl [2, 1, 0] rfl)
                exact loop_108 (8 - 0 + 1) 0 k H locs (Nat.lt_succ_self _) (by omega) (by omega) (RC2_0 hc (by omega)) (hP.sub [0, 1, 2, 3, 4, 5, 6, 7, 8, 9, 10, 11, 12, 13] rfl) (hD.sub [0, 1, 2, 3, 4, 5, 6, 7, 8, 9, 10, 11, 12, 13] (by decide) rfl) hS ls (lv_sub hl [1, 2, 0] rfl)
              · skip
                have z_30 := mt (nI_leI (a := n) (b := i) (by omega) (by omega)).mpr c_30
                refine lv_iload_n hx hb dX9_close_78 rfl (lv_at hl 1 rfl) ?_
                refine lv_if_eq (tgt := 98) hx hb dX9_close_79 (by decide) (fun c_34 => ?_) (fun c_34 => ?_)
                · skip
                  have z_34 := (nI_eq (a := k) (b := 0) (by omega) (by omega)).mp c_34
                  refine lv_iconst (v := nI 0) hx hb dX9_close_98 (by decide) ?_
                  refine lv_istore_n (lv' := [(1, .int (nI 0)), (0, .ref (q 0)), (2, .int (nI i))]) hx hb dX9_close_99 rfl hl (by decide) rfl (fun ls hl => ?_)
                  refine lv_iinc (v := nI (i + 1)) (lv' := [(2, .int (nI (i + 1))), (1, .int (nI 0)), (0, .ref (q 0))]) hx hb dX9_close_100 hl (k := 2) rfl (nI_add _ _) (by decide) rfl (fun ls hl => ?_)
                  refine lv_goto (tgt := 70) hx hb dX9_close_103 (by decide) ?_
                  exact ih (i + 1) 0 H locs (by omega) (by omega) (by omega) (by first | exact RC1_s (RC1_1 (by omega) hc) (by rw [← rdB_lo (n := n) (by omega)]; omega) | exact RC1_f (i := i) (by omega) (by omega) (by rw [← rdB_lo (n := n) (by omega)]; omega) | exact RC1_e (by omega) hc) (hP.sub [0, 1, 2, 3, 4, 5, 6, 7, 8, 9, 10, 11, 12, 13] rfl) (hD.sub [0, 1, 2, 3, 4, 5, 6, 7, 8, 9, 10, 11, 12, 13] (by decide) rfl) hS ls (lv_sub hl [2, 1, 0] rfl)
                · skip
                  have z_34 := mt (nI_eq (a := k) (b := 0) (by omega) (by omega)).mpr c_34
                  refine lv_aload_n hx hb dX9_close_82 rfl (lv_at hl 0 rfl) ?_
                  refine va_get (D := G) (ci := 8) (v := .ref (q 1)) (C := RX9) (T := TX9) (N := 30) hx hb hts hi_X9 hown hK hP 0 rfl rfl 1 (by decide) f_7 (fun _ h9 => h9) rfl dX9_close_83 ?_
                  refine lv_iload_n hx hb dX9_close_86 rfl (lv_at hl 2 rfl) ?_
                  refine va_iald hx hb hK hP 1 0 rfl rfl (vp_in_nI (by omega) (by omega)) dX9_close_87 ?_
                  refine tp (y := fl i) (congrArg fl (nI_clamp (by omega))) ?_
                  have hbi := rdB_le hB n i
                  refine tp (y := nI (rdB fl n i)) (rdB_row hB (by omega)) ?_
                  refine lv_sipush (v := nI 223) hx hb dX9_close_88 (by decide) ?_
                  refine lv_icmp_ne (tgt := 98) hx hb dX9_close_91 (by decide) (fun c_35 => ?_) (fun c_35 => ?_)
                  · skip
                    have z_35 := mt (nI_eq (a := (rdB fl n i)) (b := 223) (by omega) (by omega)).mpr c_35
                    refine lv_iconst (v := nI 0) hx hb dX9_close_98 (by decide) ?_
                    refine lv_istore_n (lv' := [(1, .int (nI 0)), (0, .ref (q 0)), (2, .int (nI i))]) hx hb dX9_close_99 rfl hl (by decide) rfl (fun ls hl => ?_)
                    refine lv_iinc (v := nI (i + 1)) (lv' := [(2, .int (nI (i + 1))), (1, .int (nI 0)), (0, .ref (q 0))]) hx hb dX9_close_100 hl (k := 2) rfl (nI_add _ _) (by decide) rfl (fun ls hl => ?_)
                    refine lv_goto (tgt := 70) hx hb dX9_close_103 (by decide) ?_
                    exact ih (i + 1) 0 H locs (by omega) (by omega) (by omega) (by first | exact RC1_s (RC1_1 (by omega) hc) (by rw [← rdB_lo (n := n) (by omega)]; omega) | exact RC1_f (i := i) (by omega) (by omega) (by rw [← rdB_lo (n := n) (by omega)]; omega) | exact RC1_e (by omega) hc) (hP.sub [0, 1, 2, 3, 4, 5, 6, 7, 8, 9, 10, 11, 12, 13] rfl) (hD.sub [0, 1, 2, 3, 4, 5, 6, 7, 8, 9, 10, 11, 12, 13] (by decide) rfl) hS ls (lv_sub hl [2, 1, 0] rfl)
                  · skip
                    have z_35 := (nI_eq (a := (rdB fl n i)) (b := 223) (by omega) (by omega)).mp c_35
                    refine lv_iconst (v := nI 1) hx hb dX9_close_94 (by decide) ?_
                    refine lv_goto (tgt := 99) hx hb dX9_close_95 (by decide) ?_
                    refine lv_istore_n (lv' := [(1, .int (nI 1)), (0, .ref (q 0)), (2, .int (nI i))]) hx hb dX9_close_99 rfl hl (by decide) rfl (fun ls hl => ?_)
                    refine lv_iinc (v := nI (i + 1)) (lv' := [(2, .int (nI (i + 1))), (1, .int (nI 1)), (0, .ref (q 0))]) hx hb dX9_close_100 hl (k := 2) rfl (nI_add _ _) (by decide) rfl (fun ls hl => ?_)
                    refine lv_goto (tgt := 70) hx hb dX9_close_103 (by decide) ?_
                    exact ih (i + 1) 1 H locs (by omega) (by omega) (by omega) (by first | exact RC1_s (RC1_1 (by omega) hc) (by rw [← rdB_lo (n := n) (by omega)]; omega) | exact RC1_f (i := i) (by omega) (by omega) (by rw [← rdB_lo (n := n) (by omega)]; omega) | exact RC1_e (by omega) hc) (hP.sub [0, 1, 2, 3, 4, 5, 6, 7, 8, 9, 10, 11, 12, 13] rfl) (hD.sub [0, 1, 2, 3, 4, 5, 6, 7, 8, 9, 10, 11, 12, 13] (by decide) rfl) hS ls (lv_sub hl [2, 1, 0] rfl)
          exact loop_70 (n - (a + 4) + 1) (a + 4) 1 H locs (Nat.lt_succ_self _) (by omega) (by omega) (by first | exact RC1_0 (RC0_mk (by omega) (by omega) (by omega) (by omega)) | exact RC1_n (fun h => by obtain ⟨q1, q2, q3, q4⟩ := h; omega)) (hP.sub [0, 1, 2, 3, 4, 5, 6, 7, 8, 9, 10, 11, 12, 13] rfl) (hD.sub [0, 1, 2, 3, 4, 5, 6, 7, 8, 9, 10, 11, 12, 13] (by decide) rfl) hS ls (lv_sub hl [2, 1, 0] rfl)
