set_option maxHeartbeats 4000000 in
set_option maxRecDepth 100000 in
theorem c_X9_page (l : Launch) (G : va_G) (ci cz cl : ClassId) (q : Nat → Nat) (sz : Nat) (x : Int32) (y : Int32) (ref : Int32) (n : Nat) (num : Nat) (den : Nat) (mag : Nat) (fac : UInt64) (who : Nat) (fnd : Int32) (pc : Nat) (ic : Nat) (a : Nat) (sta : Nat) (lb : Nat) (la : Nat) (fo : Int32) (dee : Nat) (kc : Nat) (fl : Nat → Int32) (wd : Nat → Int32) (df : Nat → Int32) (ag : Nat → Int32) (mk : Nat → Int32) (sc : Nat → Int32) (nu : Nat → Int32) (co : Nat → Int32) (fi : Nat → Int32) (ad : Nat → Int32) (it : Nat → Int32) (sp : Nat → Int32) (stk : Nat → Int32) (hpc : pc ≤ 12) (hwh : who ≤ 1) : CtI l yX9_page wsX9_page ({ frames := 1, cells := 0, slots := 0, locals := 21 }) G (TY ci cz cl) O0 [.ref (q 0), .int x, .int y] [oM q ref n num den mag fac who fnd pc ic a sta lb la fo dee kc, aI ci (q 1) 600 fl, aI ci (q 2) 1024 wd, aI cz (q 3) 8 df, aI cz (q 4) 8 ag, aI ci (q 5) 8 mk, aI ci (q 6) 8 sc, aI ci (q 7) 12 nu, aI ci (q 8) 12 co, aI ci (q 9) 12 fi, aI ci (q 10) 12 ad, aI ci (q 11) 1800 it, aI ci (q 12) 8 sp, aI ci (q 13) 160 stk] sz (fun (r : Int32) (u : Int32) => (u = nI 1 ∧ (who = 0 ∨ ¬ (0 ≤ x.toInt ∧ x.toInt < pc) ∨ ¬ (0 ≤ y.toInt ∧ y.toInt ≤ 2))) ∨ (u = nI 0 ∧ who = 1 ∧ PgM x y r pc nu co ad)) (fun u : Int32 => [oM q u n num den mag fac who fnd pc ic a sta lb la fo dee kc, aI ci (q 1) 600 fl, aI ci (q 2) 1024 wd, aI cz (q 3) 8 df, aI cz (q 4) 8 ag, aI ci (q 5) 8 mk, aI ci (q 6) 8 sc, aI ci (q 7) 12 nu, aI ci (q 8) 12 co, aI ci (q 9) 12 fi, aI ci (q 10) 12 ad, aI ci (q 11) 1800 it, aI ci (q 12) 8 sp, aI ci (q 13) 160 stk]) 0 0 := by
  refine Met.ofW (cc := cX9_page) (maxL := 3) (ret := (some .int)) (by decide) rfl ?_
  intro p e s m args below meth c s₁ B hml hv
  obtain ⟨rfl, ⟨hsz, hP, hK, hD0⟩, hO⟩ := hv
  have hx := B.exec
  have hb := B.bytes
  have hr := B.returns
  have hts := atoms_spec (ws := wsX9_page) B.pre
  have hown : s.vm.findClass RX9 = some m.cls := findClass_of_methodNamed B.named
  have hlocks := B.notSynchronized
  subst hsz
  have hD := hD0.self (sz := s.heap.size)
  generalize hAe : va_A [oM q ref n num den mag fac who fnd pc ic a sta lb la fo dee kc, aI ci (q 1) 600 fl, aI ci (q 2) 1024 wd, aI cz (q 3) 8 df, aI cz (q 4) 8 ag, aI ci (q 5) 8 mk, aI ci (q 6) 8 sc, aI ci (q 7) 12 nu, aI ci (q 8) 12 co, aI ci (q 9) 12 fi, aI ci (q 10) 12 ad, aI ci (q 11) 1800 it, aI ci (q 12) 8 sp, aI ci (q 13) 160 stk] s.heap.size = A at hD hO ⊢
  have hA : ∀ q : Nat, s.heap.size ≤ q → A q := fun q h => by rw [← hAe]; exact Or.inr h
  have ok := ok0
  refine startH (A := A) (fun H locs hP hS => ?_) hP
  have hi_X9 := (by decide +kernel : ∀ w ∈ wsX90, w ∈ wsX9_page)
  have f_54 := hts (.fieldLink RX9 54 "PageReaderModel" "refusal" "I") (by decide +kernel)
  have f_191 := hts (.fieldLink RX9 191 "PageReaderModel" "whole" "Z") (by decide +kernel)
  have f_95 := hts (.fieldLink RX9 95 "PageReaderModel" "pages" "I") (by decide +kernel)
  have f_42 := hts (.fieldLink RX9 42 "PageReaderModel" "addresses" "[I") (by decide +kernel)
  have f_36 := hts (.fieldLink RX9 36 "PageReaderModel" "counts" "[I") (by decide +kernel)
  have f_33 := hts (.fieldLink RX9 33 "PageReaderModel" "numbers" "[I") (by decide +kernel)
  have hl := lv_entry ([.ref (q 0), .int x, .int y]) (n := 3) (Nat.le_of_ble_eq_true rfl)
  rw [lg_entry_eq]
  generalize (lg_sl ([.ref (q 0), .int x, .int y]) ++ List.replicate (3 - (lg_sl ([.ref (q 0), .int x, .int y])).length) Slot.unset).toArray = ls at hl ⊢
  have hl : lv_has ls 3 [(0, .ref (q 0)), (1, .int x), (2, .int y)] := hl
  refine lv_aload_n hx hb dX9_page_0 rfl (lv_at hl 0 rfl) ?_
  refine lv_iconst (v := nI 0) hx hb dX9_page_1 (by decide) ?_
  refine va_put (D := G) (ci := 8) (v := .int (nI 0)) (ty := .int) (C := RX9) (T := TX9) (N := 30) hx hb hts hi_X9 tyX9 tyX9_ok nmX9 hown hK hP hD hS 0 rfl rfl 0 (by decide) f_54 (fun _ h9 => h9) rfl (by decide +kernel) rfl rfl (Nat.le_of_ble_eq_true rfl) dX9_page_2 (fun H locs hP hD hS => ?_)
  have hP : va_P G vwCl [oM q (nI 0) n num den mag fac who fnd pc ic a sta lb la fo dee kc, aI ci (q 1) 600 fl, aI ci (q 2) 1024 wd, aI cz (q 3) 8 df, aI cz (q 4) 8 ag, aI ci (q 5) 8 mk, aI ci (q 6) 8 sc, aI ci (q 7) 12 nu, aI ci (q 8) 12 co, aI ci (q 9) 12 fi, aI ci (q 10) 12 ad, aI ci (q 11) 1800 it, aI ci (q 12) 8 sp, aI ci (q 13) 160 stk] H := hP
  have hD : va_D A [oM q (nI 0) n num den mag fac who fnd pc ic a sta lb la fo dee kc, aI ci (q 1) 600 fl, aI ci (q 2) 1024 wd, aI cz (q 3) 8 df, aI cz (q 4) 8 ag, aI ci (q 5) 8 mk, aI ci (q 6) 8 sc, aI ci (q 7) 12 nu, aI ci (q 8) 12 co, aI ci (q 9) 12 fi, aI ci (q 10) 12 ad, aI ci (q 11) 1800 it, aI ci (q 12) 8 sp, aI ci (q 13) 160 stk] := hD
  refine lv_aload_n hx hb dX9_page_5 rfl (lv_at hl 0 rfl) ?_
  refine va_get (D := G) (ci := 8) (v := .int (nI who)) (C := RX9) (T := TX9) (N := 30) hx hb hts hi_X9 hown hK hP 0 rfl rfl 12 (by decide) f_191 (fun _ h9 => h9) rfl dX9_page_6 ?_
  refine lv_if_eq (tgt := 33) hx hb dX9_page_9 (by decide) (fun c_1 => ?_) (fun c_1 => ?_)
  · skip
    have z_1 := (nI_eq (a := who) (b := 0) (by omega) (by omega)).mp c_1
    refine lv_aload_n hx hb dX9_page_33 rfl (lv_at hl 0 rfl) ?_
    refine lv_iconst (v := nI 1) hx hb dX9_page_34 (by decide) ?_
    refine jI (va_runV (As := [.int (nI 1)]) (rest := []) ⟨hx, hb, hml, hown, hts⟩ (c_X9_refuse l G ci cz cl q H.size (nI 1) (nI 0) n num den mag fac who fnd pc ic a sta lb la fo dee kc fl wd df ag mk sc nu co fi ad it sp stk ) (cwV 1 hts gX9_page_X9_refuse rfl rfl rfl (by decide +kernel) ⟨(Nat.le_of_ble_eq_true rfl), (Nat.le_of_ble_eq_true rfl)⟩) (pV (wc := [oM q (nI 0) n num den mag fac who fnd pc ic a sta lb la fo dee kc, aI ci (q 1) 600 fl, aI ci (q 2) 1024 wd, aI cz (q 3) 8 df, aI cz (q 4) 8 ag, aI ci (q 5) 8 mk, aI ci (q 6) 8 sc, aI ci (q 7) 12 nu, aI ci (q 8) 12 co, aI ci (q 9) 12 fi, aI ci (q 10) 12 ad, aI ci (q 11) 1800 it, aI ci (q 12) 8 sp, aI ci (q 13) 160 stk]) ok hK hP hD hS hA hO [0, 1, 2, 3, 4, 5, 6, 7, 8, 9, 10, 11, 12, 13] rfl (by decide) 0 rfl rfl) rfl rfl hl.1 rfl (lv_room (Nat.le_of_ble_eq_true rfl)) dX9_page_35 ⟨(Nat.le_of_ble_eq_true rfl), (Nat.le_of_ble_eq_true rfl)⟩) (wr := []) hP hD hS hA [0, 1, 2, 3, 4, 5, 6, 7, 8, 9, 10, 11, 12, 13] [] rfl rfl (by decide) (by decide) (fun r_2 u H locs hw_2 hP hD hS => ?_)
    try dsimp only at hw_2
    subst r_2
    have hP : va_P G vwCl [oM q (nI 1) n num den mag fac who fnd pc ic a sta lb la fo dee kc, aI ci (q 1) 600 fl, aI ci (q 2) 1024 wd, aI cz (q 3) 8 df, aI cz (q 4) 8 ag, aI ci (q 5) 8 mk, aI ci (q 6) 8 sc, aI ci (q 7) 12 nu, aI ci (q 8) 12 co, aI ci (q 9) 12 fi, aI ci (q 10) 12 ad, aI ci (q 11) 1800 it, aI ci (q 12) 8 sp, aI ci (q 13) 160 stk] H := hP
    have hD : va_D A [oM q (nI 1) n num den mag fac who fnd pc ic a sta lb la fo dee kc, aI ci (q 1) 600 fl, aI ci (q 2) 1024 wd, aI cz (q 3) 8 df, aI cz (q 4) 8 ag, aI ci (q 5) 8 mk, aI ci (q 6) 8 sc, aI ci (q 7) 12 nu, aI ci (q 8) 12 co, aI ci (q 9) 12 fi, aI ci (q 10) 12 ad, aI ci (q 11) 1800 it, aI ci (q 12) 8 sp, aI ci (q 13) 160 stk] := hD
    exact rI (v := nI 0) hx hb hr hlocks rfl hK hP hD hS [0, 1, 2, 3, 4, 5, 6, 7, 8, 9, 10, 11, 12, 13] (nI 1) rfl (by decide) (Or.inl ⟨rfl, by (try dsimp only); omega⟩) dX9_page_38
  · skip
    have z_1 := mt (nI_eq (a := who) (b := 0) (by omega) (by omega)).mpr c_1
    refine lv_iload_n hx hb dX9_page_12 rfl (lv_at hl 1 rfl) ?_
    refine lv_if_lt (tgt := 33) hx hb dX9_page_13 (by decide) (fun c_3 => ?_) (fun c_3 => ?_)
    · skip
      have z_3 := (i_lt x (nI 0)).mp c_3
      rw [nI_toInt (n := 0) (by omega)] at z_3
      refine lv_aload_n hx hb dX9_page_33 rfl (lv_at hl 0 rfl) ?_
      refine lv_iconst (v := nI 1) hx hb dX9_page_34 (by decide) ?_
      refine jI (va_runV (As := [.int (nI 1)]) (rest := []) ⟨hx, hb, hml, hown, hts⟩ (c_X9_refuse l G ci cz cl q H.size (nI 1) (nI 0) n num den mag fac who fnd pc ic a sta lb la fo dee kc fl wd df ag mk sc nu co fi ad it sp stk ) (cwV 1 hts gX9_page_X9_refuse rfl rfl rfl (by decide +kernel) ⟨(Nat.le_of_ble_eq_true rfl), (Nat.le_of_ble_eq_true rfl)⟩) (pV (wc := [oM q (nI 0) n num den mag fac who fnd pc ic a sta lb la fo dee kc, aI ci (q 1) 600 fl, aI ci (q 2) 1024 wd, aI cz (q 3) 8 df, aI cz (q 4) 8 ag, aI ci (q 5) 8 mk, aI ci (q 6) 8 sc, aI ci (q 7) 12 nu, aI ci (q 8) 12 co, aI ci (q 9) 12 fi, aI ci (q 10) 12 ad, aI ci (q 11) 1800 it, aI ci (q 12) 8 sp, aI ci (q 13) 160 stk]) ok hK hP hD hS hA hO [0, 1, 2, 3, 4, 5, 6, 7, 8, 9, 10, 11, 12, 13] rfl (by decide) 0 rfl rfl) rfl rfl hl.1 rfl (lv_room (Nat.le_of_ble_eq_true rfl)) dX9_page_35 ⟨(Nat.le_of_ble_eq_true rfl), (Nat.le_of_ble_eq_true rfl)⟩) (wr := []) hP hD hS hA [0, 1, 2, 3, 4, 5, 6, 7, 8, 9, 10, 11, 12, 13] [] rfl rfl (by decide) (by decide) (fun r_4 u H locs hw_4 hP hD hS => ?_)
      try dsimp only at hw_4
      subst r_4
      have hP : va_P G vwCl [oM q (nI 1) n num den mag fac who fnd pc ic a sta lb la fo dee kc, aI ci (q 1) 600 fl, aI ci (q 2) 1024 wd, aI cz (q 3) 8 df, aI cz (q 4) 8 ag, aI ci (q 5) 8 mk, aI ci (q 6) 8 sc, aI ci (q 7) 12 nu, aI ci (q 8) 12 co, aI ci (q 9) 12 fi, aI ci (q 10) 12 ad, aI ci (q 11) 1800 it, aI ci (q 12) 8 sp, aI ci (q 13) 160 stk] H := hP
      have hD : va_D A [oM q (nI 1) n num den mag fac who fnd pc ic a sta lb la fo dee kc, aI ci (q 1) 600 fl, aI ci (q 2) 1024 wd, aI cz (q 3) 8 df, aI cz (q 4) 8 ag, aI ci (q 5) 8 mk, aI ci (q 6) 8 sc, aI ci (q 7) 12 nu, aI ci (q 8) 12 co, aI ci (q 9) 12 fi, aI ci (q 10) 12 ad, aI ci (q 11) 1800 it, aI ci (q 12) 8 sp, aI ci (q 13) 160 stk] := hD
      exact rI (v := nI 0) hx hb hr hlocks rfl hK hP hD hS [0, 1, 2, 3, 4, 5, 6, 7, 8, 9, 10, 11, 12, 13] (nI 1) rfl (by decide) (Or.inl ⟨rfl, by (try dsimp only); omega⟩) dX9_page_38
    · skip
      have z_3 := mt (i_lt x (nI 0)).mpr c_3
      rw [nI_toInt (n := 0) (by omega)] at z_3
      refine lv_iload_n hx hb dX9_page_16 rfl (lv_at hl 1 rfl) ?_
      refine lv_aload_n hx hb dX9_page_17 rfl (lv_at hl 0 rfl) ?_
      refine va_get (D := G) (ci := 8) (v := .int (nI pc)) (C := RX9) (T := TX9) (N := 30) hx hb hts hi_X9 hown hK hP 0 rfl rfl 14 (by decide) f_95 (fun _ h9 => h9) rfl dX9_page_18 ?_
      refine lv_icmp_ge (tgt := 33) hx hb dX9_page_21 (by decide) (fun c_5 => ?_) (fun c_5 => ?_)
      · skip
        have z_5 := (i_le (nI pc) x).mp c_5
        rw [nI_toInt (n := pc) (by omega)] at z_5
        refine lv_aload_n hx hb dX9_page_33 rfl (lv_at hl 0 rfl) ?_
        refine lv_iconst (v := nI 1) hx hb dX9_page_34 (by decide) ?_
        refine jI (va_runV (As := [.int (nI 1)]) (rest := []) ⟨hx, hb, hml, hown, hts⟩ (c_X9_refuse l G ci cz cl q H.size (nI 1) (nI 0) n num den mag fac who fnd pc ic a sta lb la fo dee kc fl wd df ag mk sc nu co fi ad it sp stk ) (cwV 1 hts gX9_page_X9_refuse rfl rfl rfl (by decide +kernel) ⟨(Nat.le_of_ble_eq_true rfl), (Nat.le_of_ble_eq_true rfl)⟩) (pV (wc := [oM q (nI 0) n num den mag fac who fnd pc ic a sta lb la fo dee kc, aI ci (q 1) 600 fl, aI ci (q 2) 1024 wd, aI cz (q 3) 8 df, aI cz (q 4) 8 ag, aI ci (q 5) 8 mk, aI ci (q 6) 8 sc, aI ci (q 7) 12 nu, aI ci (q 8) 12 co, aI ci (q 9) 12 fi, aI ci (q 10) 12 ad, aI ci (q 11) 1800 it, aI ci (q 12) 8 sp, aI ci (q 13) 160 stk]) ok hK hP hD hS hA hO [0, 1, 2, 3, 4, 5, 6, 7, 8, 9, 10, 11, 12, 13] rfl (by decide) 0 rfl rfl) rfl rfl hl.1 rfl (lv_room (Nat.le_of_ble_eq_true rfl)) dX9_page_35 ⟨(Nat.le_of_ble_eq_true rfl), (Nat.le_of_ble_eq_true rfl)⟩) (wr := []) hP hD hS hA [0, 1, 2, 3, 4, 5, 6, 7, 8, 9, 10, 11, 12, 13] [] rfl rfl (by decide) (by decide) (fun r_6 u H locs hw_6 hP hD hS => ?_)
        try dsimp only at hw_6
        subst r_6
        have hP : va_P G vwCl [oM q (nI 1) n num den mag fac who fnd pc ic a sta lb la fo dee kc, aI ci (q 1) 600 fl, aI ci (q 2) 1024 wd, aI cz (q 3) 8 df, aI cz (q 4) 8 ag, aI ci (q 5) 8 mk, aI ci (q 6) 8 sc, aI ci (q 7) 12 nu, aI ci (q 8) 12 co, aI ci (q 9) 12 fi, aI ci (q 10) 12 ad, aI ci (q 11) 1800 it, aI ci (q 12) 8 sp, aI ci (q 13) 160 stk] H := hP
        have hD : va_D A [oM q (nI 1) n num den mag fac who fnd pc ic a sta lb la fo dee kc, aI ci (q 1) 600 fl, aI ci (q 2) 1024 wd, aI cz (q 3) 8 df, aI cz (q 4) 8 ag, aI ci (q 5) 8 mk, aI ci (q 6) 8 sc, aI ci (q 7) 12 nu, aI ci (q 8) 12 co, aI ci (q 9) 12 fi, aI ci (q 10) 12 ad, aI ci (q 11) 1800 it, aI ci (q 12) 8 sp, aI ci (q 13) 160 stk] := hD
        exact rI (v := nI 0) hx hb hr hlocks rfl hK hP hD hS [0, 1, 2, 3, 4, 5, 6, 7, 8, 9, 10, 11, 12, 13] (nI 1) rfl (by decide) (Or.inl ⟨rfl, by (try dsimp only); omega⟩) dX9_page_38
      · skip
        have z_5 := mt (i_le (nI pc) x).mpr c_5
        rw [nI_toInt (n := pc) (by omega)] at z_5
        refine lv_iload_n hx hb dX9_page_24 rfl (lv_at hl 2 rfl) ?_
        refine lv_if_lt (tgt := 33) hx hb dX9_page_25 (by decide) (fun c_7 => ?_) (fun c_7 => ?_)
        · skip
          have z_7 := (i_lt y (nI 0)).mp c_7
          rw [nI_toInt (n := 0) (by omega)] at z_7
          refine lv_aload_n hx hb dX9_page_33 rfl (lv_at hl 0 rfl) ?_
          refine lv_iconst (v := nI 1) hx hb dX9_page_34 (by decide) ?_
          refine jI (va_runV (As := [.int (nI 1)]) (rest := []) ⟨hx, hb, hml, hown, hts⟩ (c_X9_refuse l G ci cz cl q H.size (nI 1) (nI 0) n num den mag fac who fnd pc ic a sta lb la fo dee kc fl wd df ag mk sc nu co fi ad it sp stk ) (cwV 1 hts gX9_page_X9_refuse rfl rfl rfl (by decide +kernel) ⟨(Nat.le_of_ble_eq_true rfl), (Nat.le_of_ble_eq_true rfl)⟩) (pV (wc := [oM q (nI 0) n num den mag fac who fnd pc ic a sta lb la fo dee kc, aI ci (q 1) 600 fl, aI ci (q 2) 1024 wd, aI cz (q 3) 8 df, aI cz (q 4) 8 ag, aI ci (q 5) 8 mk, aI ci (q 6) 8 sc, aI ci (q 7) 12 nu, aI ci (q 8) 12 co, aI ci (q 9) 12 fi, aI ci (q 10) 12 ad, aI ci (q 11) 1800 it, aI ci (q 12) 8 sp, aI ci (q 13) 160 stk]) ok hK hP hD hS hA hO [0, 1, 2, 3, 4, 5, 6, 7, 8, 9, 10, 11, 12, 13] rfl (by decide) 0 rfl rfl) rfl rfl hl.1 rfl (lv_room (Nat.le_of_ble_eq_true rfl)) dX9_page_35 ⟨(Nat.le_of_ble_eq_true rfl), (Nat.le_of_ble_eq_true rfl)⟩) (wr := []) hP hD hS hA [0, 1, 2, 3, 4, 5, 6, 7, 8, 9, 10, 11, 12, 13] [] rfl rfl (by decide) (by decide) (fun r_8 u H locs hw_8 hP hD hS => ?_)
          try dsimp only at hw_8
          subst r_8
          have hP : va_P G vwCl [oM q (nI 1) n num den mag fac who fnd pc ic a sta lb la fo dee kc, aI ci (q 1) 600 fl, aI ci (q 2) 1024 wd, aI cz (q 3) 8 df, aI cz (q 4) 8 ag, aI ci (q 5) 8 mk, aI ci (q 6) 8 sc, aI ci (q 7) 12 nu, aI ci (q 8) 12 co, aI ci (q 9) 12 fi, aI ci (q 10) 12 ad, aI ci (q 11) 1800 it, aI ci (q 12) 8 sp, aI ci (q 13) 160 stk] H := hP
          have hD : va_D A [oM q (nI 1) n num den mag fac who fnd pc ic a sta lb la fo dee kc, aI ci (q 1) 600 fl, aI ci (q 2) 1024 wd, aI cz (q 3) 8 df, aI cz (q 4) 8 ag, aI ci (q 5) 8 mk, aI ci (q 6) 8 sc, aI ci (q 7) 12 nu, aI ci (q 8) 12 co, aI ci (q 9) 12 fi, aI ci (q 10) 12 ad, aI ci (q 11) 1800 it, aI ci (q 12) 8 sp, aI ci (q 13) 160 stk] := hD
          exact rI (v := nI 0) hx hb hr hlocks rfl hK hP hD hS [0, 1, 2, 3, 4, 5, 6, 7, 8, 9, 10, 11, 12, 13] (nI 1) rfl (by decide) (Or.inl ⟨rfl, by (try dsimp only); omega⟩) dX9_page_38
        · skip
          have z_7 := mt (i_lt y (nI 0)).mpr c_7
          rw [nI_toInt (n := 0) (by omega)] at z_7
          refine lv_iload_n hx hb dX9_page_28 rfl (lv_at hl 2 rfl) ?_
          refine lv_iconst (v := nI 2) hx hb dX9_page_29 (by decide) ?_
          refine lv_icmp_le (tgt := 39) hx hb dX9_page_30 (by decide) (fun c_9 => ?_) (fun c_9 => ?_)
          · skip
            have z_9 := (i_le y (nI 2)).mp c_9
            rw [nI_toInt (n := 2) (by omega)] at z_9
            obtain ⟨x9, hx1, hx2, hx3⟩ := i_nonneg (x := x) (by omega)
            refine lv_iload_n hx hb dX9_page_39 rfl (lv_at hl 2 rfl) ?_
            refine lv_if_ne (tgt := 52) hx hb dX9_page_40 (by decide) (fun c_10 => ?_) (fun c_10 => ?_)
            · skip
              refine lv_iload_n hx hb dX9_page_52 rfl (lv_at hl 2 rfl) ?_
              refine lv_iconst (v := nI 1) hx hb dX9_page_53 (by decide) ?_
              refine lv_icmp_ne (tgt := 66) hx hb dX9_page_54 (by decide) (fun c_11 => ?_) (fun c_11 => ?_)
              · skip
                refine lv_aload_n hx hb dX9_page_66 rfl (lv_at hl 0 rfl) ?_
                refine va_get (D := G) (ci := 8) (v := .ref (q 10)) (C := RX9) (T := TX9) (N := 30) hx hb hts hi_X9 hown hK hP 0 rfl rfl 18 (by decide) f_42 (fun _ h9 => h9) rfl dX9_page_67 ?_
                refine lv_iload_n hx hb dX9_page_70 rfl (lv_at hl 1 rfl) ?_
                refine tp (y := nI x9) hx2 ?_
                refine va_iald hx hb hK hP 10 0 rfl rfl (vp_in_nI (by omega) (by omega)) dX9_page_71 ?_
                refine tp (y := ad x9) (congrArg ad (nI_clamp (by omega))) ?_
                exact rI (v := ad x9) hx hb hr hlocks rfl hK hP hD hS [0, 1, 2, 3, 4, 5, 6, 7, 8, 9, 10, 11, 12, 13] (nI 0) rfl (by decide) (Or.inr ⟨rfl, by (try dsimp only); omega, PgM_2 hx2 (by (try dsimp only); omega) (i_two (by (try dsimp only); omega) (by (try dsimp only); omega) (by assumption) (by assumption))⟩) dX9_page_72
              · skip
                refine lv_aload_n hx hb dX9_page_57 rfl (lv_at hl 0 rfl) ?_
                refine va_get (D := G) (ci := 8) (v := .ref (q 8)) (C := RX9) (T := TX9) (N := 30) hx hb hts hi_X9 hown hK hP 0 rfl rfl 16 (by decide) f_36 (fun _ h9 => h9) rfl dX9_page_58 ?_
                refine lv_iload_n hx hb dX9_page_61 rfl (lv_at hl 1 rfl) ?_
                refine tp (y := nI x9) hx2 ?_
                refine va_iald hx hb hK hP 8 0 rfl rfl (vp_in_nI (by omega) (by omega)) dX9_page_62 ?_
                refine tp (y := co x9) (congrArg co (nI_clamp (by omega))) ?_
                refine lv_goto (tgt := 72) hx hb dX9_page_63 (by decide) ?_
                exact rI (v := co x9) hx hb hr hlocks rfl hK hP hD hS [0, 1, 2, 3, 4, 5, 6, 7, 8, 9, 10, 11, 12, 13] (nI 0) rfl (by decide) (Or.inr ⟨rfl, by (try dsimp only); omega, PgM_1 hx2 (by (try dsimp only); omega) (by assumption)⟩) dX9_page_72
            · skip
              refine lv_aload_n hx hb dX9_page_43 rfl (lv_at hl 0 rfl) ?_
              refine va_get (D := G) (ci := 8) (v := .ref (q 7)) (C := RX9) (T := TX9) (N := 30) hx hb hts hi_X9 hown hK hP 0 rfl rfl 15 (by decide) f_33 (fun _ h9 => h9) rfl dX9_page_44 ?_
              refine lv_iload_n hx hb dX9_page_47 rfl (lv_at hl 1 rfl) ?_
              refine tp (y := nI x9) hx2 ?_
              refine va_iald hx hb hK hP 7 0 rfl rfl (vp_in_nI (by omega) (by omega)) dX9_page_48 ?_
              refine tp (y := nu x9) (congrArg nu (nI_clamp (by omega))) ?_
              refine lv_goto (tgt := 72) hx hb dX9_page_49 (by decide) ?_
              exact rI (v := nu x9) hx hb hr hlocks rfl hK hP hD hS [0, 1, 2, 3, 4, 5, 6, 7, 8, 9, 10, 11, 12, 13] (nI 0) rfl (by decide) (Or.inr ⟨rfl, by (try dsimp only); omega, PgM_0 hx2 (by (try dsimp only); omega) (by assumption)⟩) dX9_page_72
          · skip
            have z_9 := mt (i_le y (nI 2)).mpr c_9
            rw [nI_toInt (n := 2) (by omega)] at z_9
            refine lv_aload_n hx hb dX9_page_33 rfl (lv_at hl 0 rfl) ?_
            refine lv_iconst (v := nI 1) hx hb dX9_page_34 (by decide) ?_
            refine jI (va_runV (As := [.int (nI 1)]) (rest := []) ⟨hx, hb, hml, hown, hts⟩ (c_X9_refuse l G ci cz cl q H.size (nI 1) (nI 0) n num den mag fac who fnd pc ic a sta lb la fo dee kc fl wd df ag mk sc nu co fi ad it sp stk ) (cwV 1 hts gX9_page_X9_refuse rfl rfl rfl (by decide +kernel) ⟨(Nat.le_of_ble_eq_true rfl), (Nat.le_of_ble_eq_true rfl)⟩) (pV (wc := [oM q (nI 0) n num den mag fac who fnd pc ic a sta lb la fo dee kc, aI ci (q 1) 600 fl, aI ci (q 2) 1024 wd, aI cz (q 3) 8 df, aI cz (q 4) 8 ag, aI ci (q 5) 8 mk, aI ci (q 6) 8 sc, aI ci (q 7) 12 nu, aI ci (q 8) 12 co, aI ci (q 9) 12 fi, aI ci (q 10) 12 ad, aI ci (q 11) 1800 it, aI ci (q 12) 8 sp, aI ci (q 13) 160 stk]) ok hK hP hD hS hA hO [0, 1, 2, 3, 4, 5, 6, 7, 8, 9, 10, 11, 12, 13] rfl (by decide) 0 rfl rfl) rfl rfl hl.1 rfl (lv_room (Nat.le_of_ble_eq_true rfl)) dX9_page_35 ⟨(Nat.le_of_ble_eq_true rfl), (Nat.le_of_ble_eq_true rfl)⟩) (wr := []) hP hD hS hA [0, 1, 2, 3, 4, 5, 6, 7, 8, 9, 10, 11, 12, 13] [] rfl rfl (by decide) (by decide) (fun r_12 u H locs hw_12 hP hD hS => ?_)
            try dsimp only at hw_12
            subst r_12
            have hP : va_P G vwCl [oM q (nI 1) n num den mag fac who fnd pc ic a sta lb la fo dee kc, aI ci (q 1) 600 fl, aI ci (q 2) 1024 wd, aI cz (q 3) 8 df, aI cz (q 4) 8 ag, aI ci (q 5) 8 mk, aI ci (q 6) 8 sc, aI ci (q 7) 12 nu, aI ci (q 8) 12 co, aI ci (q 9) 12 fi, aI ci (q 10) 12 ad, aI ci (q 11) 1800 it, aI ci (q 12) 8 sp, aI ci (q 13) 160 stk] H := hP
            have hD : va_D A [oM q (nI 1) n num den mag fac who fnd pc ic a sta lb la fo dee kc, aI ci (q 1) 600 fl, aI ci (q 2) 1024 wd, aI cz (q 3) 8 df, aI cz (q 4) 8 ag, aI ci (q 5) 8 mk, aI ci (q 6) 8 sc, aI ci (q 7) 12 nu, aI ci (q 8) 12 co, aI ci (q 9) 12 fi, aI ci (q 10) 12 ad, aI ci (q 11) 1800 it, aI ci (q 12) 8 sp, aI ci (q 13) 160 stk] := hD
            exact rI (v := nI 0) hx hb hr hlocks rfl hK hP hD hS [0, 1, 2, 3, 4, 5, 6, 7, 8, 9, 10, 11, 12, 13] (nI 1) rfl (by decide) (Or.inl ⟨rfl, by (try dsimp only); omega⟩) dX9_page_38
set_option maxHeartbeats 4000000 in
set_option maxRecDepth 100000 in
theorem c_X9_item (l : Launch) (G : va_G) (ci cz cl : ClassId) (q : Nat → Nat) (sz : Nat) (x : Int32) (y : Int32) (z : Int32) (ref : Int32) (n : Nat) (num : Nat) (den : Nat) (mag : Nat) (fac : UInt64) (who : Nat) (fnd : Int32) (pc : Nat) (ic : Nat) (a : Nat) (sta : Nat) (lb : Nat) (la : Nat) (fo : Int32) (dee : Nat) (kc : Nat) (fl : Nat → Int32) (wd : Nat → Int32) (df : Nat → Int32) (ag : Nat → Int32) (mk : Nat → Int32) (sc : Nat → Int32) (nu : Nat → Int32) (co : Nat → Int32) (fi : Nat → Int32) (ad : Nat → Int32) (it : Nat → Int32) (sp : Nat → Int32) (stk : Nat → Int32) (hpc : pc ≤ 12) (hic : ic ≤ 200) (hPI : PI pc ic fi co) (hwh : who ≤ 1) : CtI l yX9_item wsX9_item ({ frames := 1, cells := 0, slots := 0, locals := 21 }) G (TY ci cz cl) O0 [.ref (q 0), .int x, .int y, .int z] [oM q ref n num den mag fac who fnd pc ic a sta lb la fo dee kc, aI ci (q 1) 600 fl, aI ci (q 2) 1024 wd, aI cz (q 3) 8 df, aI cz (q 4) 8 ag, aI ci (q 5) 8 mk, aI ci (q 6) 8 sc, aI ci (q 7) 12 nu, aI ci (q 8) 12 co, aI ci (q 9) 12 fi, aI ci (q 10) 12 ad, aI ci (q 11) 1800 it, aI ci (q 12) 8 sp, aI ci (q 13) 160 stk] sz (fun (r : Int32) (u : Int32) => True) (fun u : Int32 => [oM q u n num den mag fac who fnd pc ic a sta lb la fo dee kc, aI ci (q 1) 600 fl, aI ci (q 2) 1024 wd, aI cz (q 3) 8 df, aI cz (q 4) 8 ag, aI ci (q 5) 8 mk, aI ci (q 6) 8 sc, aI ci (q 7) 12 nu, aI ci (q 8) 12 co, aI ci (q 9) 12 fi, aI ci (q 10) 12 ad, aI ci (q 11) 1800 it, aI ci (q 12) 8 sp, aI ci (q 13) 160 stk]) 0 0 := by
  refine Met.ofW (cc := cX9_item) (maxL := 4) (ret := (some .int)) (by decide) rfl ?_
  intro p e s m args below meth c s₁ B hml hv
  obtain ⟨rfl, ⟨hsz, hP, hK, hD0⟩, hO⟩ := hv
  have hx := B.exec
  have hb := B.bytes
  have hr := B.returns
  have hts := atoms_spec (ws := wsX9_item) B.pre
  have hown : s.vm.findClass RX9 = some m.cls := findClass_of_methodNamed B.named
  have hlocks := B.notSynchronized
  subst hsz
  have hD := hD0.self (sz := s.heap.size)
  generalize hAe : va_A [oM q ref n num den mag fac who fnd pc ic a sta lb la fo dee kc, aI ci (q 1) 600 fl, aI ci (q 2) 1024 wd, aI cz (q 3) 8 df, aI cz (q 4) 8 ag, aI ci (q 5) 8 mk, aI ci (q 6) 8 sc, aI ci (q 7) 12 nu, aI ci (q 8) 12 co, aI ci (q 9) 12 fi, aI ci (q 10) 12 ad, aI ci (q 11) 1800 it, aI ci (q 12) 8 sp, aI ci (q 13) 160 stk] s.heap.size = A at hD hO ⊢
  have hA : ∀ q : Nat, s.heap.size ≤ q → A q := fun q h => by rw [← hAe]; exact Or.inr h
  have ok := ok0
  refine startH (A := A) (fun H locs hP hS => ?_) hP
  have hi_X9 := (by decide +kernel : ∀ w ∈ wsX90, w ∈ wsX9_item)
  have f_54 := hts (.fieldLink RX9 54 "PageReaderModel" "refusal" "I") (by decide +kernel)
  have f_191 := hts (.fieldLink RX9 191 "PageReaderModel" "whole" "Z") (by decide +kernel)
  have f_95 := hts (.fieldLink RX9 95 "PageReaderModel" "pages" "I") (by decide +kernel)
  have f_36 := hts (.fieldLink RX9 36 "PageReaderModel" "counts" "[I") (by decide +kernel)
  have f_45 := hts (.fieldLink RX9 45 "PageReaderModel" "item" "[I") (by decide +kernel)
  have f_39 := hts (.fieldLink RX9 39 "PageReaderModel" "firsts" "[I") (by decide +kernel)
  have hl := lv_entry ([.ref (q 0), .int x, .int y, .int z]) (n := 4) (Nat.le_of_ble_eq_true rfl)
  rw [lg_entry_eq]
  generalize (lg_sl ([.ref (q 0), .int x, .int y, .int z]) ++ List.replicate (4 - (lg_sl ([.ref (q 0), .int x, .int y, .int z])).length) Slot.unset).toArray = ls at hl ⊢
  have hl : lv_has ls 4 [(0, .ref (q 0)), (1, .int x), (2, .int y), (3, .int z)] := hl
  refine lv_aload_n hx hb dX9_item_0 rfl (lv_at hl 0 rfl) ?_
  refine lv_iconst (v := nI 0) hx hb dX9_item_1 (by decide) ?_
  refine va_put (D := G) (ci := 8) (v := .int (nI 0)) (ty := .int) (C := RX9) (T := TX9) (N := 30) hx hb hts hi_X9 tyX9 tyX9_ok nmX9 hown hK hP hD hS 0 rfl rfl 0 (by decide) f_54 (fun _ h9 => h9) rfl (by decide +kernel) rfl rfl (Nat.le_of_ble_eq_true rfl) dX9_item_2 (fun H locs hP hD hS => ?_)
  have hP : va_P G vwCl [oM q (nI 0) n num den mag fac who fnd pc ic a sta lb la fo dee kc, aI ci (q 1) 600 fl, aI ci (q 2) 1024 wd, aI cz (q 3) 8 df, aI cz (q 4) 8 ag, aI ci (q 5) 8 mk, aI ci (q 6) 8 sc, aI ci (q 7) 12 nu, aI ci (q 8) 12 co, aI ci (q 9) 12 fi, aI ci (q 10) 12 ad, aI ci (q 11) 1800 it, aI ci (q 12) 8 sp, aI ci (q 13) 160 stk] H := hP
  have hD : va_D A [oM q (nI 0) n num den mag fac who fnd pc ic a sta lb la fo dee kc, aI ci (q 1) 600 fl, aI ci (q 2) 1024 wd, aI cz (q 3) 8 df, aI cz (q 4) 8 ag, aI ci (q 5) 8 mk, aI ci (q 6) 8 sc, aI ci (q 7) 12 nu, aI ci (q 8) 12 co, aI ci (q 9) 12 fi, aI ci (q 10) 12 ad, aI ci (q 11) 1800 it, aI ci (q 12) 8 sp, aI ci (q 13) 160 stk] := hD
  refine lv_aload_n hx hb dX9_item_5 rfl (lv_at hl 0 rfl) ?_
  refine va_get (D := G) (ci := 8) (v := .int (nI who)) (C := RX9) (T := TX9) (N := 30) hx hb hts hi_X9 hown hK hP 0 rfl rfl 12 (by decide) f_191 (fun _ h9 => h9) rfl dX9_item_6 ?_
  refine lv_if_eq (tgt := 48) hx hb dX9_item_9 (by decide) (fun c_1 => ?_) (fun c_1 => ?_)
  · skip
    have z_1 := (nI_eq (a := who) (b := 0) (by omega) (by omega)).mp c_1
    refine lv_aload_n hx hb dX9_item_48 rfl (lv_at hl 0 rfl) ?_
    refine lv_iconst (v := nI 1) hx hb dX9_item_49 (by decide) ?_
    refine jI (va_runV (As := [.int (nI 1)]) (rest := []) ⟨hx, hb, hml, hown, hts⟩ (c_X9_refuse l G ci cz cl q H.size (nI 1) (nI 0) n num den mag fac who fnd pc ic a sta lb la fo dee kc fl wd df ag mk sc nu co fi ad it sp stk ) (cwV 1 hts gX9_item_X9_refuse rfl rfl rfl (by decide +kernel) ⟨(Nat.le_of_ble_eq_true rfl), (Nat.le_of_ble_eq_true rfl)⟩) (pV (wc := [oM q (nI 0) n num den mag fac who fnd pc ic a sta lb la fo dee kc, aI ci (q 1) 600 fl, aI ci (q 2) 1024 wd, aI cz (q 3) 8 df, aI cz (q 4) 8 ag, aI ci (q 5) 8 mk, aI ci (q 6) 8 sc, aI ci (q 7) 12 nu, aI ci (q 8) 12 co, aI ci (q 9) 12 fi, aI ci (q 10) 12 ad, aI ci (q 11) 1800 it, aI ci (q 12) 8 sp, aI ci (q 13) 160 stk]) ok hK hP hD hS hA hO [0, 1, 2, 3, 4, 5, 6, 7, 8, 9, 10, 11, 12, 13] rfl (by decide) 0 rfl rfl) rfl rfl hl.1 rfl (lv_room (Nat.le_of_ble_eq_true rfl)) dX9_item_50 ⟨(Nat.le_of_ble_eq_true rfl), (Nat.le_of_ble_eq_true rfl)⟩) (wr := []) hP hD hS hA [0, 1, 2, 3, 4, 5, 6, 7, 8, 9, 10, 11, 12, 13] [] rfl rfl (by decide) (by decide) (fun r_2 u H locs hw_2 hP hD hS => ?_)
    try dsimp only at hw_2
    subst r_2
    have hP : va_P G vwCl [oM q (nI 1) n num den mag fac who fnd pc ic a sta lb la fo dee kc, aI ci (q 1) 600 fl, aI ci (q 2) 1024 wd, aI cz (q 3) 8 df, aI cz (q 4) 8 ag, aI ci (q 5) 8 mk, aI ci (q 6) 8 sc, aI ci (q 7) 12 nu, aI ci (q 8) 12 co, aI ci (q 9) 12 fi, aI ci (q 10) 12 ad, aI ci (q 11) 1800 it, aI ci (q 12) 8 sp, aI ci (q 13) 160 stk] H := hP
    have hD : va_D A [oM q (nI 1) n num den mag fac who fnd pc ic a sta lb la fo dee kc, aI ci (q 1) 600 fl, aI ci (q 2) 1024 wd, aI cz (q 3) 8 df, aI cz (q 4) 8 ag, aI ci (q 5) 8 mk, aI ci (q 6) 8 sc, aI ci (q 7) 12 nu, aI ci (q 8) 12 co, aI ci (q 9) 12 fi, aI ci (q 10) 12 ad, aI ci (q 11) 1800 it, aI ci (q 12) 8 sp, aI ci (q 13) 160 stk] := hD
    exact rI (v := nI 0) hx hb hr hlocks rfl hK hP hD hS [0, 1, 2, 3, 4, 5, 6, 7, 8, 9, 10, 11, 12, 13] (nI 1) rfl (by decide) trivial dX9_item_53
  · skip
    have z_1 := mt (nI_eq (a := who) (b := 0) (by omega) (by omega)).mpr c_1
    refine lv_iload_n hx hb dX9_item_12 rfl (lv_at hl 1 rfl) ?_
    refine lv_if_lt (tgt := 48) hx hb dX9_item_13 (by decide) (fun c_3 => ?_) (fun c_3 => ?_)
    · skip
      have z_3 := (i_lt x (nI 0)).mp c_3
      rw [nI_toInt (n := 0) (by omega)] at z_3
      refine lv_aload_n hx hb dX9_item_48 rfl (lv_at hl 0 rfl) ?_
      refine lv_iconst (v := nI 1) hx hb dX9_item_49 (by decide) ?_
      refine jI (va_runV (As := [.int (nI 1)]) (rest := []) ⟨hx, hb, hml, hown, hts⟩ (c_X9_refuse l G ci cz cl q H.size (nI 1) (nI 0) n num den mag fac who fnd pc ic a sta lb la fo dee kc fl wd df ag mk sc nu co fi ad it sp stk ) (cwV 1 hts gX9_item_X9_refuse rfl rfl rfl (by decide +kernel) ⟨(Nat.le_of_ble_eq_true rfl), (Nat.le_of_ble_eq_true rfl)⟩) (pV (wc := [oM q (nI 0) n num den mag fac who fnd pc ic a sta lb la fo dee kc, aI ci (q 1) 600 fl, aI ci (q 2) 1024 wd, aI cz (q 3) 8 df, aI cz (q 4) 8 ag, aI ci (q 5) 8 mk, aI ci (q 6) 8 sc, aI ci (q 7) 12 nu, aI ci (q 8) 12 co, aI ci (q 9) 12 fi, aI ci (q 10) 12 ad, aI ci (q 11) 1800 it, aI ci (q 12) 8 sp, aI ci (q 13) 160 stk]) ok hK hP hD hS hA hO [0, 1, 2, 3, 4, 5, 6, 7, 8, 9, 10, 11, 12, 13] rfl (by decide) 0 rfl rfl) rfl rfl hl.1 rfl (lv_room (Nat.le_of_ble_eq_true rfl)) dX9_item_50 ⟨(Nat.le_of_ble_eq_true rfl), (Nat.le_of_ble_eq_true rfl)⟩) (wr := []) hP hD hS hA [0, 1, 2, 3, 4, 5, 6, 7, 8, 9, 10, 11, 12, 13] [] rfl rfl (by decide) (by decide) (fun r_4 u H locs hw_4 hP hD hS => ?_)
      try dsimp only at hw_4
      subst r_4
      have hP : va_P G vwCl [oM q (nI 1) n num den mag fac who fnd pc ic a sta lb la fo dee kc, aI ci (q 1) 600 fl, aI ci (q 2) 1024 wd, aI cz (q 3) 8 df, aI cz (q 4) 8 ag, aI ci (q 5) 8 mk, aI ci (q 6) 8 sc, aI ci (q 7) 12 nu, aI ci (q 8) 12 co, aI ci (q 9) 12 fi, aI ci (q 10) 12 ad, aI ci (q 11) 1800 it, aI ci (q 12) 8 sp, aI ci (q 13) 160 stk] H := hP
      have hD : va_D A [oM q (nI 1) n num den mag fac who fnd pc ic a sta lb la fo dee kc, aI ci (q 1) 600 fl, aI ci (q 2) 1024 wd, aI cz (q 3) 8 df, aI cz (q 4) 8 ag, aI ci (q 5) 8 mk, aI ci (q 6) 8 sc, aI ci (q 7) 12 nu, aI ci (q 8) 12 co, aI ci (q 9) 12 fi, aI ci (q 10) 12 ad, aI ci (q 11) 1800 it, aI ci (q 12) 8 sp, aI ci (q 13) 160 stk] := hD
      exact rI (v := nI 0) hx hb hr hlocks rfl hK hP hD hS [0, 1, 2, 3, 4, 5, 6, 7, 8, 9, 10, 11, 12, 13] (nI 1) rfl (by decide) trivial dX9_item_53
    · skip
      have z_3 := mt (i_lt x (nI 0)).mpr c_3
      rw [nI_toInt (n := 0) (by omega)] at z_3
      refine lv_iload_n hx hb dX9_item_16 rfl (lv_at hl 1 rfl) ?_
      refine lv_aload_n hx hb dX9_item_17 rfl (lv_at hl 0 rfl) ?_
      refine va_get (D := G) (ci := 8) (v := .int (nI pc)) (C := RX9) (T := TX9) (N := 30) hx hb hts hi_X9 hown hK hP 0 rfl rfl 14 (by decide) f_95 (fun _ h9 => h9) rfl dX9_item_18 ?_
      refine lv_icmp_ge (tgt := 48) hx hb dX9_item_21 (by decide) (fun c_5 => ?_) (fun c_5 => ?_)
      · skip
        have z_5 := (i_le (nI pc) x).mp c_5
        rw [nI_toInt (n := pc) (by omega)] at z_5
        refine lv_aload_n hx hb dX9_item_48 rfl (lv_at hl 0 rfl) ?_
        refine lv_iconst (v := nI 1) hx hb dX9_item_49 (by decide) ?_
        refine jI (va_runV (As := [.int (nI 1)]) (rest := []) ⟨hx, hb, hml, hown, hts⟩ (c_X9_refuse l G ci cz cl q H.size (nI 1) (nI 0) n num den mag fac who fnd pc ic a sta lb la fo dee kc fl wd df ag mk sc nu co fi ad it sp stk ) (cwV 1 hts gX9_item_X9_refuse rfl rfl rfl (by decide +kernel) ⟨(Nat.le_of_ble_eq_true rfl), (Nat.le_of_ble_eq_true rfl)⟩) (pV (wc := [oM q (nI 0) n num den mag fac who fnd pc ic a sta lb la fo dee kc, aI ci (q 1) 600 fl, aI ci (q 2) 1024 wd, aI cz (q 3) 8 df, aI cz (q 4) 8 ag, aI ci (q 5) 8 mk, aI ci (q 6) 8 sc, aI ci (q 7) 12 nu, aI ci (q 8) 12 co, aI ci (q 9) 12 fi, aI ci (q 10) 12 ad, aI ci (q 11) 1800 it, aI ci (q 12) 8 sp, aI ci (q 13) 160 stk]) ok hK hP hD hS hA hO [0, 1, 2, 3, 4, 5, 6, 7, 8, 9, 10, 11, 12, 13] rfl (by decide) 0 rfl rfl) rfl rfl hl.1 rfl (lv_room (Nat.le_of_ble_eq_true rfl)) dX9_item_50 ⟨(Nat.le_of_ble_eq_true rfl), (Nat.le_of_ble_eq_true rfl)⟩) (wr := []) hP hD hS hA [0, 1, 2, 3, 4, 5, 6, 7, 8, 9, 10, 11, 12, 13] [] rfl rfl (by decide) (by decide) (fun r_6 u H locs hw_6 hP hD hS => ?_)
        try dsimp only at hw_6
        subst r_6
        have hP : va_P G vwCl [oM q (nI 1) n num den mag fac who fnd pc ic a sta lb la fo dee kc, aI ci (q 1) 600 fl, aI ci (q 2) 1024 wd, aI cz (q 3) 8 df, aI cz (q 4) 8 ag, aI ci (q 5) 8 mk, aI ci (q 6) 8 sc, aI ci (q 7) 12 nu, aI ci (q 8) 12 co, aI ci (q 9) 12 fi, aI ci (q 10) 12 ad, aI ci (q 11) 1800 it, aI ci (q 12) 8 sp, aI ci (q 13) 160 stk] H := hP
        have hD : va_D A [oM q (nI 1) n num den mag fac who fnd pc ic a sta lb la fo dee kc, aI ci (q 1) 600 fl, aI ci (q 2) 1024 wd, aI cz (q 3) 8 df, aI cz (q 4) 8 ag, aI ci (q 5) 8 mk, aI ci (q 6) 8 sc, aI ci (q 7) 12 nu, aI ci (q 8) 12 co, aI ci (q 9) 12 fi, aI ci (q 10) 12 ad, aI ci (q 11) 1800 it, aI ci (q 12) 8 sp, aI ci (q 13) 160 stk] := hD
        exact rI (v := nI 0) hx hb hr hlocks rfl hK hP hD hS [0, 1, 2, 3, 4, 5, 6, 7, 8, 9, 10, 11, 12, 13] (nI 1) rfl (by decide) trivial dX9_item_53
      · skip
        have z_5 := mt (i_le (nI pc) x).mpr c_5
        rw [nI_toInt (n := pc) (by omega)] at z_5
        refine lv_iload_n hx hb dX9_item_24 rfl (lv_at hl 2 rfl) ?_
        refine lv_if_lt (tgt := 48) hx hb dX9_item_25 (by decide) (fun c_7 => ?_) (fun c_7 => ?_)
        · skip
          have z_7 := (i_lt y (nI 0)).mp c_7
          rw [nI_toInt (n := 0) (by omega)] at z_7
          refine lv_aload_n hx hb dX9_item_48 rfl (lv_at hl 0 rfl) ?_
          refine lv_iconst (v := nI 1) hx hb dX9_item_49 (by decide) ?_
          refine jI (va_runV (As := [.int (nI 1)]) (rest := []) ⟨hx, hb, hml, hown, hts⟩ (c_X9_refuse l G ci cz cl q H.size (nI 1) (nI 0) n num den mag fac who fnd pc ic a sta lb la fo dee kc fl wd df ag mk sc nu co fi ad it sp stk ) (cwV 1 hts gX9_item_X9_refuse rfl rfl rfl (by decide +kernel) ⟨(Nat.le_of_ble_eq_true rfl), (Nat.le_of_ble_eq_true rfl)⟩) (pV (wc := [oM q (nI 0) n num den mag fac who fnd pc ic a sta lb la fo dee kc, aI ci (q 1) 600 fl, aI ci (q 2) 1024 wd, aI cz (q 3) 8 df, aI cz (q 4) 8 ag, aI ci (q 5) 8 mk, aI ci (q 6) 8 sc, aI ci (q 7) 12 nu, aI ci (q 8) 12 co, aI ci (q 9) 12 fi, aI ci (q 10) 12 ad, aI ci (q 11) 1800 it, aI ci (q 12) 8 sp, aI ci (q 13) 160 stk]) ok hK hP hD hS hA hO [0, 1, 2, 3, 4, 5, 6, 7, 8, 9, 10, 11, 12, 13] rfl (by decide) 0 rfl rfl) rfl rfl hl.1 rfl (lv_room (Nat.le_of_ble_eq_true rfl)) dX9_item_50 ⟨(Nat.le_of_ble_eq_true rfl), (Nat.le_of_ble_eq_true rfl)⟩) (wr := []) hP hD hS hA [0, 1, 2, 3, 4, 5, 6, 7, 8, 9, 10, 11, 12, 13] [] rfl rfl (by decide) (by decide) (fun r_8 u H locs hw_8 hP hD hS => ?_)
          try dsimp only at hw_8
          subst r_8
          have hP : va_P G vwCl [oM q (nI 1) n num den mag fac who fnd pc ic a sta lb la fo dee kc, aI ci (q 1) 600 fl, aI ci (q 2) 1024 wd, aI cz (q 3) 8 df, aI cz (q 4) 8 ag, aI ci (q 5) 8 mk, aI ci (q 6) 8 sc, aI ci (q 7) 12 nu, aI ci (q 8) 12 co, aI ci (q 9) 12 fi, aI ci (q 10) 12 ad, aI ci (q 11) 1800 it, aI ci (q 12) 8 sp, aI ci (q 13) 160 stk] H := hP
          have hD : va_D A [oM q (nI 1) n num den mag fac who fnd pc ic a sta lb la fo dee kc, aI ci (q 1) 600 fl, aI ci (q 2) 1024 wd, aI cz (q 3) 8 df, aI cz (q 4) 8 ag, aI ci (q 5) 8 mk, aI ci (q 6) 8 sc, aI ci (q 7) 12 nu, aI ci (q 8) 12 co, aI ci (q 9) 12 fi, aI ci (q 10) 12 ad, aI ci (q 11) 1800 it, aI ci (q 12) 8 sp, aI ci (q 13) 160 stk] := hD
          exact rI (v := nI 0) hx hb hr hlocks rfl hK hP hD hS [0, 1, 2, 3, 4, 5, 6, 7, 8, 9, 10, 11, 12, 13] (nI 1) rfl (by decide) trivial dX9_item_53
        · skip
          have z_7 := mt (i_lt y (nI 0)).mpr c_7
          rw [nI_toInt (n := 0) (by omega)] at z_7
          refine lv_iload_n hx hb dX9_item_28 rfl (lv_at hl 2 rfl) ?_
          refine lv_aload_n hx hb dX9_item_29 rfl (lv_at hl 0 rfl) ?_
          refine va_get (D := G) (ci := 8) (v := .ref (q 8)) (C := RX9) (T := TX9) (N := 30) hx hb hts hi_X9 hown hK hP 0 rfl rfl 16 (by decide) f_36 (fun _ h9 => h9) rfl dX9_item_30 ?_
          refine lv_iload_n hx hb dX9_item_33 rfl (lv_at hl 1 rfl) ?_
          obtain ⟨x9, hx3, hx2, hx4⟩ := i_nonneg (x := x) (by omega)
          obtain ⟨aa, bb, ha1, hb1, hab⟩ := hPI x9 (by omega)
          refine tp (y := nI x9) hx2 ?_
          refine va_iald hx hb hK hP 8 0 rfl rfl (vp_in_nI (by omega) (by omega)) dX9_item_34 ?_
          refine tp (y := co x9) (congrArg co (nI_clamp (by omega))) ?_
          refine tp (y := nI bb) hb1 ?_
          refine lv_icmp_ge (tgt := 48) hx hb dX9_item_35 (by decide) (fun c_9 => ?_) (fun c_9 => ?_)
          · skip
            have z_9 := (i_le (nI bb) y).mp c_9
            rw [nI_toInt (n := bb) (by omega)] at z_9
            refine lv_aload_n hx hb dX9_item_48 rfl (lv_at hl 0 rfl) ?_
            refine lv_iconst (v := nI 1) hx hb dX9_item_49 (by decide) ?_
            refine jI (va_runV (As := [.int (nI 1)]) (rest := []) ⟨hx, hb, hml, hown, hts⟩ (c_X9_refuse l G ci cz cl q H.size (nI 1) (nI 0) n num den mag fac who fnd pc ic a sta lb la fo dee kc fl wd df ag mk sc nu co fi ad it sp stk ) (cwV 1 hts gX9_item_X9_refuse rfl rfl rfl (by decide +kernel) ⟨(Nat.le_of_ble_eq_true rfl), (Nat.le_of_ble_eq_true rfl)⟩) (pV (wc := [oM q (nI 0) n num den mag fac who fnd pc ic a sta lb la fo dee kc, aI ci (q 1) 600 fl, aI ci (q 2) 1024 wd, aI cz (q 3) 8 df, aI cz (q 4) 8 ag, aI ci (q 5) 8 mk, aI ci (q 6) 8 sc, aI ci (q 7) 12 nu, aI ci (q 8) 12 co, aI ci (q 9) 12 fi, aI ci (q 10) 12 ad, aI ci (q 11) 1800 it, aI ci (q 12) 8 sp, aI ci (q 13) 160 stk]) ok hK hP hD hS hA hO [0, 1, 2, 3, 4, 5, 6, 7, 8, 9, 10, 11, 12, 13] rfl (by decide) 0 rfl rfl) rfl rfl hl.1 rfl (lv_room (Nat.le_of_ble_eq_true rfl)) dX9_item_50 ⟨(Nat.le_of_ble_eq_true rfl), (Nat.le_of_ble_eq_true rfl)⟩) (wr := []) hP hD hS hA [0, 1, 2, 3, 4, 5, 6, 7, 8, 9, 10, 11, 12, 13] [] rfl rfl (by decide) (by decide) (fun r_10 u H locs hw_10 hP hD hS => ?_)
            try dsimp only at hw_10
            subst r_10
            have hP : va_P G vwCl [oM q (nI 1) n num den mag fac who fnd pc ic a sta lb la fo dee kc, aI ci (q 1) 600 fl, aI ci (q 2) 1024 wd, aI cz (q 3) 8 df, aI cz (q 4) 8 ag, aI ci (q 5) 8 mk, aI ci (q 6) 8 sc, aI ci (q 7) 12 nu, aI ci (q 8) 12 co, aI ci (q 9) 12 fi, aI ci (q 10) 12 ad, aI ci (q 11) 1800 it, aI ci (q 12) 8 sp, aI ci (q 13) 160 stk] H := hP
            have hD : va_D A [oM q (nI 1) n num den mag fac who fnd pc ic a sta lb la fo dee kc, aI ci (q 1) 600 fl, aI ci (q 2) 1024 wd, aI cz (q 3) 8 df, aI cz (q 4) 8 ag, aI ci (q 5) 8 mk, aI ci (q 6) 8 sc, aI ci (q 7) 12 nu, aI ci (q 8) 12 co, aI ci (q 9) 12 fi, aI ci (q 10) 12 ad, aI ci (q 11) 1800 it, aI ci (q 12) 8 sp, aI ci (q 13) 160 stk] := hD
            exact rI (v := nI 0) hx hb hr hlocks rfl hK hP hD hS [0, 1, 2, 3, 4, 5, 6, 7, 8, 9, 10, 11, 12, 13] (nI 1) rfl (by decide) trivial dX9_item_53
          · skip
            have z_9 := mt (i_le (nI bb) y).mpr c_9
            rw [nI_toInt (n := bb) (by omega)] at z_9
            refine lv_iload_n hx hb dX9_item_38 rfl (lv_at hl 3 rfl) ?_
            refine lv_if_lt (tgt := 48) hx hb dX9_item_39 (by decide) (fun c_11 => ?_) (fun c_11 => ?_)
            · skip
              have z_11 := (i_lt z (nI 0)).mp c_11
              rw [nI_toInt (n := 0) (by omega)] at z_11
              refine lv_aload_n hx hb dX9_item_48 rfl (lv_at hl 0 rfl) ?_
              refine lv_iconst (v := nI 1) hx hb dX9_item_49 (by decide) ?_
              refine jI (va_runV (As := [.int (nI 1)]) (rest := []) ⟨hx, hb, hml, hown, hts⟩ (c_X9_refuse l G ci cz cl q H.size (nI 1) (nI 0) n num den mag fac who fnd pc ic a sta lb la fo dee kc fl wd df ag mk sc nu co fi ad it sp stk ) (cwV 1 hts gX9_item_X9_refuse rfl rfl rfl (by decide +kernel) ⟨(Nat.le_of_ble_eq_true rfl), (Nat.le_of_ble_eq_true rfl)⟩) (pV (wc := [oM q (nI 0) n num den mag fac who fnd pc ic a sta lb la fo dee kc, aI ci (q 1) 600 fl, aI ci (q 2) 1024 wd, aI cz (q 3) 8 df, aI cz (q 4) 8 ag, aI ci (q 5) 8 mk, aI ci (q 6) 8 sc, aI ci (q 7) 12 nu, aI ci (q 8) 12 co, aI ci (q 9) 12 fi, aI ci (q 10) 12 ad, aI ci (q 11) 1800 it, aI ci (q 12) 8 sp, aI ci (q 13) 160 stk]) ok hK hP hD hS hA hO [0, 1, 2, 3, 4, 5, 6, 7, 8, 9, 10, 11, 12, 13] rfl (by decide) 0 rfl rfl) rfl rfl hl.1 rfl (lv_room (Nat.le_of_ble_eq_true rfl)) dX9_item_50 ⟨(Nat.le_of_ble_eq_true rfl), (Nat.le_of_ble_eq_true rfl)⟩) (wr := []) hP hD hS hA [0, 1, 2, 3, 4, 5, 6, 7, 8, 9, 10, 11, 12, 13] [] rfl rfl (by decide) (by decide) (fun r_12 u H locs hw_12 hP hD hS => ?_)
              try dsimp only at hw_12
              subst r_12
              have hP : va_P G vwCl [oM q (nI 1) n num den mag fac who fnd pc ic a sta lb la fo dee kc, aI ci (q 1) 600 fl, aI ci (q 2) 1024 wd, aI cz (q 3) 8 df, aI cz (q 4) 8 ag, aI ci (q 5) 8 mk, aI ci (q 6) 8 sc, aI ci (q 7) 12 nu, aI ci (q 8) 12 co, aI ci (q 9) 12 fi, aI ci (q 10) 12 ad, aI ci (q 11) 1800 it, aI ci (q 12) 8 sp, aI ci (q 13) 160 stk] H := hP
              have hD : va_D A [oM q (nI 1) n num den mag fac who fnd pc ic a sta lb la fo dee kc, aI ci (q 1) 600 fl, aI ci (q 2) 1024 wd, aI cz (q 3) 8 df, aI cz (q 4) 8 ag, aI ci (q 5) 8 mk, aI ci (q 6) 8 sc, aI ci (q 7) 12 nu, aI ci (q 8) 12 co, aI ci (q 9) 12 fi, aI ci (q 10) 12 ad, aI ci (q 11) 1800 it, aI ci (q 12) 8 sp, aI ci (q 13) 160 stk] := hD
              exact rI (v := nI 0) hx hb hr hlocks rfl hK hP hD hS [0, 1, 2, 3, 4, 5, 6, 7, 8, 9, 10, 11, 12, 13] (nI 1) rfl (by decide) trivial dX9_item_53
            · skip
              have z_11 := mt (i_lt z (nI 0)).mpr c_11
              rw [nI_toInt (n := 0) (by omega)] at z_11
              refine lv_iload_n hx hb dX9_item_42 rfl (lv_at hl 3 rfl) ?_
              refine lv_bipush (v := nI 8) hx hb dX9_item_43 (by decide) ?_
              refine lv_icmp_le (tgt := 54) hx hb dX9_item_45 (by decide) (fun c_13 => ?_) (fun c_13 => ?_)
              · skip
                have z_13 := (i_le z (nI 8)).mp c_13
                rw [nI_toInt (n := 8) (by omega)] at z_13
                obtain ⟨y9, hy3, hy2, hy4⟩ := i_nonneg (x := y) (by omega)
                obtain ⟨z9, hz3, hz2, hz4⟩ := i_nonneg (x := z) (by omega)
                refine lv_aload_n hx hb dX9_item_54 rfl (lv_at hl 0 rfl) ?_
                refine va_get (D := G) (ci := 8) (v := .ref (q 11)) (C := RX9) (T := TX9) (N := 30) hx hb hts hi_X9 hown hK hP 0 rfl rfl 20 (by decide) f_45 (fun _ h9 => h9) rfl dX9_item_55 ?_
                refine lv_bipush (v := nI 9) hx hb dX9_item_58 (by decide) ?_
                refine lv_aload_n hx hb dX9_item_60 rfl (lv_at hl 0 rfl) ?_
                refine va_get (D := G) (ci := 8) (v := .ref (q 9)) (C := RX9) (T := TX9) (N := 30) hx hb hts hi_X9 hown hK hP 0 rfl rfl 17 (by decide) f_39 (fun _ h9 => h9) rfl dX9_item_61 ?_
                refine lv_iload_n hx hb dX9_item_64 rfl (lv_at hl 1 rfl) ?_
                refine tp (y := nI x9) hx2 ?_
                refine va_iald hx hb hK hP 9 0 rfl rfl (vp_in_nI (by omega) (by omega)) dX9_item_65 ?_
                refine tp (y := fi x9) (congrArg fi (nI_clamp (by omega))) ?_
                refine tp (y := nI aa) ha1 ?_
                refine lv_iload_n hx hb dX9_item_66 rfl (lv_at hl 2 rfl) ?_
                refine tp (y := nI y9) hy2 ?_
                refine lv_iadd hx hb dX9_item_67 ?_
                refine tp (nI_add _ _) ?_
                refine lv_imul hx hb dX9_item_68 ?_
                refine tp (pk_mul _ _) ?_
                refine lv_iload_n hx hb dX9_item_69 rfl (lv_at hl 3 rfl) ?_
                refine tp (y := nI z9) hz2 ?_
                refine lv_iadd hx hb dX9_item_70 ?_
                refine tp (nI_add _ _) ?_
                refine va_iald hx hb hK hP 11 0 rfl rfl (vp_in_nI (by omega) (by omega)) dX9_item_71 ?_
                refine tp (y := it ((9 * (aa + y9)) + z9)) (congrArg it (nI_clamp (by omega))) ?_
                exact rI (v := it ((9 * (aa + y9)) + z9)) hx hb hr hlocks rfl hK hP hD hS [0, 1, 2, 3, 4, 5, 6, 7, 8, 9, 10, 11, 12, 13] (nI 0) rfl (by decide) trivial dX9_item_72
              · skip
                have z_13 := mt (i_le z (nI 8)).mpr c_13
                rw [nI_toInt (n := 8) (by omega)] at z_13
                refine lv_aload_n hx hb dX9_item_48 rfl (lv_at hl 0 rfl) ?_
                refine lv_iconst (v := nI 1) hx hb dX9_item_49 (by decide) ?_
                refine jI (va_runV (As := [.int (nI 1)]) (rest := []) ⟨hx, hb, hml, hown, hts⟩ (c_X9_refuse l G ci cz cl q H.size (nI 1) (nI 0) n num den mag fac who fnd pc ic a sta lb la fo dee kc fl wd df ag mk sc nu co fi ad it sp stk ) (cwV 1 hts gX9_item_X9_refuse rfl rfl rfl (by decide +kernel) ⟨(Nat.le_of_ble_eq_true rfl), (Nat.le_of_ble_eq_true rfl)⟩) (pV (wc := [oM q (nI 0) n num den mag fac who fnd pc ic a sta lb la fo dee kc, aI ci (q 1) 600 fl, aI ci (q 2) 1024 wd, aI cz (q 3) 8 df, aI cz (q 4) 8 ag, aI ci (q 5) 8 mk, aI ci (q 6) 8 sc, aI ci (q 7) 12 nu, aI ci (q 8) 12 co, aI ci (q 9) 12 fi, aI ci (q 10) 12 ad, aI ci (q 11) 1800 it, aI ci (q 12) 8 sp, aI ci (q 13) 160 stk]) ok hK hP hD hS hA hO [0, 1, 2, 3, 4, 5, 6, 7, 8, 9, 10, 11, 12, 13] rfl (by decide) 0 rfl rfl) rfl rfl hl.1 rfl (lv_room (Nat.le_of_ble_eq_true rfl)) dX9_item_50 ⟨(Nat.le_of_ble_eq_true rfl), (Nat.le_of_ble_eq_true rfl)⟩) (wr := []) hP hD hS hA [0, 1, 2, 3, 4, 5, 6, 7, 8, 9, 10, 11, 12, 13] [] rfl rfl (by decide) (by decide) (fun r_14 u H locs hw_14 hP hD hS => ?_)
                try dsimp only at hw_14
                subst r_14
                have hP : va_P G vwCl [oM q (nI 1) n num den mag fac who fnd pc ic a sta lb la fo dee kc, aI ci (q 1) 600 fl, aI ci (q 2) 1024 wd, aI cz (q 3) 8 df, aI cz (q 4) 8 ag, aI ci (q 5) 8 mk, aI ci (q 6) 8 sc, aI ci (q 7) 12 nu, aI ci (q 8) 12 co, aI ci (q 9) 12 fi, aI ci (q 10) 12 ad, aI ci (q 11) 1800 it, aI ci (q 12) 8 sp, aI ci (q 13) 160 stk] H := hP
                have hD : va_D A [oM q (nI 1) n num den mag fac who fnd pc ic a sta lb la fo dee kc, aI ci (q 1) 600 fl, aI ci (q 2) 1024 wd, aI cz (q 3) 8 df, aI cz (q 4) 8 ag, aI ci (q 5) 8 mk, aI ci (q 6) 8 sc, aI ci (q 7) 12 nu, aI ci (q 8) 12 co, aI ci (q 9) 12 fi, aI ci (q 10) 12 ad, aI ci (q 11) 1800 it, aI ci (q 12) 8 sp, aI ci (q 13) 160 stk] := hD
                exact rI (v := nI 0) hx hb hr hlocks rfl hK hP hD hS [0, 1, 2, 3, 4, 5, 6, 7, 8, 9, 10, 11, 12, 13] (nI 1) rfl (by decide) trivial dX9_item_53
set_option maxHeartbeats 4000000 in
set_option maxRecDepth 100000 in
theorem c_X9_most (l : Launch) (G : va_G) (ci cz cl : ClassId) (q : Nat → Nat) (sz : Nat) (x : Int32) (ref : Int32) (n : Nat) (num : Nat) (den : Nat) (mag : Nat) (fac : UInt64) (who : Nat) (fnd : Int32) (pc : Nat) (ic : Nat) (a : Nat) (sta : Nat) (lb : Nat) (la : Nat) (fo : Int32) (dee : Nat) (kc : Nat) (fl : Nat → Int32) (wd : Nat → Int32) (df : Nat → Int32) (ag : Nat → Int32) (mk : Nat → Int32) (sc : Nat → Int32) (nu : Nat → Int32) (co : Nat → Int32) (fi : Nat → Int32) (ad : Nat → Int32) (it : Nat → Int32) (sp : Nat → Int32) (stk : Nat → Int32) (hic : ic ≤ 200) (hwh : who ≤ 1) : CtI l yX9_most wsX9_most ({ frames := 0, cells := 0, slots := 0, locals := 0 }) G (TY ci cz cl) O0 [.ref (q 0), .int x] [oM q ref n num den mag fac who fnd pc ic a sta lb la fo dee kc, aI ci (q 1) 600 fl, aI ci (q 2) 1024 wd, aI cz (q 3) 8 df, aI cz (q 4) 8 ag, aI ci (q 5) 8 mk, aI ci (q 6) 8 sc, aI ci (q 7) 12 nu, aI ci (q 8) 12 co, aI ci (q 9) 12 fi, aI ci (q 10) 12 ad, aI ci (q 11) 1800 it, aI ci (q 12) 8 sp, aI ci (q 13) 160 stk] sz (fun (r : Int32) (u : Unit) => MoM x r who ic it) (fun u : Unit => [oM q (nI 0) n num den mag fac who fnd pc ic a sta lb la fo dee kc, aI ci (q 1) 600 fl, aI ci (q 2) 1024 wd, aI cz (q 3) 8 df, aI cz (q 4) 8 ag, aI ci (q 5) 8 mk, aI ci (q 6) 8 sc, aI ci (q 7) 12 nu, aI ci (q 8) 12 co, aI ci (q 9) 12 fi, aI ci (q 10) 12 ad, aI ci (q 11) 1800 it, aI ci (q 12) 8 sp, aI ci (q 13) 160 stk]) 0 0 := by
  refine Met.ofW (cc := cX9_most) (maxL := 5) (ret := (some .int)) (by decide) rfl ?_
  intro p e s m args below meth c s₁ B hml hv
  obtain ⟨rfl, ⟨hsz, hP, hK, hD0⟩, hO⟩ := hv
  have hx := B.exec
  have hb := B.bytes
  have hr := B.returns
  have hts := atoms_spec (ws := wsX9_most) B.pre
  have hown : s.vm.findClass RX9 = some m.cls := findClass_of_methodNamed B.named
  have hlocks := B.notSynchronized
  subst hsz
  have hD := hD0.self (sz := s.heap.size)
  generalize hAe : va_A [oM q ref n num den mag fac who fnd pc ic a sta lb la fo dee kc, aI ci (q 1) 600 fl, aI ci (q 2) 1024 wd, aI cz (q 3) 8 df, aI cz (q 4) 8 ag, aI ci (q 5) 8 mk, aI ci (q 6) 8 sc, aI ci (q 7) 12 nu, aI ci (q 8) 12 co, aI ci (q 9) 12 fi, aI ci (q 10) 12 ad, aI ci (q 11) 1800 it, aI ci (q 12) 8 sp, aI ci (q 13) 160 stk] s.heap.size = A at hD hO ⊢
  have hA : ∀ q : Nat, s.heap.size ≤ q → A q := fun q h => by rw [← hAe]; exact Or.inr h
  have ok := ok0
  refine startH (A := A) (fun H locs hP hS => ?_) hP
  have hi_X9 := (by decide +kernel : ∀ w ∈ wsX90, w ∈ wsX9_most)
  have f_54 := hts (.fieldLink RX9 54 "PageReaderModel" "refusal" "I") (by decide +kernel)
  have f_191 := hts (.fieldLink RX9 191 "PageReaderModel" "whole" "Z") (by decide +kernel)
  have f_89 := hts (.fieldLink RX9 89 "PageReaderModel" "items" "I") (by decide +kernel)
  have f_45 := hts (.fieldLink RX9 45 "PageReaderModel" "item" "[I") (by decide +kernel)
  have hl := lv_entry ([.ref (q 0), .int x]) (n := 5) (Nat.le_of_ble_eq_true rfl)
  rw [lg_entry_eq]
  generalize (lg_sl ([.ref (q 0), .int x]) ++ List.replicate (5 - (lg_sl ([.ref (q 0), .int x])).length) Slot.unset).toArray = ls at hl ⊢
  have hl : lv_has ls 5 [(0, .ref (q 0)), (1, .int x)] := hl
  refine lv_aload_n hx hb dX9_most_0 rfl (lv_at hl 0 rfl) ?_
  refine lv_iconst (v := nI 0) hx hb dX9_most_1 (by decide) ?_
  refine va_put (D := G) (ci := 8) (v := .int (nI 0)) (ty := .int) (C := RX9) (T := TX9) (N := 30) hx hb hts hi_X9 tyX9 tyX9_ok nmX9 hown hK hP hD hS 0 rfl rfl 0 (by decide) f_54 (fun _ h9 => h9) rfl (by decide +kernel) rfl rfl (Nat.le_of_ble_eq_true rfl) dX9_most_2 (fun H locs hP hD hS => ?_)
  have hP : va_P G vwCl [oM q (nI 0) n num den mag fac who fnd pc ic a sta lb la fo dee kc, aI ci (q 1) 600 fl, aI ci (q 2) 1024 wd, aI cz (q 3) 8 df, aI cz (q 4) 8 ag, aI ci (q 5) 8 mk, aI ci (q 6) 8 sc, aI ci (q 7) 12 nu, aI ci (q 8) 12 co, aI ci (q 9) 12 fi, aI ci (q 10) 12 ad, aI ci (q 11) 1800 it, aI ci (q 12) 8 sp, aI ci (q 13) 160 stk] H := hP
  have hD : va_D A [oM q (nI 0) n num den mag fac who fnd pc ic a sta lb la fo dee kc, aI ci (q 1) 600 fl, aI ci (q 2) 1024 wd, aI cz (q 3) 8 df, aI cz (q 4) 8 ag, aI ci (q 5) 8 mk, aI ci (q 6) 8 sc, aI ci (q 7) 12 nu, aI ci (q 8) 12 co, aI ci (q 9) 12 fi, aI ci (q 10) 12 ad, aI ci (q 11) 1800 it, aI ci (q 12) 8 sp, aI ci (q 13) 160 stk] := hD
  refine lv_aload_n hx hb dX9_most_5 rfl (lv_at hl 0 rfl) ?_
  refine va_get (D := G) (ci := 8) (v := .int (nI who)) (C := RX9) (T := TX9) (N := 30) hx hb hts hi_X9 hown hK hP 0 rfl rfl 12 (by decide) f_191 (fun _ h9 => h9) rfl dX9_most_6 ?_
  refine lv_if_eq (tgt := 28) hx hb dX9_most_9 (by decide) (fun c_1 => ?_) (fun c_1 => ?_)
  · skip
    have z_1 := (nI_eq (a := who) (b := 0) (by omega) (by omega)).mp c_1
    refine lv_iconst (v := nI 0) hx hb dX9_most_28 (by decide) ?_
    exact rI (v := nI 0) hx hb hr hlocks rfl hK hP hD hS [0, 1, 2, 3, 4, 5, 6, 7, 8, 9, 10, 11, 12, 13] () rfl (by decide) (Or.inl ⟨rfl, by (try dsimp only); omega⟩) dX9_most_29
  · skip
    have z_1 := mt (nI_eq (a := who) (b := 0) (by omega) (by omega)).mpr c_1
    refine lv_aload_n hx hb dX9_most_12 rfl (lv_at hl 0 rfl) ?_
    refine va_get (D := G) (ci := 8) (v := .int (nI ic)) (C := RX9) (T := TX9) (N := 30) hx hb hts hi_X9 hown hK hP 0 rfl rfl 19 (by decide) f_89 (fun _ h9 => h9) rfl dX9_most_13 ?_
    refine lv_if_eq (tgt := 28) hx hb dX9_most_16 (by decide) (fun c_2 => ?_) (fun c_2 => ?_)
    · skip
      have z_2 := (nI_eq (a := ic) (b := 0) (by omega) (by omega)).mp c_2
      refine lv_iconst (v := nI 0) hx hb dX9_most_28 (by decide) ?_
      exact rI (v := nI 0) hx hb hr hlocks rfl hK hP hD hS [0, 1, 2, 3, 4, 5, 6, 7, 8, 9, 10, 11, 12, 13] () rfl (by decide) (Or.inl ⟨rfl, by (try dsimp only); omega⟩) dX9_most_29
    · skip
      have z_2 := mt (nI_eq (a := ic) (b := 0) (by omega) (by omega)).mpr c_2
      refine lv_iload_n hx hb dX9_most_19 rfl (lv_at hl 1 rfl) ?_
      refine lv_if_lt (tgt := 28) hx hb dX9_most_20 (by decide) (fun c_3 => ?_) (fun c_3 => ?_)
      · skip
        have z_3 := (i_lt x (nI 0)).mp c_3
        rw [nI_toInt (n := 0) (by omega)] at z_3
        refine lv_iconst (v := nI 0) hx hb dX9_most_28 (by decide) ?_
        exact rI (v := nI 0) hx hb hr hlocks rfl hK hP hD hS [0, 1, 2, 3, 4, 5, 6, 7, 8, 9, 10, 11, 12, 13] () rfl (by decide) (Or.inl ⟨rfl, by (try dsimp only); omega⟩) dX9_most_29
      · skip
        have z_3 := mt (i_lt x (nI 0)).mpr c_3
        rw [nI_toInt (n := 0) (by omega)] at z_3
        refine lv_iload_n hx hb dX9_most_23 rfl (lv_at hl 1 rfl) ?_
        refine lv_iconst (v := nI 3) hx hb dX9_most_24 (by decide) ?_
        refine lv_icmp_le (tgt := 30) hx hb dX9_most_25 (by decide) (fun c_4 => ?_) (fun c_4 => ?_)
        · skip
          have z_4 := (i_le x (nI 3)).mp c_4
          rw [nI_toInt (n := 3) (by omega)] at z_4
          obtain ⟨x9, hx1, hx2, hx3⟩ := i_nonneg (x := x) (by omega)
          refine lv_aload_n hx hb dX9_most_30 rfl (lv_at hl 0 rfl) ?_
          refine va_get (D := G) (ci := 8) (v := .ref (q 11)) (C := RX9) (T := TX9) (N := 30) hx hb hts hi_X9 hown hK hP 0 rfl rfl 20 (by decide) f_45 (fun _ h9 => h9) rfl dX9_most_31 ?_
          refine lv_iconst (v := nI 2) hx hb dX9_most_34 (by decide) ?_
          refine lv_iload_n hx hb dX9_most_35 rfl (lv_at hl 1 rfl) ?_
          refine tp (y := nI x9) hx2 ?_
          refine lv_iconst (v := nI 2) hx hb dX9_most_36 (by decide) ?_
          refine lv_irem hx hb dX9_most_37 (by decide) ?_
          refine tp (pk_rem (by omega) (by omega) (by omega)) ?_
          refine lv_iadd hx hb dX9_most_38 ?_
          refine tp (nI_add _ _) ?_
          refine va_iald hx hb hK hP 11 0 rfl rfl (vp_in_nI (by omega) (by omega)) dX9_most_39 ?_
          refine tp (y := it (2 + (x9 % 2))) (congrArg it (nI_clamp (by omega))) ?_
          refine lv_istore_n (lv' := [(2, .int (it (2 + (x9 % 2)))), (0, .ref (q 0)), (1, .int x)]) hx hb dX9_most_40 rfl hl (by decide) rfl (fun ls hl => ?_)
          refine lv_iconst (v := nI 0) hx hb dX9_most_41 (by decide) ?_
          refine lv_istore_n (lv' := [(3, .int (nI 0)), (2, .int (it (2 + (x9 % 2)))), (0, .ref (q 0)), (1, .int x)]) hx hb dX9_most_42 rfl hl (by decide) rfl (fun ls hl => ?_)
          have loop_43 : ∀ (fuel : Nat) (i : Nat) (H : Heap) (locs : List Loc), ic - i < fuel → (i ≤ ic) → va_P G vwCl [oM q (nI 0) n num den mag fac who fnd pc ic a sta lb la fo dee kc, aI ci (q 1) 600 fl, aI ci (q 2) 1024 wd, aI cz (q 3) 8 df, aI cz (q 4) 8 ag, aI ci (q 5) 8 mk, aI ci (q 6) 8 sc, aI ci (q 7) 12 nu, aI ci (q 8) 12 co, aI ci (q 9) 12 fi, aI ci (q 10) 12 ad, aI ci (q 11) 1800 it, aI ci (q 12) 8 sp, aI ci (q 13) 160 stk] H → va_D A [oM q (nI 0) n num den mag fac who fnd pc ic a sta lb la fo dee kc, aI ci (q 1) 600 fl, aI ci (q 2) 1024 wd, aI cz (q 3) 8 df, aI cz (q 4) 8 ag, aI ci (q 5) 8 mk, aI ci (q 6) 8 sc, aI ci (q 7) 12 nu, aI ci (q 8) 12 co, aI ci (q 9) 12 fi, aI ci (q 10) 12 ad, aI ci (q 11) 1800 it, aI ci (q 12) 8 sp, aI ci (q 13) 160 stk] → va_S A s.heap H locs → ∀ ls : Array Slot, lv_has ls 5 [(0, .ref (q 0)), (1, .int x), (2, .int (xM it x9 i)), (3, .int (nI i))] → W p l e (headSpec wsX9_most ({ frames := 0, cells := 0, slots := 0, locals := 0 })).room s m ([.ref (q 0), .int x] : List Value).toArray below meth c H locs 0 0 (MQ below (va_Qi (fun (r : Int32) (u : Unit) => MoM x r who ic it) (fun u t => PQ G (TY ci cz cl) A [oM q (nI 0) n num den mag fac who fnd pc ic a sta lb la fo dee kc, aI ci (q 1) 600 fl, aI ci (q 2) 1024 wd, aI cz (q 3) 8 df, aI cz (q 4) 8 ag, aI ci (q 5) 8 mk, aI ci (q 6) 8 sc, aI ci (q 7) 12 nu, aI ci (q 8) 12 co, aI ci (q 9) 12 fi, aI ci (q 10) 12 ad, aI ci (q 11) 1800 it, aI ci (q 12) 8 sp, aI ci (q 13) 160 stk] t) A) ([.ref (q 0), .int x] : List Value).toArray s 0 0 A) (F0 m 43 ls []) := by
            intro fuel
            induction fuel with
            | zero => intro i H locs hf; exact absurd hf (by omega)
            | succ fuel ih =>
              intro i H locs hf hi hP hD hS ls hl
              refine lv_iload_n hx hb dX9_most_43 rfl (lv_at hl 3 rfl) ?_
              refine lv_aload_n hx hb dX9_most_44 rfl (lv_at hl 0 rfl) ?_
              refine va_get (D := G) (ci := 8) (v := .int (nI ic)) (C := RX9) (T := TX9) (N := 30) hx hb hts hi_X9 hown hK hP 0 rfl rfl 19 (by decide) f_89 (fun _ h9 => h9) rfl dX9_most_45 ?_
              refine lv_icmp_ge (tgt := 107) hx hb dX9_most_48 (by decide) (fun c_5 => ?_) (fun c_5 => ?_)
              · skip
                have z_5 := (nI_leI (a := ic) (b := i) (by omega) (by omega)).mp c_5
                refine lv_iload_n hx hb dX9_most_107 rfl (lv_at hl 2 rfl) ?_
                exact rI (v := xM it x9 i) hx hb hr hlocks rfl hK hP hD hS [0, 1, 2, 3, 4, 5, 6, 7, 8, 9, 10, 11, 12, 13] () rfl (by decide) (Or.inr ⟨by (try dsimp only); omega, by (try dsimp only); omega, x9, by (try dsimp only); omega, hx2, congrArg (xM it x9) (show i = ic by (try dsimp only); omega)⟩) dX9_most_108
              · skip
                have z_5 := mt (nI_leI (a := ic) (b := i) (by omega) (by omega)).mpr c_5
                refine lv_aload_n hx hb dX9_most_51 rfl (lv_at hl 0 rfl) ?_
                refine va_get (D := G) (ci := 8) (v := .ref (q 11)) (C := RX9) (T := TX9) (N := 30) hx hb hts hi_X9 hown hK hP 0 rfl rfl 20 (by decide) f_45 (fun _ h9 => h9) rfl dX9_most_52 ?_
                refine lv_bipush (v := nI 9) hx hb dX9_most_55 (by decide) ?_
                refine lv_iload_n hx hb dX9_most_57 rfl (lv_at hl 3 rfl) ?_
                refine lv_imul hx hb dX9_most_58 ?_
                refine tp (pk_mul _ _) ?_
                refine lv_iconst (v := nI 2) hx hb dX9_most_59 (by decide) ?_
                refine lv_iadd hx hb dX9_most_60 ?_
                refine tp (nI_add _ _) ?_
                refine lv_iload_n hx hb dX9_most_61 rfl (lv_at hl 1 rfl) ?_
                refine tp (y := nI x9) hx2 ?_
                refine lv_iconst (v := nI 2) hx hb dX9_most_62 (by decide) ?_
                refine lv_irem hx hb dX9_most_63 (by decide) ?_
                refine tp (pk_rem (by omega) (by omega) (by omega)) ?_
                refine lv_iadd hx hb dX9_most_64 ?_
                refine tp (nI_add _ _) ?_
                refine va_iald hx hb hK hP 11 0 rfl rfl (vp_in_nI (by omega) (by omega)) dX9_most_65 ?_
                refine tp (y := it (((9 * i) + 2) + (x9 % 2))) (congrArg it (nI_clamp (by omega))) ?_
                refine lv_istore (lv' := [(4, .int (it (((9 * i) + 2) + (x9 % 2)))), (0, .ref (q 0)), (1, .int x), (2, .int (xM it x9 i)), (3, .int (nI i))]) hx hb dX9_most_66 hl (by decide) rfl (fun ls hl => ?_)
                refine lv_iload_n hx hb dX9_most_68 rfl (lv_at hl 2 rfl) ?_
                refine lv_iconst (v := nI 2) hx hb dX9_most_69 (by decide) ?_
                refine lv_icmp_ge (tgt := 88) hx hb dX9_most_70 (by decide) (fun c_6 => ?_) (fun c_6 => ?_)
                · skip
                  have z_6 := (i_le (nI 2) x).mp c_6
                  rw [nI_toInt (n := 2) (by omega)] at z_6
                  refine lv_iload hx hb dX9_most_88 (lv_at hl 0 rfl) ?_
                  refine lv_iload_n hx hb dX9_most_90 rfl (lv_at hl 3 rfl) ?_
                  refine lv_icmp_ge (tgt := 99) hx hb dX9_most_91 (by decide) (fun c_7 => ?_) (fun c_7 => ?_)
                  · skip
                    refine lv_iload_n hx hb dX9_most_99 rfl (lv_at hl 3 rfl) ?_
                    refine tp (y := xM it x9 (i + 1)) (by first | exact xM_a (by omega) (by assumption) | exact xM_b (by omega) (by assumption) | exact xM_c (by omega) (by assumption) | exact xM_d (by omega) (by assumption)) ?_
                    refine lv_istore_n (lv' := [(2, .int (xM it x9 (i + 1))), (4, .int (it (((9 * i) + 2) + (x9 % 2)))), (0, .ref (q 0)), (1, .int x), (3, .int (nI i))]) hx hb dX9_most_100 rfl hl (by decide) rfl (fun ls hl => ?_)
                    refine lv_iinc (v := nI (i + 1)) (lv' := [(3, .int (nI (i + 1))), (2, .int (xM it x9 (i + 1))), (4, .int (it (((9 * i) + 2) + (x9 % 2)))), (0, .ref (q 0)), (1, .int x)]) hx hb dX9_most_101 hl (k := 4) rfl (nI_add _ _) (by decide) rfl (fun ls hl => ?_)
                    refine lv_goto (tgt := 43) hx hb dX9_most_104 (by decide) ?_
                    exact ih (i + 1) H locs (by omega) (by omega) (hP.sub [0, 1, 2, 3, 4, 5, 6, 7, 8, 9, 10, 11, 12, 13] rfl) (hD.sub [0, 1, 2, 3, 4, 5, 6, 7, 8, 9, 10, 11, 12, 13] (by decide) rfl) hS ls (lv_sub hl [3, 4, 1, 0] rfl)
                  · skip
                    refine lv_iload hx hb dX9_most_94 (lv_at hl 0 rfl) ?_
                    refine lv_goto (tgt := 100) hx hb dX9_most_96 (by decide) ?_
                    refine tp (y := xM it x9 (i + 1)) (by first | exact xM_a (by omega) (by assumption) | exact xM_b (by omega) (by assumption) | exact xM_c (by omega) (by assumption) | exact xM_d (by omega) (by assumption)) ?_
                    refine lv_istore_n (lv' := [(2, .int (xM it x9 (i + 1))), (4, .int (it (((9 * i) + 2) + (x9 % 2)))), (0, .ref (q 0)), (1, .int x), (3, .int (nI i))]) hx hb dX9_most_100 rfl hl (by decide) rfl (fun ls hl => ?_)
                    refine lv_iinc (v := nI (i + 1)) (lv' := [(3, .int (nI (i + 1))), (2, .int (xM it x9 (i + 1))), (4, .int (it (((9 * i) + 2) + (x9 % 2)))), (0, .ref (q 0)), (1, .int x)]) hx hb dX9_most_101 hl (k := 4) rfl (nI_add _ _) (by decide) rfl (fun ls hl => ?_)
                    refine lv_goto (tgt := 43) hx hb dX9_most_104 (by decide) ?_
                    exact ih (i + 1) H locs (by omega) (by omega) (hP.sub [0, 1, 2, 3, 4, 5, 6, 7, 8, 9, 10, 11, 12, 13] rfl) (hD.sub [0, 1, 2, 3, 4, 5, 6, 7, 8, 9, 10, 11, 12, 13] (by decide) rfl) hS ls (lv_sub hl [3, 4, 1, 0] rfl)
                · skip
                  have z_6 := mt (i_le (nI 2) x).mpr c_6
                  rw [nI_toInt (n := 2) (by omega)] at z_6
                  refine lv_iload hx hb dX9_most_73 (lv_at hl 0 rfl) ?_
                  refine lv_iload_n hx hb dX9_most_75 rfl (lv_at hl 3 rfl) ?_
                  refine lv_icmp_le (tgt := 84) hx hb dX9_most_76 (by decide) (fun c_8 => ?_) (fun c_8 => ?_)
                  · skip
                    refine lv_iload_n hx hb dX9_most_84 rfl (lv_at hl 3 rfl) ?_
                    refine lv_goto (tgt := 100) hx hb dX9_most_85 (by decide) ?_
                    refine tp (y := xM it x9 (i + 1)) (by first | exact xM_a (by omega) (by assumption) | exact xM_b (by omega) (by assumption) | exact xM_c (by omega) (by assumption) | exact xM_d (by omega) (by assumption)) ?_
                    refine lv_istore_n (lv' := [(2, .int (xM it x9 (i + 1))), (4, .int (it (((9 * i) + 2) + (x9 % 2)))), (0, .ref (q 0)), (1, .int x), (3, .int (nI i))]) hx hb dX9_most_100 rfl hl (by decide) rfl (fun ls hl => ?_)
                    refine lv_iinc (v := nI (i + 1)) (lv' := [(3, .int (nI (i + 1))), (2, .int (xM it x9 (i + 1))), (4, .int (it (((9 * i) + 2) + (x9 % 2)))), (0, .ref (q 0)), (1, .int x)]) hx hb dX9_most_101 hl (k := 4) rfl (nI_add _ _) (by decide) rfl (fun ls hl => ?_)
                    refine lv_goto (tgt := 43) hx hb dX9_most_104 (by decide) ?_
                    exact ih (i + 1) H locs (by omega) (by omega) (hP.sub [0, 1, 2, 3, 4, 5, 6, 7, 8, 9, 10, 11, 12, 13] rfl) (hD.sub [0, 1, 2, 3, 4, 5, 6, 7, 8, 9, 10, 11, 12, 13] (by decide) rfl) hS ls (lv_sub hl [3, 4, 1, 0] rfl)
                  · skip
                    refine lv_iload hx hb dX9_most_79 (lv_at hl 0 rfl) ?_
                    refine lv_goto (tgt := 100) hx hb dX9_most_81 (by decide) ?_
                    refine tp (y := xM it x9 (i + 1)) (by first | exact xM_a (by omega) (by assumption) | exact xM_b (by omega) (by assumption) | exact xM_c (by omega) (by assumption) | exact xM_d (by omega) (by assumption)) ?_
                    refine lv_istore_n (lv' := [(2, .int (xM it x9 (i + 1))), (4, .int (it (((9 * i) + 2) + (x9 % 2)))), (0, .ref (q 0)), (1, .int x), (3, .int (nI i))]) hx hb dX9_most_100 rfl hl (by decide) rfl (fun ls hl => ?_)
                    refine lv_iinc (v := nI (i + 1)) (lv' := [(3, .int (nI (i + 1))), (2, .int (xM it x9 (i + 1))), (4, .int (it (((9 * i) + 2) + (x9 % 2)))), (0, .ref (q 0)), (1, .int x)]) hx hb dX9_most_101 hl (k := 4) rfl (nI_add _ _) (by decide) rfl (fun ls hl => ?_)
                    refine lv_goto (tgt := 43) hx hb dX9_most_104 (by decide) ?_
                    exact ih (i + 1) H locs (by omega) (by omega) (hP.sub [0, 1, 2, 3, 4, 5, 6, 7, 8, 9, 10, 11, 12, 13] rfl) (hD.sub [0, 1, 2, 3, 4, 5, 6, 7, 8, 9, 10, 11, 12, 13] (by decide) rfl) hS ls (lv_sub hl [3, 4, 1, 0] rfl)
          exact loop_43 (ic - 0 + 1) 0 H locs (Nat.lt_succ_self _) (by omega) (hP.sub [0, 1, 2, 3, 4, 5, 6, 7, 8, 9, 10, 11, 12, 13] rfl) (hD.sub [0, 1, 2, 3, 4, 5, 6, 7, 8, 9, 10, 11, 12, 13] (by decide) rfl) hS ls (lv_sub hl [2, 3, 1, 0] rfl)
        · skip
          have z_4 := mt (i_le x (nI 3)).mpr c_4
          rw [nI_toInt (n := 3) (by omega)] at z_4
          refine lv_iconst (v := nI 0) hx hb dX9_most_28 (by decide) ?_
          exact rI (v := nI 0) hx hb hr hlocks rfl hK hP hD hS [0, 1, 2, 3, 4, 5, 6, 7, 8, 9, 10, 11, 12, 13] () rfl (by decide) (Or.inl ⟨rfl, by (try dsimp only); omega⟩) dX9_most_29
