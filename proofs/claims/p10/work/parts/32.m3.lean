set_option maxHeartbeats 4000000 in
set_option maxRecDepth 100000 in
theorem c_X9_character (l : Launch) (G : va_G) (ci cz cl : ClassId) (q : Nat → Nat) (sz : Nat) (k : Nat) (kk : Nat) (ref : Int32) (n : Nat) (num : Nat) (den : Nat) (mag : Nat) (fac : UInt64) (who : Nat) (fnd : Int32) (pc : Nat) (ic : Nat) (a : Nat) (sta : Nat) (lb : Nat) (la : Nat) (fo : Int32) (dee : Nat) (kc : Nat) (fl : Nat → Int32) (wd : Nat → Int32) (df : Nat → Int32) (ag : Nat → Int32) (mk : Nat → Int32) (sc : Nat → Int32) (nu : Nat → Int32) (co : Nat → Int32) (fi : Nat → Int32) (ad : Nat → Int32) (it : Nat → Int32) (sp : Nat → Int32) (stk : Nat → Int32) (hn : n ≤ 600) (hB : FB fl) (hk : k ≤ 255) (hkk : kk ≤ 1) (hp1 : 1 ≤ pc) (hM : MK kc pc ic fi co fac fo sta lb la dee num den mag) : CtI l yX9_character wsX9_character ({ frames := 3, cells := 0, slots := 0, locals := 68 }) G (TY ci cz cl) O0 [.ref (q 0), .int (nI k), .int (nI kk)] [oM q ref n num den mag fac who fnd pc ic a sta lb la fo dee kc, aI ci (q 1) 600 fl, aI ci (q 2) 1024 wd, aI cz (q 3) 8 df, aI cz (q 4) 8 ag, aI ci (q 5) 8 mk, aI ci (q 6) 8 sc, aI ci (q 7) 12 nu, aI ci (q 8) 12 co, aI ci (q 9) 12 fi, aI ci (q 10) 12 ad, aI ci (q 11) 1800 it, aI ci (q 12) 8 sp, aI ci (q 13) 160 stk] sz (fun (r : Int32) (u : Nat × Nat × (Nat → Int32) × (Nat → Int32) × (Nat → Int32)) => r = nI u.1 ∧ u.1 ≤ 1 ∧ RChar wd pc ic co it fo sp k kk u.1 u.2.1 u.2.2.1 u.2.2.2.1 u.2.2.2.2 ∧ u.2.1 ≤ 200 ∧ PI pc u.2.1 fi u.2.2.1) (fun u : Nat × Nat × (Nat → Int32) × (Nat → Int32) × (Nat → Int32) => [oM q ref n num den mag fac who fnd pc u.2.1 a sta lb la fo dee kc, aI ci (q 1) 600 fl, aI ci (q 2) 1024 wd, aI cz (q 3) 8 df, aI cz (q 4) 8 ag, aI ci (q 5) 8 mk, aI ci (q 6) 8 sc, aI ci (q 7) 12 nu, aI ci (q 8) 12 u.2.2.1, aI ci (q 9) 12 fi, aI ci (q 10) 12 ad, aI ci (q 11) 1800 u.2.2.2.1, aI ci (q 12) 8 u.2.2.2.2, aI ci (q 13) 160 stk]) 0 0 := by
  refine Met.ofW (cc := cX9_character) (maxL := 4) (ret := (some .boolean)) (by decide) rfl ?_
  intro p e s m args below meth c s₁ B hml hv
  obtain ⟨rfl, ⟨hsz, hP, hK, hD0⟩, hO⟩ := hv
  have hx := B.exec
  have hb := B.bytes
  have hr := B.returns
  have hts := atoms_spec (ws := wsX9_character) B.pre
  have hown : s.vm.findClass RX9 = some m.cls := findClass_of_methodNamed B.named
  have hlocks := B.notSynchronized
  subst hsz
  have hD := hD0.self (sz := s.heap.size)
  generalize hAe : va_A [oM q ref n num den mag fac who fnd pc ic a sta lb la fo dee kc, aI ci (q 1) 600 fl, aI ci (q 2) 1024 wd, aI cz (q 3) 8 df, aI cz (q 4) 8 ag, aI ci (q 5) 8 mk, aI ci (q 6) 8 sc, aI ci (q 7) 12 nu, aI ci (q 8) 12 co, aI ci (q 9) 12 fi, aI ci (q 10) 12 ad, aI ci (q 11) 1800 it, aI ci (q 12) 8 sp, aI ci (q 13) 160 stk] s.heap.size = A at hD hO ⊢
  have hA : ∀ q : Nat, s.heap.size ≤ q → A q := fun q h => by rw [← hAe]; exact Or.inr h
  have ok := ok0
  refine startH (A := A) (fun H locs hP hS => ?_) hP
  have hi_X9 := (by decide +kernel : ∀ w ∈ wsX90, w ∈ wsX9_character)
  have f_82 := hts (.fieldLink RX9 82 "PageReaderModel" "font" "I") (by decide +kernel)
  have f_13 := hts (.fieldLink RX9 13 "PageReaderModel" "widths" "[I") (by decide +kernel)
  have hl := lv_entry ([.ref (q 0), .int (nI k), .int (nI kk)]) (n := 4) (Nat.le_of_ble_eq_true rfl)
  rw [lg_entry_eq]
  generalize (lg_sl ([.ref (q 0), .int (nI k), .int (nI kk)]) ++ List.replicate (4 - (lg_sl ([.ref (q 0), .int (nI k), .int (nI kk)])).length) Slot.unset).toArray = ls at hl ⊢
  have hl : lv_has ls 4 [(0, .ref (q 0)), (1, .int (nI k)), (2, .int (nI kk))] := hl
  obtain ⟨hkc, hpc, hic, hPI, hf, hFO, hst, hbd⟩ := hM
  refine lv_aload_n hx hb dX9_character_0 rfl (lv_at hl 0 rfl) ?_
  refine va_get (D := G) (ci := 8) (v := .int fo) (C := RX9) (T := TX9) (N := 30) hx hb hts hi_X9 hown hK hP 0 rfl rfl 25 (by decide) f_82 (fun _ h9 => h9) rfl dX9_character_1 ?_
  refine lv_if_lt (tgt := 26) hx hb dX9_character_4 (by decide) (fun c_1 => ?_) (fun c_1 => ?_)
  · skip
    have z_1 := (i_lt fo (nI 0)).mp c_1
    rw [nI_toInt (n := 0) (by omega)] at z_1
    refine lv_iconst (v := nI 0) hx hb dX9_character_26 (by decide) ?_
    exact rI (v := nI 0) hx hb hr hlocks nb0 hK hP hD hS [0, 1, 2, 3, 4, 5, 6, 7, 8, 9, 10, 11, 12, 13] (0, ic, co, it, sp) rfl (by decide) ⟨rfl, by (try dsimp only); omega, by first | exact Or.inr ⟨rfl, Or.inl (by (try dsimp only); omega)⟩ | exact Or.inr ⟨rfl, Or.inr (Or.inr (FO_neg hFO (by (try dsimp only); omega)))⟩, by (try dsimp only); omega, by assumption⟩ dX9_character_27
  · skip
    have z_1 := mt (i_lt fo (nI 0)).mpr c_1
    rw [nI_toInt (n := 0) (by omega)] at z_1
    refine lv_iload_n hx hb dX9_character_7 rfl (lv_at hl 1 rfl) ?_
    refine lv_bipush (v := nI 127) hx hb dX9_character_8 (by decide) ?_
    refine lv_icmp_gt (tgt := 26) hx hb dX9_character_10 (by decide) (fun c_2 => ?_) (fun c_2 => ?_)
    · skip
      have z_2 := (nI_ltI (a := 127) (b := k) (by omega) (by omega)).mp c_2
      refine lv_iconst (v := nI 0) hx hb dX9_character_26 (by decide) ?_
      exact rI (v := nI 0) hx hb hr hlocks nb0 hK hP hD hS [0, 1, 2, 3, 4, 5, 6, 7, 8, 9, 10, 11, 12, 13] (0, ic, co, it, sp) rfl (by decide) ⟨rfl, by (try dsimp only); omega, by first | exact Or.inr ⟨rfl, Or.inl (by (try dsimp only); omega)⟩ | exact Or.inr ⟨rfl, Or.inr (Or.inr (FO_neg hFO (by (try dsimp only); omega)))⟩, by (try dsimp only); omega, by assumption⟩ dX9_character_27
    · skip
      have z_2 := mt (nI_ltI (a := 127) (b := k) (by omega) (by omega)).mpr c_2
      refine lv_aload_n hx hb dX9_character_13 rfl (lv_at hl 0 rfl) ?_
      refine lv_iload_n hx hb dX9_character_14 rfl (lv_at hl 1 rfl) ?_
      refine lv_aload_n hx hb dX9_character_15 rfl (lv_at hl 0 rfl) ?_
      refine va_get (D := G) (ci := 8) (v := .int fo) (C := RX9) (T := TX9) (N := 30) hx hb hts hi_X9 hown hK hP 0 rfl rfl 25 (by decide) f_82 (fun _ h9 => h9) rfl dX9_character_16 ?_
      refine lv_iconst (v := nI 0) hx hb dX9_character_19 (by decide) ?_
      refine jI (va_runV (As := [.int (nI k), .int fo, .int (nI 0)]) (rest := []) ⟨hx, hb, hml, hown, hts⟩ (c_X9_put l G ci cz cl q H.size (nI k) fo (nI 0) ref n num den mag fac who fnd pc ic a sta lb la fo dee kc fl wd df ag mk sc nu co fi ad it sp stk (by omega) (by omega) (by assumption) (by assumption) (by omega)) (cwV 3 hts gX9_character_X9_put rfl rfl rfl (by decide +kernel) ⟨(Nat.le_of_ble_eq_true rfl), (Nat.le_of_ble_eq_true rfl)⟩) (pV (wc := [oM q ref n num den mag fac who fnd pc ic a sta lb la fo dee kc, aI ci (q 1) 600 fl, aI ci (q 2) 1024 wd, aI cz (q 3) 8 df, aI cz (q 4) 8 ag, aI ci (q 5) 8 mk, aI ci (q 6) 8 sc, aI ci (q 7) 12 nu, aI ci (q 8) 12 co, aI ci (q 9) 12 fi, aI ci (q 10) 12 ad, aI ci (q 11) 1800 it, aI ci (q 12) 8 sp, aI ci (q 13) 160 stk]) ok hK hP hD hS hA hO [0, 1, 2, 3, 4, 5, 6, 7, 8, 9, 10, 11, 12, 13] rfl (by decide) 0 rfl rfl) rfl rfl hl.1 rfl (lv_room (Nat.le_of_ble_eq_true rfl)) dX9_character_20 ⟨(Nat.le_of_ble_eq_true rfl), (Nat.le_of_ble_eq_true rfl)⟩) (wr := []) hP hD hS hA [0, 1, 2, 3, 4, 5, 6, 7, 8, 9, 10, 11, 12, 13] [] rfl rfl (by decide) (by decide) (fun r_3 u H locs hw_3 hP hD hS => ?_)
      obtain ⟨bo_3, ic2_3, co2_3, it2_3⟩ := u
      try dsimp only at hw_3
      obtain ⟨rfl, h_3, P_3⟩ := hw_3
      rcases h_3 with ⟨rfl, rfl, rfl, a_3, b_3⟩ | ⟨rfl, rfl, rfl, rfl, a_3⟩
      · skip
        have hP : va_P G vwCl [oM q ref n num den mag fac who fnd pc (ic + 1) a sta lb la fo dee kc, aI ci (q 1) 600 fl, aI ci (q 2) 1024 wd, aI cz (q 3) 8 df, aI cz (q 4) 8 ag, aI ci (q 5) 8 mk, aI ci (q 6) 8 sc, aI ci (q 7) 12 nu, aI ci (q 8) 12 (upd co (pc - 1) (co (pc - 1) + nI 1)), aI ci (q 9) 12 fi, aI ci (q 10) 12 ad, aI ci (q 11) 1800 it2_3, aI ci (q 12) 8 sp, aI ci (q 13) 160 stk] H := hP
        have hD : va_D A [oM q ref n num den mag fac who fnd pc (ic + 1) a sta lb la fo dee kc, aI ci (q 1) 600 fl, aI ci (q 2) 1024 wd, aI cz (q 3) 8 df, aI cz (q 4) 8 ag, aI ci (q 5) 8 mk, aI ci (q 6) 8 sc, aI ci (q 7) 12 nu, aI ci (q 8) 12 (upd co (pc - 1) (co (pc - 1) + nI 1)), aI ci (q 9) 12 fi, aI ci (q 10) 12 ad, aI ci (q 11) 1800 it2_3, aI ci (q 12) 8 sp, aI ci (q 13) 160 stk] := hD
        refine lv_if_ne (tgt := 28) hx hb dX9_character_23 (by decide) (fun _ => ?_) (fun c => absurd c (by decide))
        obtain ⟨f9, hf1, hf2⟩ := FO_pos hFO (by omega)
        refine lv_aload_n hx hb dX9_character_28 rfl (lv_at hl 0 rfl) ?_
        refine va_get (D := G) (ci := 8) (v := .ref (q 2)) (C := RX9) (T := TX9) (N := 30) hx hb hts hi_X9 hown hK hP 0 rfl rfl 3 (by decide) f_13 (fun _ h9 => h9) rfl dX9_character_29 ?_
        refine lv_sipush (v := nI 128) hx hb dX9_character_32 (by decide) ?_
        refine lv_aload_n hx hb dX9_character_35 rfl (lv_at hl 0 rfl) ?_
        refine va_get (D := G) (ci := 8) (v := .int fo) (C := RX9) (T := TX9) (N := 30) hx hb hts hi_X9 hown hK hP 0 rfl rfl 25 (by decide) f_82 (fun _ h9 => h9) rfl dX9_character_36 ?_
        refine tp (y := nI f9) hf2 ?_
        refine lv_imul hx hb dX9_character_39 ?_
        refine tp (pk_mul _ _) ?_
        refine lv_iload_n hx hb dX9_character_40 rfl (lv_at hl 1 rfl) ?_
        refine lv_iadd hx hb dX9_character_41 ?_
        refine tp (nI_add _ _) ?_
        refine va_iald hx hb hK hP 2 0 rfl rfl (vp_in_nI (by omega) (by omega)) dX9_character_42 ?_
        refine tp (y := wd ((128 * f9) + k)) (congrArg wd (nI_clamp (by omega))) ?_
        refine lv_istore_n (lv' := [(3, .int (wd ((128 * f9) + k))), (0, .ref (q 0)), (1, .int (nI k)), (2, .int (nI kk))]) hx hb dX9_character_43 rfl hl (by decide) rfl (fun ls hl => ?_)
        refine lv_iload_n hx hb dX9_character_44 rfl (lv_at hl 3 rfl) ?_
        refine lv_if_eq (tgt := 58) hx hb dX9_character_45 (by decide) (fun c_4 => ?_) (fun c_4 => ?_)
        · skip
          have z_4 := (nI_eq (a := kk) (b := 0) (by omega) (by omega)).mp c_4
          refine lv_iconst (v := nI 1) hx hb dX9_character_58 (by decide) ?_
          exact rI (v := nI 1) hx hb hr hlocks nb1 hK hP hD hS [0, 1, 2, 3, 4, 5, 6, 7, 8, 9, 10, 11, 12, 13] (1, (ic + 1), (upd co (pc - 1) (co (pc - 1) + nI 1)), it2_3, sp) rfl (by decide) ⟨rfl, by (try dsimp only); omega, Or.inl ⟨rfl, by (try dsimp only); omega, a_3, ⟨f9, hf1, hf2, Or.inl ⟨by (try dsimp only); omega, rfl⟩⟩, rfl, rfl, b_3⟩, by (try dsimp only); omega, P_3⟩ dX9_character_59
        · skip
          have z_4 := mt (nI_eq (a := kk) (b := 0) (by omega) (by omega)).mpr c_4
          refine lv_aload_n hx hb dX9_character_48 rfl (lv_at hl 1 rfl) ?_
          refine lv_iload_n hx hb dX9_character_49 rfl (lv_at hl 0 rfl) ?_
          refine lv_aload_n hx hb dX9_character_50 rfl (lv_at hl 1 rfl) ?_
          refine lv_iload_n hx hb dX9_character_51 rfl (lv_at hl 0 rfl) ?_
          refine jI (va_runV (As := [.int (wd ((128 * f9) + k))]) (rest := [.int (wd ((128 * f9) + k)), .ref (q 0)]) ⟨hx, hb, hml, hown, hts⟩ (c_X9_rounded l G ci cz cl q H.size (wd ((128 * f9) + k)) ref n num den mag fac who fnd pc (ic + 1) a sta lb la fo dee kc fl wd df ag mk sc nu (upd co (pc - 1) (co (pc - 1) + nI 1)) fi ad it2_3 sp stk (by assumption)) (cwV 1 hts gX9_character_X9_rounded rfl rfl rfl (by decide +kernel) ⟨(Nat.le_of_ble_eq_true rfl), (Nat.le_of_ble_eq_true rfl)⟩) (pV (wc := [oM q ref n num den mag fac who fnd pc (ic + 1) a sta lb la fo dee kc, aI ci (q 1) 600 fl, aI ci (q 2) 1024 wd, aI cz (q 3) 8 df, aI cz (q 4) 8 ag, aI ci (q 5) 8 mk, aI ci (q 6) 8 sc, aI ci (q 7) 12 nu, aI ci (q 8) 12 (upd co (pc - 1) (co (pc - 1) + nI 1)), aI ci (q 9) 12 fi, aI ci (q 10) 12 ad, aI ci (q 11) 1800 it2_3, aI ci (q 12) 8 sp, aI ci (q 13) 160 stk]) ok hK hP hD hS hA hO [0, 1, 2, 3, 4, 5, 6, 7, 8, 9, 10, 11, 12, 13] rfl (by decide) 0 rfl rfl) rfl rfl hl.1 rfl (lv_room (Nat.le_of_ble_eq_true rfl)) dX9_character_52 ⟨(Nat.le_of_ble_eq_true rfl), (Nat.le_of_ble_eq_true rfl)⟩) (wr := []) hP hD hS hA [0, 1, 2, 3, 4, 5, 6, 7, 8, 9, 10, 11, 12, 13] [] rfl rfl (by decide) (by decide) (fun r_5 u H locs hw_5 hP hD hS => ?_)
          try dsimp only at hw_5
          have hP : va_P G vwCl [oM q ref n num den mag fac who fnd pc (ic + 1) a sta lb la fo dee kc, aI ci (q 1) 600 fl, aI ci (q 2) 1024 wd, aI cz (q 3) 8 df, aI cz (q 4) 8 ag, aI ci (q 5) 8 mk, aI ci (q 6) 8 sc, aI ci (q 7) 12 nu, aI ci (q 8) 12 (upd co (pc - 1) (co (pc - 1) + nI 1)), aI ci (q 9) 12 fi, aI ci (q 10) 12 ad, aI ci (q 11) 1800 it2_3, aI ci (q 12) 8 sp, aI ci (q 13) 160 stk] H := hP
          have hD : va_D A [oM q ref n num den mag fac who fnd pc (ic + 1) a sta lb la fo dee kc, aI ci (q 1) 600 fl, aI ci (q 2) 1024 wd, aI cz (q 3) 8 df, aI cz (q 4) 8 ag, aI ci (q 5) 8 mk, aI ci (q 6) 8 sc, aI ci (q 7) 12 nu, aI ci (q 8) 12 (upd co (pc - 1) (co (pc - 1) + nI 1)), aI ci (q 9) 12 fi, aI ci (q 10) 12 ad, aI ci (q 11) 1800 it2_3, aI ci (q 12) 8 sp, aI ci (q 13) 160 stk] := hD
          refine jV (va_runV (As := [.int (wd ((128 * f9) + k)), .int r_5]) (rest := []) ⟨hx, hb, hml, hown, hts⟩ (c_X9_goOn l G ci cz cl q H.size (wd ((128 * f9) + k)) r_5 ref n num den mag fac who fnd pc (ic + 1) a sta lb la fo dee kc fl wd df ag mk sc nu (upd co (pc - 1) (co (pc - 1) + nI 1)) fi ad it2_3 sp stk (by assumption)) (cwV 2 hts gX9_character_X9_goOn rfl rfl rfl (by decide +kernel) ⟨(Nat.le_of_ble_eq_true rfl), (Nat.le_of_ble_eq_true rfl)⟩) (pV (wc := [oM q ref n num den mag fac who fnd pc (ic + 1) a sta lb la fo dee kc, aI ci (q 1) 600 fl, aI ci (q 2) 1024 wd, aI cz (q 3) 8 df, aI cz (q 4) 8 ag, aI ci (q 5) 8 mk, aI ci (q 6) 8 sc, aI ci (q 7) 12 nu, aI ci (q 8) 12 (upd co (pc - 1) (co (pc - 1) + nI 1)), aI ci (q 9) 12 fi, aI ci (q 10) 12 ad, aI ci (q 11) 1800 it2_3, aI ci (q 12) 8 sp, aI ci (q 13) 160 stk]) ok hK hP hD hS hA hO [0, 1, 2, 3, 4, 5, 6, 7, 8, 9, 10, 11, 12, 13] rfl (by decide) 0 rfl rfl) rfl rfl hl.1 rfl (lv_room (Nat.le_of_ble_eq_true rfl)) dX9_character_55 ⟨(Nat.le_of_ble_eq_true rfl), (Nat.le_of_ble_eq_true rfl)⟩) (wr := []) hP hD hS hA [0, 1, 2, 3, 4, 5, 6, 7, 8, 9, 10, 11, 12, 13] [] rfl rfl (by decide) (by decide) (fun u H locs hw_6 hP hD hS => ?_)
          obtain ⟨sp2_6, rfl⟩ : ∃ z, z = u := ⟨_, rfl⟩
          try dsimp only at hw_6
          have h_6 := hw_6
          have hP : va_P G vwCl [oM q ref n num den mag fac who fnd pc (ic + 1) a sta lb la fo dee kc, aI ci (q 1) 600 fl, aI ci (q 2) 1024 wd, aI cz (q 3) 8 df, aI cz (q 4) 8 ag, aI ci (q 5) 8 mk, aI ci (q 6) 8 sc, aI ci (q 7) 12 nu, aI ci (q 8) 12 (upd co (pc - 1) (co (pc - 1) + nI 1)), aI ci (q 9) 12 fi, aI ci (q 10) 12 ad, aI ci (q 11) 1800 it2_3, aI ci (q 12) 8 sp2_6, aI ci (q 13) 160 stk] H := hP
          have hD : va_D A [oM q ref n num den mag fac who fnd pc (ic + 1) a sta lb la fo dee kc, aI ci (q 1) 600 fl, aI ci (q 2) 1024 wd, aI cz (q 3) 8 df, aI cz (q 4) 8 ag, aI ci (q 5) 8 mk, aI ci (q 6) 8 sc, aI ci (q 7) 12 nu, aI ci (q 8) 12 (upd co (pc - 1) (co (pc - 1) + nI 1)), aI ci (q 9) 12 fi, aI ci (q 10) 12 ad, aI ci (q 11) 1800 it2_3, aI ci (q 12) 8 sp2_6, aI ci (q 13) 160 stk] := hD
          refine lv_iconst (v := nI 1) hx hb dX9_character_58 (by decide) ?_
          exact rI (v := nI 1) hx hb hr hlocks nb1 hK hP hD hS [0, 1, 2, 3, 4, 5, 6, 7, 8, 9, 10, 11, 12, 13] (1, (ic + 1), (upd co (pc - 1) (co (pc - 1) + nI 1)), it2_3, sp2_6) rfl (by decide) ⟨rfl, by (try dsimp only); omega, Or.inl ⟨rfl, by (try dsimp only); omega, a_3, ⟨f9, hf1, hf2, Or.inr ⟨by (try dsimp only); omega, h_6⟩⟩, rfl, rfl, b_3⟩, by (try dsimp only); omega, P_3⟩ dX9_character_59
      · skip
        have hP : va_P G vwCl [oM q ref n num den mag fac who fnd pc ic a sta lb la fo dee kc, aI ci (q 1) 600 fl, aI ci (q 2) 1024 wd, aI cz (q 3) 8 df, aI cz (q 4) 8 ag, aI ci (q 5) 8 mk, aI ci (q 6) 8 sc, aI ci (q 7) 12 nu, aI ci (q 8) 12 co, aI ci (q 9) 12 fi, aI ci (q 10) 12 ad, aI ci (q 11) 1800 it, aI ci (q 12) 8 sp, aI ci (q 13) 160 stk] H := hP
        have hD : va_D A [oM q ref n num den mag fac who fnd pc ic a sta lb la fo dee kc, aI ci (q 1) 600 fl, aI ci (q 2) 1024 wd, aI cz (q 3) 8 df, aI cz (q 4) 8 ag, aI ci (q 5) 8 mk, aI ci (q 6) 8 sc, aI ci (q 7) 12 nu, aI ci (q 8) 12 co, aI ci (q 9) 12 fi, aI ci (q 10) 12 ad, aI ci (q 11) 1800 it, aI ci (q 12) 8 sp, aI ci (q 13) 160 stk] := hD
        refine lv_if_ne (tgt := 28) hx hb dX9_character_23 (by decide) (fun c => absurd c (by decide)) (fun _ => ?_)
        refine lv_iconst (v := nI 0) hx hb dX9_character_26 (by decide) ?_
        exact rI (v := nI 0) hx hb hr hlocks nb0 hK hP hD hS [0, 1, 2, 3, 4, 5, 6, 7, 8, 9, 10, 11, 12, 13] (0, ic, co, it, sp) rfl (by decide) ⟨rfl, by (try dsimp only); omega, by first | exact Or.inr ⟨rfl, Or.inl (by (try dsimp only); omega)⟩ | exact Or.inr ⟨rfl, Or.inr (Or.inl a_3)⟩ | exact Or.inr ⟨rfl, Or.inr (Or.inr (FO_neg hFO (by (try dsimp only); omega)))⟩, by (try dsimp only); omega, by assumption⟩ dX9_character_27
set_option maxHeartbeats 4000000 in
set_option maxRecDepth 100000 in
theorem c_X9_rule (l : Launch) (G : va_G) (ci cz cl : ClassId) (q : Nat → Nat) (sz : Nat) (kk : Nat) (ref : Int32) (n : Nat) (num : Nat) (den : Nat) (mag : Nat) (fac : UInt64) (who : Nat) (fnd : Int32) (pc : Nat) (ic : Nat) (a : Nat) (sta : Nat) (lb : Nat) (la : Nat) (fo : Int32) (dee : Nat) (kc : Nat) (fl : Nat → Int32) (wd : Nat → Int32) (df : Nat → Int32) (ag : Nat → Int32) (mk : Nat → Int32) (sc : Nat → Int32) (nu : Nat → Int32) (co : Nat → Int32) (fi : Nat → Int32) (ad : Nat → Int32) (it : Nat → Int32) (sp : Nat → Int32) (stk : Nat → Int32) (hn : n ≤ 600) (hB : FB fl) (ha : a + 5 ≤ n) (hkk : kk ≤ 1) (hp1 : 1 ≤ pc) (hM : MK kc pc ic fi co fac fo sta lb la dee num den mag) : CtI l yX9_rule wsX9_rule ({ frames := 3, cells := 0, slots := 0, locals := 68 }) G (TY ci cz cl) O0 [.ref (q 0), .int (nI kk)] [oM q ref n num den mag fac who fnd pc ic a sta lb la fo dee kc, aI ci (q 1) 600 fl, aI ci (q 2) 1024 wd, aI cz (q 3) 8 df, aI cz (q 4) 8 ag, aI ci (q 5) 8 mk, aI ci (q 6) 8 sc, aI ci (q 7) 12 nu, aI ci (q 8) 12 co, aI ci (q 9) 12 fi, aI ci (q 10) 12 ad, aI ci (q 11) 1800 it, aI ci (q 12) 8 sp, aI ci (q 13) 160 stk] sz (fun (r : Int32) (u : Nat × Nat × (Nat → Int32) × (Nat → Int32) × (Nat → Int32)) => r = nI u.1 ∧ u.1 ≤ 1 ∧ RRule fl n a pc ic co it sp kk u.1 u.2.1 u.2.2.1 u.2.2.2.1 u.2.2.2.2 ∧ u.2.1 ≤ 200 ∧ PI pc u.2.1 fi u.2.2.1) (fun u : Nat × Nat × (Nat → Int32) × (Nat → Int32) × (Nat → Int32) => [oM q ref n num den mag fac who fnd pc u.2.1 a sta lb la fo dee kc, aI ci (q 1) 600 fl, aI ci (q 2) 1024 wd, aI cz (q 3) 8 df, aI cz (q 4) 8 ag, aI ci (q 5) 8 mk, aI ci (q 6) 8 sc, aI ci (q 7) 12 nu, aI ci (q 8) 12 u.2.2.1, aI ci (q 9) 12 fi, aI ci (q 10) 12 ad, aI ci (q 11) 1800 u.2.2.2.1, aI ci (q 12) 8 u.2.2.2.2, aI ci (q 13) 160 stk]) 0 0 := by
  refine Met.ofW (cc := cX9_rule) (maxL := 4) (ret := (some .boolean)) (by decide) rfl ?_
  intro p e s m args below meth c s₁ B hml hv
  obtain ⟨rfl, ⟨hsz, hP, hK, hD0⟩, hO⟩ := hv
  have hx := B.exec
  have hb := B.bytes
  have hr := B.returns
  have hts := atoms_spec (ws := wsX9_rule) B.pre
  have hown : s.vm.findClass RX9 = some m.cls := findClass_of_methodNamed B.named
  have hlocks := B.notSynchronized
  subst hsz
  have hD := hD0.self (sz := s.heap.size)
  generalize hAe : va_A [oM q ref n num den mag fac who fnd pc ic a sta lb la fo dee kc, aI ci (q 1) 600 fl, aI ci (q 2) 1024 wd, aI cz (q 3) 8 df, aI cz (q 4) 8 ag, aI ci (q 5) 8 mk, aI ci (q 6) 8 sc, aI ci (q 7) 12 nu, aI ci (q 8) 12 co, aI ci (q 9) 12 fi, aI ci (q 10) 12 ad, aI ci (q 11) 1800 it, aI ci (q 12) 8 sp, aI ci (q 13) 160 stk] s.heap.size = A at hD hO ⊢
  have hA : ∀ q : Nat, s.heap.size ≤ q → A q := fun q h => by rw [← hAe]; exact Or.inr h
  have ok := ok0
  refine startH (A := A) (fun H locs hP hS => ?_) hP
  have hi_X9 := (by decide +kernel : ∀ w ∈ wsX90, w ∈ wsX9_rule)
  have f_105 := hts (.fieldLink RX9 105 "PageReaderModel" "at" "I") (by decide +kernel)
  have hl := lv_entry ([.ref (q 0), .int (nI kk)]) (n := 4) (Nat.le_of_ble_eq_true rfl)
  rw [lg_entry_eq]
  generalize (lg_sl ([.ref (q 0), .int (nI kk)]) ++ List.replicate (4 - (lg_sl ([.ref (q 0), .int (nI kk)])).length) Slot.unset).toArray = ls at hl ⊢
  have hl : lv_has ls 4 [(0, .ref (q 0)), (1, .int (nI kk))] := hl
  obtain ⟨hkc, hpc, hic, hPI, hf, hFO, hst, hbd⟩ := hM
  refine lv_aload_n hx hb dX9_rule_0 rfl (lv_at hl 0 rfl) ?_
  refine lv_aload_n hx hb dX9_rule_1 rfl (lv_at hl 0 rfl) ?_
  refine va_get (D := G) (ci := 8) (v := .int (nI a)) (C := RX9) (T := TX9) (N := 30) hx hb hts hi_X9 hown hK hP 0 rfl rfl 21 (by decide) f_105 (fun _ h9 => h9) rfl dX9_rule_2 ?_
  refine lv_iconst (v := nI 1) hx hb dX9_rule_5 (by decide) ?_
  refine lv_iadd hx hb dX9_rule_6 ?_
  refine tp (nI_add _ _) ?_
  refine lv_iconst (v := nI 2) hx hb dX9_rule_7 (by decide) ?_
  refine jI (va_runV (As := [.int (nI (a + 1)), .int (nI 2)]) (rest := []) ⟨hx, hb, hml, hown, hts⟩ (c_X9_signedAt l G ci cz cl q H.size (a + 1) 2 ref n num den mag fac who fnd pc ic a sta lb la fo dee kc fl wd df ag mk sc nu co fi ad it sp stk (by omega) hB (by omega) (by omega)) (cwV 2 hts gX9_rule_X9_signedAt rfl rfl rfl (by decide +kernel) ⟨(Nat.le_of_ble_eq_true rfl), (Nat.le_of_ble_eq_true rfl)⟩) (pV (wc := [oM q ref n num den mag fac who fnd pc ic a sta lb la fo dee kc, aI ci (q 1) 600 fl, aI ci (q 2) 1024 wd, aI cz (q 3) 8 df, aI cz (q 4) 8 ag, aI ci (q 5) 8 mk, aI ci (q 6) 8 sc, aI ci (q 7) 12 nu, aI ci (q 8) 12 co, aI ci (q 9) 12 fi, aI ci (q 10) 12 ad, aI ci (q 11) 1800 it, aI ci (q 12) 8 sp, aI ci (q 13) 160 stk]) ok hK hP hD hS hA hO [0, 1, 2, 3, 4, 5, 6, 7, 8, 9, 10, 11, 12, 13] rfl (by decide) 0 rfl rfl) rfl rfl hl.1 rfl (lv_room (Nat.le_of_ble_eq_true rfl)) dX9_rule_8 ⟨(Nat.le_of_ble_eq_true rfl), (Nat.le_of_ble_eq_true rfl)⟩) (wr := []) hP hD hS hA [0, 1, 2, 3, 4, 5, 6, 7, 8, 9, 10, 11, 12, 13] [] rfl rfl (by decide) (by decide) (fun r_1 u H locs hw_1 hP hD hS => ?_)
  try dsimp only at hw_1
  obtain rfl := hw_1
  have hP : va_P G vwCl [oM q ref n num den mag fac who fnd pc ic a sta lb la fo dee kc, aI ci (q 1) 600 fl, aI ci (q 2) 1024 wd, aI cz (q 3) 8 df, aI cz (q 4) 8 ag, aI ci (q 5) 8 mk, aI ci (q 6) 8 sc, aI ci (q 7) 12 nu, aI ci (q 8) 12 co, aI ci (q 9) 12 fi, aI ci (q 10) 12 ad, aI ci (q 11) 1800 it, aI ci (q 12) 8 sp, aI ci (q 13) 160 stk] H := hP
  have hD : va_D A [oM q ref n num den mag fac who fnd pc ic a sta lb la fo dee kc, aI ci (q 1) 600 fl, aI ci (q 2) 1024 wd, aI cz (q 3) 8 df, aI cz (q 4) 8 ag, aI ci (q 5) 8 mk, aI ci (q 6) 8 sc, aI ci (q 7) 12 nu, aI ci (q 8) 12 co, aI ci (q 9) 12 fi, aI ci (q 10) 12 ad, aI ci (q 11) 1800 it, aI ci (q 12) 8 sp, aI ci (q 13) 160 stk] := hD
  refine lv_istore_n (lv' := [(2, .int (rdS fl n (a + 1) 2)), (0, .ref (q 0)), (1, .int (nI kk))]) hx hb dX9_rule_11 rfl hl (by decide) rfl (fun ls hl => ?_)
  refine lv_aload_n hx hb dX9_rule_12 rfl (lv_at hl 1 rfl) ?_
  refine lv_aload_n hx hb dX9_rule_13 rfl (lv_at hl 1 rfl) ?_
  refine va_get (D := G) (ci := 8) (v := .int (nI a)) (C := RX9) (T := TX9) (N := 30) hx hb hts hi_X9 hown hK hP 0 rfl rfl 21 (by decide) f_105 (fun _ h9 => h9) rfl dX9_rule_14 ?_
  refine lv_iconst (v := nI 3) hx hb dX9_rule_17 (by decide) ?_
  refine lv_iadd hx hb dX9_rule_18 ?_
  refine tp (nI_add _ _) ?_
  refine lv_iconst (v := nI 2) hx hb dX9_rule_19 (by decide) ?_
  refine jI (va_runV (As := [.int (nI (a + 3)), .int (nI 2)]) (rest := []) ⟨hx, hb, hml, hown, hts⟩ (c_X9_signedAt l G ci cz cl q H.size (a + 3) 2 ref n num den mag fac who fnd pc ic a sta lb la fo dee kc fl wd df ag mk sc nu co fi ad it sp stk (by omega) hB (by omega) (by omega)) (cwV 2 hts gX9_rule_X9_signedAt rfl rfl rfl (by decide +kernel) ⟨(Nat.le_of_ble_eq_true rfl), (Nat.le_of_ble_eq_true rfl)⟩) (pV (wc := [oM q ref n num den mag fac who fnd pc ic a sta lb la fo dee kc, aI ci (q 1) 600 fl, aI ci (q 2) 1024 wd, aI cz (q 3) 8 df, aI cz (q 4) 8 ag, aI ci (q 5) 8 mk, aI ci (q 6) 8 sc, aI ci (q 7) 12 nu, aI ci (q 8) 12 co, aI ci (q 9) 12 fi, aI ci (q 10) 12 ad, aI ci (q 11) 1800 it, aI ci (q 12) 8 sp, aI ci (q 13) 160 stk]) ok hK hP hD hS hA hO [0, 1, 2, 3, 4, 5, 6, 7, 8, 9, 10, 11, 12, 13] rfl (by decide) 0 rfl rfl) rfl rfl hl.1 rfl (lv_room (Nat.le_of_ble_eq_true rfl)) dX9_rule_20 ⟨(Nat.le_of_ble_eq_true rfl), (Nat.le_of_ble_eq_true rfl)⟩) (wr := []) hP hD hS hA [0, 1, 2, 3, 4, 5, 6, 7, 8, 9, 10, 11, 12, 13] [] rfl rfl (by decide) (by decide) (fun r_2 u H locs hw_2 hP hD hS => ?_)
  try dsimp only at hw_2
  obtain rfl := hw_2
  have hP : va_P G vwCl [oM q ref n num den mag fac who fnd pc ic a sta lb la fo dee kc, aI ci (q 1) 600 fl, aI ci (q 2) 1024 wd, aI cz (q 3) 8 df, aI cz (q 4) 8 ag, aI ci (q 5) 8 mk, aI ci (q 6) 8 sc, aI ci (q 7) 12 nu, aI ci (q 8) 12 co, aI ci (q 9) 12 fi, aI ci (q 10) 12 ad, aI ci (q 11) 1800 it, aI ci (q 12) 8 sp, aI ci (q 13) 160 stk] H := hP
  have hD : va_D A [oM q ref n num den mag fac who fnd pc ic a sta lb la fo dee kc, aI ci (q 1) 600 fl, aI ci (q 2) 1024 wd, aI cz (q 3) 8 df, aI cz (q 4) 8 ag, aI ci (q 5) 8 mk, aI ci (q 6) 8 sc, aI ci (q 7) 12 nu, aI ci (q 8) 12 co, aI ci (q 9) 12 fi, aI ci (q 10) 12 ad, aI ci (q 11) 1800 it, aI ci (q 12) 8 sp, aI ci (q 13) 160 stk] := hD
  refine lv_istore_n (lv' := [(3, .int (rdS fl n (a + 3) 2)), (2, .int (rdS fl n (a + 1) 2)), (0, .ref (q 0)), (1, .int (nI kk))]) hx hb dX9_rule_23 rfl hl (by decide) rfl (fun ls hl => ?_)
  refine lv_iload_n hx hb dX9_rule_24 rfl (lv_at hl 1 rfl) ?_
  refine lv_if_le (tgt := 46) hx hb dX9_rule_25 (by decide) (fun c_3 => ?_) (fun c_3 => ?_)
  · skip
    have z_3 := (i_le (rdS fl n (a + 1) 2) (nI 0)).mp c_3
    rw [nI_toInt (n := 0) (by omega)] at z_3
    refine lv_iload_n hx hb dX9_rule_46 rfl (lv_at hl 3 rfl) ?_
    refine lv_if_eq (tgt := 72) hx hb dX9_rule_47 (by decide) (fun c_4 => ?_) (fun c_4 => ?_)
    · skip
      have z_4 := (nI_eq (a := kk) (b := 0) (by omega) (by omega)).mp c_4
      refine lv_iconst (v := nI 1) hx hb dX9_rule_72 (by decide) ?_
      exact rI (v := nI 1) hx hb hr hlocks nb1 hK hP hD hS [0, 1, 2, 3, 4, 5, 6, 7, 8, 9, 10, 11, 12, 13] (1, ic, co, it, sp) rfl (by decide) ⟨rfl, by (try dsimp only); omega, Or.inl ⟨rfl, Or.inl ⟨by (try dsimp only); omega, rfl⟩, Or.inr ⟨by (try dsimp only); omega, rfl, rfl, rfl⟩⟩, by (try dsimp only); omega, hPI⟩ dX9_rule_73
    · skip
      have z_4 := mt (nI_eq (a := kk) (b := 0) (by omega) (by omega)).mpr c_4
      refine lv_aload_n hx hb dX9_rule_50 rfl (lv_at hl 2 rfl) ?_
      refine lv_iload_n hx hb dX9_rule_51 rfl (lv_at hl 0 rfl) ?_
      refine lv_iload_n hx hb dX9_rule_52 rfl (lv_at hl 0 rfl) ?_
      refine lv_if_le (tgt := 64) hx hb dX9_rule_53 (by decide) (fun c_5 => ?_) (fun c_5 => ?_)
      · skip
        have z_5 := (i_le (rdS fl n (a + 3) 2) (nI 0)).mp c_5
        rw [nI_toInt (n := 0) (by omega)] at z_5
        refine lv_aload_n hx hb dX9_rule_64 rfl (lv_at hl 2 rfl) ?_
        refine lv_iload_n hx hb dX9_rule_65 rfl (lv_at hl 0 rfl) ?_
        refine jI (va_runV (As := [.int (rdS fl n (a + 3) 2)]) (rest := [.int (rdS fl n (a + 3) 2), .ref (q 0)]) ⟨hx, hb, hml, hown, hts⟩ (c_X9_rounded l G ci cz cl q H.size (rdS fl n (a + 3) 2) ref n num den mag fac who fnd pc ic a sta lb la fo dee kc fl wd df ag mk sc nu co fi ad it sp stk (by assumption)) (cwV 1 hts gX9_rule_X9_rounded rfl rfl rfl (by decide +kernel) ⟨(Nat.le_of_ble_eq_true rfl), (Nat.le_of_ble_eq_true rfl)⟩) (pV (wc := [oM q ref n num den mag fac who fnd pc ic a sta lb la fo dee kc, aI ci (q 1) 600 fl, aI ci (q 2) 1024 wd, aI cz (q 3) 8 df, aI cz (q 4) 8 ag, aI ci (q 5) 8 mk, aI ci (q 6) 8 sc, aI ci (q 7) 12 nu, aI ci (q 8) 12 co, aI ci (q 9) 12 fi, aI ci (q 10) 12 ad, aI ci (q 11) 1800 it, aI ci (q 12) 8 sp, aI ci (q 13) 160 stk]) ok hK hP hD hS hA hO [0, 1, 2, 3, 4, 5, 6, 7, 8, 9, 10, 11, 12, 13] rfl (by decide) 0 rfl rfl) rfl rfl hl.1 rfl (lv_room (Nat.le_of_ble_eq_true rfl)) dX9_rule_66 ⟨(Nat.le_of_ble_eq_true rfl), (Nat.le_of_ble_eq_true rfl)⟩) (wr := []) hP hD hS hA [0, 1, 2, 3, 4, 5, 6, 7, 8, 9, 10, 11, 12, 13] [] rfl rfl (by decide) (by decide) (fun r_6 u H locs hw_6 hP hD hS => ?_)
        try dsimp only at hw_6
        have hP : va_P G vwCl [oM q ref n num den mag fac who fnd pc ic a sta lb la fo dee kc, aI ci (q 1) 600 fl, aI ci (q 2) 1024 wd, aI cz (q 3) 8 df, aI cz (q 4) 8 ag, aI ci (q 5) 8 mk, aI ci (q 6) 8 sc, aI ci (q 7) 12 nu, aI ci (q 8) 12 co, aI ci (q 9) 12 fi, aI ci (q 10) 12 ad, aI ci (q 11) 1800 it, aI ci (q 12) 8 sp, aI ci (q 13) 160 stk] H := hP
        have hD : va_D A [oM q ref n num den mag fac who fnd pc ic a sta lb la fo dee kc, aI ci (q 1) 600 fl, aI ci (q 2) 1024 wd, aI cz (q 3) 8 df, aI cz (q 4) 8 ag, aI ci (q 5) 8 mk, aI ci (q 6) 8 sc, aI ci (q 7) 12 nu, aI ci (q 8) 12 co, aI ci (q 9) 12 fi, aI ci (q 10) 12 ad, aI ci (q 11) 1800 it, aI ci (q 12) 8 sp, aI ci (q 13) 160 stk] := hD
        refine jV (va_runV (As := [.int (rdS fl n (a + 3) 2), .int r_6]) (rest := []) ⟨hx, hb, hml, hown, hts⟩ (c_X9_goOn l G ci cz cl q H.size (rdS fl n (a + 3) 2) r_6 ref n num den mag fac who fnd pc ic a sta lb la fo dee kc fl wd df ag mk sc nu co fi ad it sp stk (by assumption)) (cwV 2 hts gX9_rule_X9_goOn rfl rfl rfl (by decide +kernel) ⟨(Nat.le_of_ble_eq_true rfl), (Nat.le_of_ble_eq_true rfl)⟩) (pV (wc := [oM q ref n num den mag fac who fnd pc ic a sta lb la fo dee kc, aI ci (q 1) 600 fl, aI ci (q 2) 1024 wd, aI cz (q 3) 8 df, aI cz (q 4) 8 ag, aI ci (q 5) 8 mk, aI ci (q 6) 8 sc, aI ci (q 7) 12 nu, aI ci (q 8) 12 co, aI ci (q 9) 12 fi, aI ci (q 10) 12 ad, aI ci (q 11) 1800 it, aI ci (q 12) 8 sp, aI ci (q 13) 160 stk]) ok hK hP hD hS hA hO [0, 1, 2, 3, 4, 5, 6, 7, 8, 9, 10, 11, 12, 13] rfl (by decide) 0 rfl rfl) rfl rfl hl.1 rfl (lv_room (Nat.le_of_ble_eq_true rfl)) dX9_rule_69 ⟨(Nat.le_of_ble_eq_true rfl), (Nat.le_of_ble_eq_true rfl)⟩) (wr := []) hP hD hS hA [0, 1, 2, 3, 4, 5, 6, 7, 8, 9, 10, 11, 12, 13] [] rfl rfl (by decide) (by decide) (fun u H locs hw_7 hP hD hS => ?_)
        obtain ⟨sp2_7, rfl⟩ : ∃ z, z = u := ⟨_, rfl⟩
        try dsimp only at hw_7
        have h_7 := hw_7
        have hP : va_P G vwCl [oM q ref n num den mag fac who fnd pc ic a sta lb la fo dee kc, aI ci (q 1) 600 fl, aI ci (q 2) 1024 wd, aI cz (q 3) 8 df, aI cz (q 4) 8 ag, aI ci (q 5) 8 mk, aI ci (q 6) 8 sc, aI ci (q 7) 12 nu, aI ci (q 8) 12 co, aI ci (q 9) 12 fi, aI ci (q 10) 12 ad, aI ci (q 11) 1800 it, aI ci (q 12) 8 sp2_7, aI ci (q 13) 160 stk] H := hP
        have hD : va_D A [oM q ref n num den mag fac who fnd pc ic a sta lb la fo dee kc, aI ci (q 1) 600 fl, aI ci (q 2) 1024 wd, aI cz (q 3) 8 df, aI cz (q 4) 8 ag, aI ci (q 5) 8 mk, aI ci (q 6) 8 sc, aI ci (q 7) 12 nu, aI ci (q 8) 12 co, aI ci (q 9) 12 fi, aI ci (q 10) 12 ad, aI ci (q 11) 1800 it, aI ci (q 12) 8 sp2_7, aI ci (q 13) 160 stk] := hD
        refine lv_iconst (v := nI 1) hx hb dX9_rule_72 (by decide) ?_
        exact rI (v := nI 1) hx hb hr hlocks nb1 hK hP hD hS [0, 1, 2, 3, 4, 5, 6, 7, 8, 9, 10, 11, 12, 13] (1, ic, co, it, sp2_7) rfl (by decide) ⟨rfl, by (try dsimp only); omega, Or.inl ⟨rfl, Or.inr ⟨by (try dsimp only); omega, h_7⟩, Or.inr ⟨by (try dsimp only); omega, rfl, rfl, rfl⟩⟩, by (try dsimp only); omega, hPI⟩ dX9_rule_73
      · skip
        have z_5 := mt (i_le (rdS fl n (a + 3) 2) (nI 0)).mpr c_5
        rw [nI_toInt (n := 0) (by omega)] at z_5
        refine lv_aload_n hx hb dX9_rule_56 rfl (lv_at hl 2 rfl) ?_
        refine lv_iload_n hx hb dX9_rule_57 rfl (lv_at hl 0 rfl) ?_
        refine jI (va_runV (As := [.int (rdS fl n (a + 3) 2)]) (rest := [.int (rdS fl n (a + 3) 2), .ref (q 0)]) ⟨hx, hb, hml, hown, hts⟩ (c_X9_upwards l G ci cz cl q H.size (rdS fl n (a + 3) 2) ref n num den mag fac who fnd pc ic a sta lb la fo dee kc fl wd df ag mk sc nu co fi ad it sp stk (by assumption)) (cwV 1 hts gX9_rule_X9_upwards rfl rfl rfl (by decide +kernel) ⟨(Nat.le_of_ble_eq_true rfl), (Nat.le_of_ble_eq_true rfl)⟩) (pV (wc := [oM q ref n num den mag fac who fnd pc ic a sta lb la fo dee kc, aI ci (q 1) 600 fl, aI ci (q 2) 1024 wd, aI cz (q 3) 8 df, aI cz (q 4) 8 ag, aI ci (q 5) 8 mk, aI ci (q 6) 8 sc, aI ci (q 7) 12 nu, aI ci (q 8) 12 co, aI ci (q 9) 12 fi, aI ci (q 10) 12 ad, aI ci (q 11) 1800 it, aI ci (q 12) 8 sp, aI ci (q 13) 160 stk]) ok hK hP hD hS hA hO [0, 1, 2, 3, 4, 5, 6, 7, 8, 9, 10, 11, 12, 13] rfl (by decide) 0 rfl rfl) rfl rfl hl.1 rfl (lv_room (Nat.le_of_ble_eq_true rfl)) dX9_rule_58 ⟨(Nat.le_of_ble_eq_true rfl), (Nat.le_of_ble_eq_true rfl)⟩) (wr := []) hP hD hS hA [0, 1, 2, 3, 4, 5, 6, 7, 8, 9, 10, 11, 12, 13] [] rfl rfl (by decide) (by decide) (fun r_8 u H locs hw_8 hP hD hS => ?_)
        try dsimp only at hw_8
        have hP : va_P G vwCl [oM q ref n num den mag fac who fnd pc ic a sta lb la fo dee kc, aI ci (q 1) 600 fl, aI ci (q 2) 1024 wd, aI cz (q 3) 8 df, aI cz (q 4) 8 ag, aI ci (q 5) 8 mk, aI ci (q 6) 8 sc, aI ci (q 7) 12 nu, aI ci (q 8) 12 co, aI ci (q 9) 12 fi, aI ci (q 10) 12 ad, aI ci (q 11) 1800 it, aI ci (q 12) 8 sp, aI ci (q 13) 160 stk] H := hP
        have hD : va_D A [oM q ref n num den mag fac who fnd pc ic a sta lb la fo dee kc, aI ci (q 1) 600 fl, aI ci (q 2) 1024 wd, aI cz (q 3) 8 df, aI cz (q 4) 8 ag, aI ci (q 5) 8 mk, aI ci (q 6) 8 sc, aI ci (q 7) 12 nu, aI ci (q 8) 12 co, aI ci (q 9) 12 fi, aI ci (q 10) 12 ad, aI ci (q 11) 1800 it, aI ci (q 12) 8 sp, aI ci (q 13) 160 stk] := hD
        refine lv_goto (tgt := 69) hx hb dX9_rule_61 (by decide) ?_
        refine jV (va_runV (As := [.int (rdS fl n (a + 3) 2), .int r_8]) (rest := []) ⟨hx, hb, hml, hown, hts⟩ (c_X9_goOn l G ci cz cl q H.size (rdS fl n (a + 3) 2) r_8 ref n num den mag fac who fnd pc ic a sta lb la fo dee kc fl wd df ag mk sc nu co fi ad it sp stk (by assumption)) (cwV 2 hts gX9_rule_X9_goOn rfl rfl rfl (by decide +kernel) ⟨(Nat.le_of_ble_eq_true rfl), (Nat.le_of_ble_eq_true rfl)⟩) (pV (wc := [oM q ref n num den mag fac who fnd pc ic a sta lb la fo dee kc, aI ci (q 1) 600 fl, aI ci (q 2) 1024 wd, aI cz (q 3) 8 df, aI cz (q 4) 8 ag, aI ci (q 5) 8 mk, aI ci (q 6) 8 sc, aI ci (q 7) 12 nu, aI ci (q 8) 12 co, aI ci (q 9) 12 fi, aI ci (q 10) 12 ad, aI ci (q 11) 1800 it, aI ci (q 12) 8 sp, aI ci (q 13) 160 stk]) ok hK hP hD hS hA hO [0, 1, 2, 3, 4, 5, 6, 7, 8, 9, 10, 11, 12, 13] rfl (by decide) 0 rfl rfl) rfl rfl hl.1 rfl (lv_room (Nat.le_of_ble_eq_true rfl)) dX9_rule_69 ⟨(Nat.le_of_ble_eq_true rfl), (Nat.le_of_ble_eq_true rfl)⟩) (wr := []) hP hD hS hA [0, 1, 2, 3, 4, 5, 6, 7, 8, 9, 10, 11, 12, 13] [] rfl rfl (by decide) (by decide) (fun u H locs hw_9 hP hD hS => ?_)
        obtain ⟨sp2_9, rfl⟩ : ∃ z, z = u := ⟨_, rfl⟩
        try dsimp only at hw_9
        have h_9 := hw_9
        have hP : va_P G vwCl [oM q ref n num den mag fac who fnd pc ic a sta lb la fo dee kc, aI ci (q 1) 600 fl, aI ci (q 2) 1024 wd, aI cz (q 3) 8 df, aI cz (q 4) 8 ag, aI ci (q 5) 8 mk, aI ci (q 6) 8 sc, aI ci (q 7) 12 nu, aI ci (q 8) 12 co, aI ci (q 9) 12 fi, aI ci (q 10) 12 ad, aI ci (q 11) 1800 it, aI ci (q 12) 8 sp2_9, aI ci (q 13) 160 stk] H := hP
        have hD : va_D A [oM q ref n num den mag fac who fnd pc ic a sta lb la fo dee kc, aI ci (q 1) 600 fl, aI ci (q 2) 1024 wd, aI cz (q 3) 8 df, aI cz (q 4) 8 ag, aI ci (q 5) 8 mk, aI ci (q 6) 8 sc, aI ci (q 7) 12 nu, aI ci (q 8) 12 co, aI ci (q 9) 12 fi, aI ci (q 10) 12 ad, aI ci (q 11) 1800 it, aI ci (q 12) 8 sp2_9, aI ci (q 13) 160 stk] := hD
        refine lv_iconst (v := nI 1) hx hb dX9_rule_72 (by decide) ?_
        exact rI (v := nI 1) hx hb hr hlocks nb1 hK hP hD hS [0, 1, 2, 3, 4, 5, 6, 7, 8, 9, 10, 11, 12, 13] (1, ic, co, it, sp2_9) rfl (by decide) ⟨rfl, by (try dsimp only); omega, Or.inl ⟨rfl, Or.inr ⟨by (try dsimp only); omega, h_9⟩, Or.inr ⟨by (try dsimp only); omega, rfl, rfl, rfl⟩⟩, by (try dsimp only); omega, hPI⟩ dX9_rule_73
  · skip
    have z_3 := mt (i_le (rdS fl n (a + 1) 2) (nI 0)).mpr c_3
    rw [nI_toInt (n := 0) (by omega)] at z_3
    refine lv_iload_n hx hb dX9_rule_28 rfl (lv_at hl 0 rfl) ?_
    refine lv_if_le (tgt := 46) hx hb dX9_rule_29 (by decide) (fun c_10 => ?_) (fun c_10 => ?_)
    · skip
      have z_10 := (i_le (rdS fl n (a + 3) 2) (nI 0)).mp c_10
      rw [nI_toInt (n := 0) (by omega)] at z_10
      refine lv_iload_n hx hb dX9_rule_46 rfl (lv_at hl 3 rfl) ?_
      refine lv_if_eq (tgt := 72) hx hb dX9_rule_47 (by decide) (fun c_11 => ?_) (fun c_11 => ?_)
      · skip
        have z_11 := (nI_eq (a := kk) (b := 0) (by omega) (by omega)).mp c_11
        refine lv_iconst (v := nI 1) hx hb dX9_rule_72 (by decide) ?_
        exact rI (v := nI 1) hx hb hr hlocks nb1 hK hP hD hS [0, 1, 2, 3, 4, 5, 6, 7, 8, 9, 10, 11, 12, 13] (1, ic, co, it, sp) rfl (by decide) ⟨rfl, by (try dsimp only); omega, Or.inl ⟨rfl, Or.inl ⟨by (try dsimp only); omega, rfl⟩, Or.inr ⟨by (try dsimp only); omega, rfl, rfl, rfl⟩⟩, by (try dsimp only); omega, hPI⟩ dX9_rule_73
      · skip
        have z_11 := mt (nI_eq (a := kk) (b := 0) (by omega) (by omega)).mpr c_11
        refine lv_aload_n hx hb dX9_rule_50 rfl (lv_at hl 2 rfl) ?_
        refine lv_iload_n hx hb dX9_rule_51 rfl (lv_at hl 0 rfl) ?_
        refine lv_iload_n hx hb dX9_rule_52 rfl (lv_at hl 0 rfl) ?_
        refine lv_if_le (tgt := 64) hx hb dX9_rule_53 (by decide) (fun c_12 => ?_) (fun c_12 => ?_)
        · skip
          have z_12 := (i_le (rdS fl n (a + 3) 2) (nI 0)).mp c_12
          rw [nI_toInt (n := 0) (by omega)] at z_12
          refine lv_aload_n hx hb dX9_rule_64 rfl (lv_at hl 2 rfl) ?_
          refine lv_iload_n hx hb dX9_rule_65 rfl (lv_at hl 0 rfl) ?_
          refine jI (va_runV (As := [.int (rdS fl n (a + 3) 2)]) (rest := [.int (rdS fl n (a + 3) 2), .ref (q 0)]) ⟨hx, hb, hml, hown, hts⟩ (c_X9_rounded l G ci cz cl q H.size (rdS fl n (a + 3) 2) ref n num den mag fac who fnd pc ic a sta lb la fo dee kc fl wd df ag mk sc nu co fi ad it sp stk (by assumption)) (cwV 1 hts gX9_rule_X9_rounded rfl rfl rfl (by decide +kernel) ⟨(Nat.le_of_ble_eq_true rfl), (Nat.le_of_ble_eq_true rfl)⟩) (pV (wc := [oM q ref n num den mag fac who fnd pc ic a sta lb la fo dee kc, aI ci (q 1) 600 fl, aI ci (q 2) 1024 wd, aI cz (q 3) 8 df, aI cz (q 4) 8 ag, aI ci (q 5) 8 mk, aI ci (q 6) 8 sc, aI ci (q 7) 12 nu, aI ci (q 8) 12 co, aI ci (q 9) 12 fi, aI ci (q 10) 12 ad, aI ci (q 11) 1800 it, aI ci (q 12) 8 sp, aI ci (q 13) 160 stk]) ok hK hP hD hS hA hO [0, 1, 2, 3, 4, 5, 6, 7, 8, 9, 10, 11, 12, 13] rfl (by decide) 0 rfl rfl) rfl rfl hl.1 rfl (lv_room (Nat.le_of_ble_eq_true rfl)) dX9_rule_66 ⟨(Nat.le_of_ble_eq_true rfl), (Nat.le_of_ble_eq_true rfl)⟩) (wr := []) hP hD hS hA [0, 1, 2, 3, 4, 5, 6, 7, 8, 9, 10, 11, 12, 13] [] rfl rfl (by decide) (by decide) (fun r_13 u H locs hw_13 hP hD hS => ?_)
          try dsimp only at hw_13
          have hP : va_P G vwCl [oM q ref n num den mag fac who fnd pc ic a sta lb la fo dee kc, aI ci (q 1) 600 fl, aI ci (q 2) 1024 wd, aI cz (q 3) 8 df, aI cz (q 4) 8 ag, aI ci (q 5) 8 mk, aI ci (q 6) 8 sc, aI ci (q 7) 12 nu, aI ci (q 8) 12 co, aI ci (q 9) 12 fi, aI ci (q 10) 12 ad, aI ci (q 11) 1800 it, aI ci (q 12) 8 sp, aI ci (q 13) 160 stk] H := hP
          have hD : va_D A [oM q ref n num den mag fac who fnd pc ic a sta lb la fo dee kc, aI ci (q 1) 600 fl, aI ci (q 2) 1024 wd, aI cz (q 3) 8 df, aI cz (q 4) 8 ag, aI ci (q 5) 8 mk, aI ci (q 6) 8 sc, aI ci (q 7) 12 nu, aI ci (q 8) 12 co, aI ci (q 9) 12 fi, aI ci (q 10) 12 ad, aI ci (q 11) 1800 it, aI ci (q 12) 8 sp, aI ci (q 13) 160 stk] := hD
          refine jV (va_runV (As := [.int (rdS fl n (a + 3) 2), .int r_13]) (rest := []) ⟨hx, hb, hml, hown, hts⟩ (c_X9_goOn l G ci cz cl q H.size (rdS fl n (a + 3) 2) r_13 ref n num den mag fac who fnd pc ic a sta lb la fo dee kc fl wd df ag mk sc nu co fi ad it sp stk (by assumption)) (cwV 2 hts gX9_rule_X9_goOn rfl rfl rfl (by decide +kernel) ⟨(Nat.le_of_ble_eq_true rfl), (Nat.le_of_ble_eq_true rfl)⟩) (pV (wc := [oM q ref n num den mag fac who fnd pc ic a sta lb la fo dee kc, aI ci (q 1) 600 fl, aI ci (q 2) 1024 wd, aI cz (q 3) 8 df, aI cz (q 4) 8 ag, aI ci (q 5) 8 mk, aI ci (q 6) 8 sc, aI ci (q 7) 12 nu, aI ci (q 8) 12 co, aI ci (q 9) 12 fi, aI ci (q 10) 12 ad, aI ci (q 11) 1800 it, aI ci (q 12) 8 sp, aI ci (q 13) 160 stk]) ok hK hP hD hS hA hO [0, 1, 2, 3, 4, 5, 6, 7, 8, 9, 10, 11, 12, 13] rfl (by decide) 0 rfl rfl) rfl rfl hl.1 rfl (lv_room (Nat.le_of_ble_eq_true rfl)) dX9_rule_69 ⟨(Nat.le_of_ble_eq_true rfl), (Nat.le_of_ble_eq_true rfl)⟩) (wr := []) hP hD hS hA [0, 1, 2, 3, 4, 5, 6, 7, 8, 9, 10, 11, 12, 13] [] rfl rfl (by decide) (by decide) (fun u H locs hw_14 hP hD hS => ?_)
          obtain ⟨sp2_14, rfl⟩ : ∃ z, z = u := ⟨_, rfl⟩
          try dsimp only at hw_14
          have h_14 := hw_14
          have hP : va_P G vwCl [oM q ref n num den mag fac who fnd pc ic a sta lb la fo dee kc, aI ci (q 1) 600 fl, aI ci (q 2) 1024 wd, aI cz (q 3) 8 df, aI cz (q 4) 8 ag, aI ci (q 5) 8 mk, aI ci (q 6) 8 sc, aI ci (q 7) 12 nu, aI ci (q 8) 12 co, aI ci (q 9) 12 fi, aI ci (q 10) 12 ad, aI ci (q 11) 1800 it, aI ci (q 12) 8 sp2_14, aI ci (q 13) 160 stk] H := hP
          have hD : va_D A [oM q ref n num den mag fac who fnd pc ic a sta lb la fo dee kc, aI ci (q 1) 600 fl, aI ci (q 2) 1024 wd, aI cz (q 3) 8 df, aI cz (q 4) 8 ag, aI ci (q 5) 8 mk, aI ci (q 6) 8 sc, aI ci (q 7) 12 nu, aI ci (q 8) 12 co, aI ci (q 9) 12 fi, aI ci (q 10) 12 ad, aI ci (q 11) 1800 it, aI ci (q 12) 8 sp2_14, aI ci (q 13) 160 stk] := hD
          refine lv_iconst (v := nI 1) hx hb dX9_rule_72 (by decide) ?_
          exact rI (v := nI 1) hx hb hr hlocks nb1 hK hP hD hS [0, 1, 2, 3, 4, 5, 6, 7, 8, 9, 10, 11, 12, 13] (1, ic, co, it, sp2_14) rfl (by decide) ⟨rfl, by (try dsimp only); omega, Or.inl ⟨rfl, Or.inr ⟨by (try dsimp only); omega, h_14⟩, Or.inr ⟨by (try dsimp only); omega, rfl, rfl, rfl⟩⟩, by (try dsimp only); omega, hPI⟩ dX9_rule_73
        · skip
          have z_12 := mt (i_le (rdS fl n (a + 3) 2) (nI 0)).mpr c_12
          rw [nI_toInt (n := 0) (by omega)] at z_12
          refine lv_aload_n hx hb dX9_rule_56 rfl (lv_at hl 2 rfl) ?_
          refine lv_iload_n hx hb dX9_rule_57 rfl (lv_at hl 0 rfl) ?_
          refine jI (va_runV (As := [.int (rdS fl n (a + 3) 2)]) (rest := [.int (rdS fl n (a + 3) 2), .ref (q 0)]) ⟨hx, hb, hml, hown, hts⟩ (c_X9_upwards l G ci cz cl q H.size (rdS fl n (a + 3) 2) ref n num den mag fac who fnd pc ic a sta lb la fo dee kc fl wd df ag mk sc nu co fi ad it sp stk (by assumption)) (cwV 1 hts gX9_rule_X9_upwards rfl rfl rfl (by decide +kernel) ⟨(Nat.le_of_ble_eq_true rfl), (Nat.le_of_ble_eq_true rfl)⟩) (pV (wc := [oM q ref n num den mag fac who fnd pc ic a sta lb la fo dee kc, aI ci (q 1) 600 fl, aI ci (q 2) 1024 wd, aI cz (q 3) 8 df, aI cz (q 4) 8 ag, aI ci (q 5) 8 mk, aI ci (q 6) 8 sc, aI ci (q 7) 12 nu, aI ci (q 8) 12 co, aI ci (q 9) 12 fi, aI ci (q 10) 12 ad, aI ci (q 11) 1800 it, aI ci (q 12) 8 sp, aI ci (q 13) 160 stk]) ok hK hP hD hS hA hO [0, 1, 2, 3, 4, 5, 6, 7, 8, 9, 10, 11, 12, 13] rfl (by decide) 0 rfl rfl) rfl rfl hl.1 rfl (lv_room (Nat.le_of_ble_eq_true rfl)) dX9_rule_58 ⟨(Nat.le_of_ble_eq_true rfl), (Nat.le_of_ble_eq_true rfl)⟩) (wr := []) hP hD hS hA [0, 1, 2, 3, 4, 5, 6, 7, 8, 9, 10, 11, 12, 13] [] rfl rfl (by decide) (by decide) (fun r_15 u H locs hw_15 hP hD hS => ?_)
          try dsimp only at hw_15
          have hP : va_P G vwCl [oM q ref n num den mag fac who fnd pc ic a sta lb la fo dee kc, aI ci (q 1) 600 fl, aI ci (q 2) 1024 wd, aI cz (q 3) 8 df, aI cz (q 4) 8 ag, aI ci (q 5) 8 mk, aI ci (q 6) 8 sc, aI ci (q 7) 12 nu, aI ci (q 8) 12 co, aI ci (q 9) 12 fi, aI ci (q 10) 12 ad, aI ci (q 11) 1800 it, aI ci (q 12) 8 sp, aI ci (q 13) 160 stk] H := hP
          have hD : va_D A [oM q ref n num den mag fac who fnd pc ic a sta lb la fo dee kc, aI ci (q 1) 600 fl, aI ci (q 2) 1024 wd, aI cz (q 3) 8 df, aI cz (q 4) 8 ag, aI ci (q 5) 8 mk, aI ci (q 6) 8 sc, aI ci (q 7) 12 nu, aI ci (q 8) 12 co, aI ci (q 9) 12 fi, aI ci (q 10) 12 ad, aI ci (q 11) 1800 it, aI ci (q 12) 8 sp, aI ci (q 13) 160 stk] := hD
          refine lv_goto (tgt := 69) hx hb dX9_rule_61 (by decide) ?_
          refine jV (va_runV (As := [.int (rdS fl n (a + 3) 2), .int r_15]) (rest := []) ⟨hx, hb, hml, hown, hts⟩ (c_X9_goOn l G ci cz cl q H.size (rdS fl n (a + 3) 2) r_15 ref n num den mag fac who fnd pc ic a sta lb la fo dee kc fl wd df ag mk sc nu co fi ad it sp stk (by assumption)) (cwV 2 hts gX9_rule_X9_goOn rfl rfl rfl (by decide +kernel) ⟨(Nat.le_of_ble_eq_true rfl), (Nat.le_of_ble_eq_true rfl)⟩) (pV (wc := [oM q ref n num den mag fac who fnd pc ic a sta lb la fo dee kc, aI ci (q 1) 600 fl, aI ci (q 2) 1024 wd, aI cz (q 3) 8 df, aI cz (q 4) 8 ag, aI ci (q 5) 8 mk, aI ci (q 6) 8 sc, aI ci (q 7) 12 nu, aI ci (q 8) 12 co, aI ci (q 9) 12 fi, aI ci (q 10) 12 ad, aI ci (q 11) 1800 it, aI ci (q 12) 8 sp, aI ci (q 13) 160 stk]) ok hK hP hD hS hA hO [0, 1, 2, 3, 4, 5, 6, 7, 8, 9, 10, 11, 12, 13] rfl (by decide) 0 rfl rfl) rfl rfl hl.1 rfl (lv_room (Nat.le_of_ble_eq_true rfl)) dX9_rule_69 ⟨(Nat.le_of_ble_eq_true rfl), (Nat.le_of_ble_eq_true rfl)⟩) (wr := []) hP hD hS hA [0, 1, 2, 3, 4, 5, 6, 7, 8, 9, 10, 11, 12, 13] [] rfl rfl (by decide) (by decide) (fun u H locs hw_16 hP hD hS => ?_)
          obtain ⟨sp2_16, rfl⟩ : ∃ z, z = u := ⟨_, rfl⟩
          try dsimp only at hw_16
          have h_16 := hw_16
          have hP : va_P G vwCl [oM q ref n num den mag fac who fnd pc ic a sta lb la fo dee kc, aI ci (q 1) 600 fl, aI ci (q 2) 1024 wd, aI cz (q 3) 8 df, aI cz (q 4) 8 ag, aI ci (q 5) 8 mk, aI ci (q 6) 8 sc, aI ci (q 7) 12 nu, aI ci (q 8) 12 co, aI ci (q 9) 12 fi, aI ci (q 10) 12 ad, aI ci (q 11) 1800 it, aI ci (q 12) 8 sp2_16, aI ci (q 13) 160 stk] H := hP
          have hD : va_D A [oM q ref n num den mag fac who fnd pc ic a sta lb la fo dee kc, aI ci (q 1) 600 fl, aI ci (q 2) 1024 wd, aI cz (q 3) 8 df, aI cz (q 4) 8 ag, aI ci (q 5) 8 mk, aI ci (q 6) 8 sc, aI ci (q 7) 12 nu, aI ci (q 8) 12 co, aI ci (q 9) 12 fi, aI ci (q 10) 12 ad, aI ci (q 11) 1800 it, aI ci (q 12) 8 sp2_16, aI ci (q 13) 160 stk] := hD
          refine lv_iconst (v := nI 1) hx hb dX9_rule_72 (by decide) ?_
          exact rI (v := nI 1) hx hb hr hlocks nb1 hK hP hD hS [0, 1, 2, 3, 4, 5, 6, 7, 8, 9, 10, 11, 12, 13] (1, ic, co, it, sp2_16) rfl (by decide) ⟨rfl, by (try dsimp only); omega, Or.inl ⟨rfl, Or.inr ⟨by (try dsimp only); omega, h_16⟩, Or.inr ⟨by (try dsimp only); omega, rfl, rfl, rfl⟩⟩, by (try dsimp only); omega, hPI⟩ dX9_rule_73
    · skip
      have z_10 := mt (i_le (rdS fl n (a + 3) 2) (nI 0)).mpr c_10
      rw [nI_toInt (n := 0) (by omega)] at z_10
      refine lv_aload_n hx hb dX9_rule_32 rfl (lv_at hl 2 rfl) ?_
      refine lv_sipush (v := nI 128) hx hb dX9_rule_33 (by decide) ?_
      refine lv_iload_n hx hb dX9_rule_36 rfl (lv_at hl 1 rfl) ?_
      refine lv_iload_n hx hb dX9_rule_37 rfl (lv_at hl 0 rfl) ?_
      refine jI (va_runV (As := [.int (nI 128), .int (rdS fl n (a + 1) 2), .int (rdS fl n (a + 3) 2)]) (rest := []) ⟨hx, hb, hml, hown, hts⟩ (c_X9_put l G ci cz cl q H.size (nI 128) (rdS fl n (a + 1) 2) (rdS fl n (a + 3) 2) ref n num den mag fac who fnd pc ic a sta lb la fo dee kc fl wd df ag mk sc nu co fi ad it sp stk (by omega) (by omega) (by assumption) (by assumption) (by omega)) (cwV 3 hts gX9_rule_X9_put rfl rfl rfl (by decide +kernel) ⟨(Nat.le_of_ble_eq_true rfl), (Nat.le_of_ble_eq_true rfl)⟩) (pV (wc := [oM q ref n num den mag fac who fnd pc ic a sta lb la fo dee kc, aI ci (q 1) 600 fl, aI ci (q 2) 1024 wd, aI cz (q 3) 8 df, aI cz (q 4) 8 ag, aI ci (q 5) 8 mk, aI ci (q 6) 8 sc, aI ci (q 7) 12 nu, aI ci (q 8) 12 co, aI ci (q 9) 12 fi, aI ci (q 10) 12 ad, aI ci (q 11) 1800 it, aI ci (q 12) 8 sp, aI ci (q 13) 160 stk]) ok hK hP hD hS hA hO [0, 1, 2, 3, 4, 5, 6, 7, 8, 9, 10, 11, 12, 13] rfl (by decide) 0 rfl rfl) rfl rfl hl.1 rfl (lv_room (Nat.le_of_ble_eq_true rfl)) dX9_rule_38 ⟨(Nat.le_of_ble_eq_true rfl), (Nat.le_of_ble_eq_true rfl)⟩) (wr := []) hP hD hS hA [0, 1, 2, 3, 4, 5, 6, 7, 8, 9, 10, 11, 12, 13] [] rfl rfl (by decide) (by decide) (fun r_17 u H locs hw_17 hP hD hS => ?_)
      obtain ⟨bo_17, ic2_17, co2_17, it2_17⟩ := u
      try dsimp only at hw_17
      obtain ⟨rfl, h_17, P_17⟩ := hw_17
      rcases h_17 with ⟨rfl, rfl, rfl, a_17, b_17⟩ | ⟨rfl, rfl, rfl, rfl, a_17⟩
      · skip
        have hP : va_P G vwCl [oM q ref n num den mag fac who fnd pc (ic + 1) a sta lb la fo dee kc, aI ci (q 1) 600 fl, aI ci (q 2) 1024 wd, aI cz (q 3) 8 df, aI cz (q 4) 8 ag, aI ci (q 5) 8 mk, aI ci (q 6) 8 sc, aI ci (q 7) 12 nu, aI ci (q 8) 12 (upd co (pc - 1) (co (pc - 1) + nI 1)), aI ci (q 9) 12 fi, aI ci (q 10) 12 ad, aI ci (q 11) 1800 it2_17, aI ci (q 12) 8 sp, aI ci (q 13) 160 stk] H := hP
        have hD : va_D A [oM q ref n num den mag fac who fnd pc (ic + 1) a sta lb la fo dee kc, aI ci (q 1) 600 fl, aI ci (q 2) 1024 wd, aI cz (q 3) 8 df, aI cz (q 4) 8 ag, aI ci (q 5) 8 mk, aI ci (q 6) 8 sc, aI ci (q 7) 12 nu, aI ci (q 8) 12 (upd co (pc - 1) (co (pc - 1) + nI 1)), aI ci (q 9) 12 fi, aI ci (q 10) 12 ad, aI ci (q 11) 1800 it2_17, aI ci (q 12) 8 sp, aI ci (q 13) 160 stk] := hD
        refine lv_if_ne (tgt := 46) hx hb dX9_rule_41 (by decide) (fun _ => ?_) (fun c => absurd c (by decide))
        refine lv_iload_n hx hb dX9_rule_46 rfl (lv_at hl 3 rfl) ?_
        refine lv_if_eq (tgt := 72) hx hb dX9_rule_47 (by decide) (fun c_18 => ?_) (fun c_18 => ?_)
        · skip
          have z_18 := (nI_eq (a := kk) (b := 0) (by omega) (by omega)).mp c_18
          refine lv_iconst (v := nI 1) hx hb dX9_rule_72 (by decide) ?_
          exact rI (v := nI 1) hx hb hr hlocks nb1 hK hP hD hS [0, 1, 2, 3, 4, 5, 6, 7, 8, 9, 10, 11, 12, 13] (1, (ic + 1), (upd co (pc - 1) (co (pc - 1) + nI 1)), it2_17, sp) rfl (by decide) ⟨rfl, by (try dsimp only); omega, Or.inl ⟨rfl, Or.inl ⟨by (try dsimp only); omega, rfl⟩, Or.inl ⟨by (try dsimp only); omega, by (try dsimp only); omega, a_17, rfl, rfl, b_17⟩⟩, by (try dsimp only); omega, P_17⟩ dX9_rule_73
        · skip
          have z_18 := mt (nI_eq (a := kk) (b := 0) (by omega) (by omega)).mpr c_18
          refine lv_aload_n hx hb dX9_rule_50 rfl (lv_at hl 2 rfl) ?_
          refine lv_iload_n hx hb dX9_rule_51 rfl (lv_at hl 0 rfl) ?_
          refine lv_iload_n hx hb dX9_rule_52 rfl (lv_at hl 0 rfl) ?_
          refine lv_if_le (tgt := 64) hx hb dX9_rule_53 (by decide) (fun c_19 => ?_) (fun c_19 => ?_)
          · skip
            have z_19 := (i_le (rdS fl n (a + 3) 2) (nI 0)).mp c_19
            rw [nI_toInt (n := 0) (by omega)] at z_19
            refine lv_aload_n hx hb dX9_rule_64 rfl (lv_at hl 2 rfl) ?_
            refine lv_iload_n hx hb dX9_rule_65 rfl (lv_at hl 0 rfl) ?_
            refine jI (va_runV (As := [.int (rdS fl n (a + 3) 2)]) (rest := [.int (rdS fl n (a + 3) 2), .ref (q 0)]) ⟨hx, hb, hml, hown, hts⟩ (c_X9_rounded l G ci cz cl q H.size (rdS fl n (a + 3) 2) ref n num den mag fac who fnd pc (ic + 1) a sta lb la fo dee kc fl wd df ag mk sc nu (upd co (pc - 1) (co (pc - 1) + nI 1)) fi ad it2_17 sp stk (by assumption)) (cwV 1 hts gX9_rule_X9_rounded rfl rfl rfl (by decide +kernel) ⟨(Nat.le_of_ble_eq_true rfl), (Nat.le_of_ble_eq_true rfl)⟩) (pV (wc := [oM q ref n num den mag fac who fnd pc (ic + 1) a sta lb la fo dee kc, aI ci (q 1) 600 fl, aI ci (q 2) 1024 wd, aI cz (q 3) 8 df, aI cz (q 4) 8 ag, aI ci (q 5) 8 mk, aI ci (q 6) 8 sc, aI ci (q 7) 12 nu, aI ci (q 8) 12 (upd co (pc - 1) (co (pc - 1) + nI 1)), aI ci (q 9) 12 fi, aI ci (q 10) 12 ad, aI ci (q 11) 1800 it2_17, aI ci (q 12) 8 sp, aI ci (q 13) 160 stk]) ok hK hP hD hS hA hO [0, 1, 2, 3, 4, 5, 6, 7, 8, 9, 10, 11, 12, 13] rfl (by decide) 0 rfl rfl) rfl rfl hl.1 rfl (lv_room (Nat.le_of_ble_eq_true rfl)) dX9_rule_66 ⟨(Nat.le_of_ble_eq_true rfl), (Nat.le_of_ble_eq_true rfl)⟩) (wr := []) hP hD hS hA [0, 1, 2, 3, 4, 5, 6, 7, 8, 9, 10, 11, 12, 13] [] rfl rfl (by decide) (by decide) (fun r_20 u H locs hw_20 hP hD hS => ?_)
            try dsimp only at hw_20
            have hP : va_P G vwCl [oM q ref n num den mag fac who fnd pc (ic + 1) a sta lb la fo dee kc, aI ci (q 1) 600 fl, aI ci (q 2) 1024 wd, aI cz (q 3) 8 df, aI cz (q 4) 8 ag, aI ci (q 5) 8 mk, aI ci (q 6) 8 sc, aI ci (q 7) 12 nu, aI ci (q 8) 12 (upd co (pc - 1) (co (pc - 1) + nI 1)), aI ci (q 9) 12 fi, aI ci (q 10) 12 ad, aI ci (q 11) 1800 it2_17, aI ci (q 12) 8 sp, aI ci (q 13) 160 stk] H := hP
            have hD : va_D A [oM q ref n num den mag fac who fnd pc (ic + 1) a sta lb la fo dee kc, aI ci (q 1) 600 fl, aI ci (q 2) 1024 wd, aI cz (q 3) 8 df, aI cz (q 4) 8 ag, aI ci (q 5) 8 mk, aI ci (q 6) 8 sc, aI ci (q 7) 12 nu, aI ci (q 8) 12 (upd co (pc - 1) (co (pc - 1) + nI 1)), aI ci (q 9) 12 fi, aI ci (q 10) 12 ad, aI ci (q 11) 1800 it2_17, aI ci (q 12) 8 sp, aI ci (q 13) 160 stk] := hD
            refine jV (va_runV (As := [.int (rdS fl n (a + 3) 2), .int r_20]) (rest := []) ⟨hx, hb, hml, hown, hts⟩ (c_X9_goOn l G ci cz cl q H.size (rdS fl n (a + 3) 2) r_20 ref n num den mag fac who fnd pc (ic + 1) a sta lb la fo dee kc fl wd df ag mk sc nu (upd co (pc - 1) (co (pc - 1) + nI 1)) fi ad it2_17 sp stk (by assumption)) (cwV 2 hts gX9_rule_X9_goOn rfl rfl rfl (by decide +kernel) ⟨(Nat.le_of_ble_eq_true rfl), (Nat.le_of_ble_eq_true rfl)⟩) (pV (wc := [oM q ref n num den mag fac who fnd pc (ic + 1) a sta lb la fo dee kc, aI ci (q 1) 600 fl, aI ci (q 2) 1024 wd, aI cz (q 3) 8 df, aI cz (q 4) 8 ag, aI ci (q 5) 8 mk, aI ci (q 6) 8 sc, aI ci (q 7) 12 nu, aI ci (q 8) 12 (upd co (pc - 1) (co (pc - 1) + nI 1)), aI ci (q 9) 12 fi, aI ci (q 10) 12 ad, aI ci (q 11) 1800 it2_17, aI ci (q 12) 8 sp, aI ci (q 13) 160 stk]) ok hK hP hD hS hA hO [0, 1, 2, 3, 4, 5, 6, 7, 8, 9, 10, 11, 12, 13] rfl (by decide) 0 rfl rfl) rfl rfl hl.1 rfl (lv_room (Nat.le_of_ble_eq_true rfl)) dX9_rule_69 ⟨(Nat.le_of_ble_eq_true rfl), (Nat.le_of_ble_eq_true rfl)⟩) (wr := []) hP hD hS hA [0, 1, 2, 3, 4, 5, 6, 7, 8, 9, 10, 11, 12, 13] [] rfl rfl (by decide) (by decide) (fun u H locs hw_21 hP hD hS => ?_)
            obtain ⟨sp2_21, rfl⟩ : ∃ z, z = u := ⟨_, rfl⟩
            try dsimp only at hw_21
            have h_21 := hw_21
            have hP : va_P G vwCl [oM q ref n num den mag fac who fnd pc (ic + 1) a sta lb la fo dee kc, aI ci (q 1) 600 fl, aI ci (q 2) 1024 wd, aI cz (q 3) 8 df, aI cz (q 4) 8 ag, aI ci (q 5) 8 mk, aI ci (q 6) 8 sc, aI ci (q 7) 12 nu, aI ci (q 8) 12 (upd co (pc - 1) (co (pc - 1) + nI 1)), aI ci (q 9) 12 fi, aI ci (q 10) 12 ad, aI ci (q 11) 1800 it2_17, aI ci (q 12) 8 sp2_21, aI ci (q 13) 160 stk] H := hP
            have hD : va_D A [oM q ref n num den mag fac who fnd pc (ic + 1) a sta lb la fo dee kc, aI ci (q 1) 600 fl, aI ci (q 2) 1024 wd, aI cz (q 3) 8 df, aI cz (q 4) 8 ag, aI ci (q 5) 8 mk, aI ci (q 6) 8 sc, aI ci (q 7) 12 nu, aI ci (q 8) 12 (upd co (pc - 1) (co (pc - 1) + nI 1)), aI ci (q 9) 12 fi, aI ci (q 10) 12 ad, aI ci (q 11) 1800 it2_17, aI ci (q 12) 8 sp2_21, aI ci (q 13) 160 stk] := hD
            refine lv_iconst (v := nI 1) hx hb dX9_rule_72 (by decide) ?_
            exact rI (v := nI 1) hx hb hr hlocks nb1 hK hP hD hS [0, 1, 2, 3, 4, 5, 6, 7, 8, 9, 10, 11, 12, 13] (1, (ic + 1), (upd co (pc - 1) (co (pc - 1) + nI 1)), it2_17, sp2_21) rfl (by decide) ⟨rfl, by (try dsimp only); omega, Or.inl ⟨rfl, Or.inr ⟨by (try dsimp only); omega, h_21⟩, Or.inl ⟨by (try dsimp only); omega, by (try dsimp only); omega, a_17, rfl, rfl, b_17⟩⟩, by (try dsimp only); omega, P_17⟩ dX9_rule_73
          · skip
            have z_19 := mt (i_le (rdS fl n (a + 3) 2) (nI 0)).mpr c_19
            rw [nI_toInt (n := 0) (by omega)] at z_19
            refine lv_aload_n hx hb dX9_rule_56 rfl (lv_at hl 2 rfl) ?_
            refine lv_iload_n hx hb dX9_rule_57 rfl (lv_at hl 0 rfl) ?_
            refine jI (va_runV (As := [.int (rdS fl n (a + 3) 2)]) (rest := [.int (rdS fl n (a + 3) 2), .ref (q 0)]) ⟨hx, hb, hml, hown, hts⟩ (c_X9_upwards l G ci cz cl q H.size (rdS fl n (a + 3) 2) ref n num den mag fac who fnd pc (ic + 1) a sta lb la fo dee kc fl wd df ag mk sc nu (upd co (pc - 1) (co (pc - 1) + nI 1)) fi ad it2_17 sp stk (by assumption)) (cwV 1 hts gX9_rule_X9_upwards rfl rfl rfl (by decide +kernel) ⟨(Nat.le_of_ble_eq_true rfl), (Nat.le_of_ble_eq_true rfl)⟩) (pV (wc := [oM q ref n num den mag fac who fnd pc (ic + 1) a sta lb la fo dee kc, aI ci (q 1) 600 fl, aI ci (q 2) 1024 wd, aI cz (q 3) 8 df, aI cz (q 4) 8 ag, aI ci (q 5) 8 mk, aI ci (q 6) 8 sc, aI ci (q 7) 12 nu, aI ci (q 8) 12 (upd co (pc - 1) (co (pc - 1) + nI 1)), aI ci (q 9) 12 fi, aI ci (q 10) 12 ad, aI ci (q 11) 1800 it2_17, aI ci (q 12) 8 sp, aI ci (q 13) 160 stk]) ok hK hP hD hS hA hO [0, 1, 2, 3, 4, 5, 6, 7, 8, 9, 10, 11, 12, 13] rfl (by decide) 0 rfl rfl) rfl rfl hl.1 rfl (lv_room (Nat.le_of_ble_eq_true rfl)) dX9_rule_58 ⟨(Nat.le_of_ble_eq_true rfl), (Nat.le_of_ble_eq_true rfl)⟩) (wr := []) hP hD hS hA [0, 1, 2, 3, 4, 5, 6, 7, 8, 9, 10, 11, 12, 13] [] rfl rfl (by decide) (by decide) (fun r_22 u H locs hw_22 hP hD hS => ?_)
            try dsimp only at hw_22
            have hP : va_P G vwCl [oM q ref n num den mag fac who fnd pc (ic + 1) a sta lb la fo dee kc, aI ci (q 1) 600 fl, aI ci (q 2) 1024 wd, aI cz (q 3) 8 df, aI cz (q 4) 8 ag, aI ci (q 5) 8 mk, aI ci (q 6) 8 sc, aI ci (q 7) 12 nu, aI ci (q 8) 12 (upd co (pc - 1) (co (pc - 1) + nI 1)), aI ci (q 9) 12 fi, aI ci (q 10) 12 ad, aI ci (q 11) 1800 it2_17, aI ci (q 12) 8 sp, aI ci (q 13) 160 stk] H := hP
            have hD : va_D A [oM q ref n num den mag fac who fnd pc (ic + 1) a sta lb la fo dee kc, aI ci (q 1) 600 fl, aI ci (q 2) 1024 wd, aI cz (q 3) 8 df, aI cz (q 4) 8 ag, aI ci (q 5) 8 mk, aI ci (q 6) 8 sc, aI ci (q 7) 12 nu, aI ci (q 8) 12 (upd co (pc - 1) (co (pc - 1) + nI 1)), aI ci (q 9) 12 fi, aI ci (q 10) 12 ad, aI ci (q 11) 1800 it2_17, aI ci (q 12) 8 sp, aI ci (q 13) 160 stk] := hD
            refine lv_goto (tgt := 69) hx hb dX9_rule_61 (by decide) ?_
            refine jV (va_runV (As := [.int (rdS fl n (a + 3) 2), .int r_22]) (rest := []) ⟨hx, hb, hml, hown, hts⟩ (c_X9_goOn l G ci cz cl q H.size (rdS fl n (a + 3) 2) r_22 ref n num den mag fac who fnd pc (ic + 1) a sta lb la fo dee kc fl wd df ag mk sc nu (upd co (pc - 1) (co (pc - 1) + nI 1)) fi ad it2_17 sp stk (by assumption)) (cwV 2 hts gX9_rule_X9_goOn rfl rfl rfl (by decide +kernel) ⟨(Nat.le_of_ble_eq_true rfl), (Nat.le_of_ble_eq_true rfl)⟩) (pV (wc := [oM q ref n num den mag fac who fnd pc (ic + 1) a sta lb la fo dee kc, aI ci (q 1) 600 fl, aI ci (q 2) 1024 wd, aI cz (q 3) 8 df, aI cz (q 4) 8 ag, aI ci (q 5) 8 mk, aI ci (q 6) 8 sc, aI ci (q 7) 12 nu, aI ci (q 8) 12 (upd co (pc - 1) (co (pc - 1) + nI 1)), aI ci (q 9) 12 fi, aI ci (q 10) 12 ad, aI ci (q 11) 1800 it2_17, aI ci (q 12) 8 sp, aI ci (q 13) 160 stk]) ok hK hP hD hS hA hO [0, 1, 2, 3, 4, 5, 6, 7, 8, 9, 10, 11, 12, 13] rfl (by decide) 0 rfl rfl) rfl rfl hl.1 rfl (lv_room (Nat.le_of_ble_eq_true rfl)) dX9_rule_69 ⟨(Nat.le_of_ble_eq_true rfl), (Nat.le_of_ble_eq_true rfl)⟩) (wr := []) hP hD hS hA [0, 1, 2, 3, 4, 5, 6, 7, 8, 9, 10, 11, 12, 13] [] rfl rfl (by decide) (by decide) (fun u H locs hw_23 hP hD hS => ?_)
            obtain ⟨sp2_23, rfl⟩ : ∃ z, z = u := ⟨_, rfl⟩
            try dsimp only at hw_23
            have h_23 := hw_23
            have hP : va_P G vwCl [oM q ref n num den mag fac who fnd pc (ic + 1) a sta lb la fo dee kc, aI ci (q 1) 600 fl, aI ci (q 2) 1024 wd, aI cz (q 3) 8 df, aI cz (q 4) 8 ag, aI ci (q 5) 8 mk, aI ci (q 6) 8 sc, aI ci (q 7) 12 nu, aI ci (q 8) 12 (upd co (pc - 1) (co (pc - 1) + nI 1)), aI ci (q 9) 12 fi, aI ci (q 10) 12 ad, aI ci (q 11) 1800 it2_17, aI ci (q 12) 8 sp2_23, aI ci (q 13) 160 stk] H := hP
            have hD : va_D A [oM q ref n num den mag fac who fnd pc (ic + 1) a sta lb la fo dee kc, aI ci (q 1) 600 fl, aI ci (q 2) 1024 wd, aI cz (q 3) 8 df, aI cz (q 4) 8 ag, aI ci (q 5) 8 mk, aI ci (q 6) 8 sc, aI ci (q 7) 12 nu, aI ci (q 8) 12 (upd co (pc - 1) (co (pc - 1) + nI 1)), aI ci (q 9) 12 fi, aI ci (q 10) 12 ad, aI ci (q 11) 1800 it2_17, aI ci (q 12) 8 sp2_23, aI ci (q 13) 160 stk] := hD
            refine lv_iconst (v := nI 1) hx hb dX9_rule_72 (by decide) ?_
            exact rI (v := nI 1) hx hb hr hlocks nb1 hK hP hD hS [0, 1, 2, 3, 4, 5, 6, 7, 8, 9, 10, 11, 12, 13] (1, (ic + 1), (upd co (pc - 1) (co (pc - 1) + nI 1)), it2_17, sp2_23) rfl (by decide) ⟨rfl, by (try dsimp only); omega, Or.inl ⟨rfl, Or.inr ⟨by (try dsimp only); omega, h_23⟩, Or.inl ⟨by (try dsimp only); omega, by (try dsimp only); omega, a_17, rfl, rfl, b_17⟩⟩, by (try dsimp only); omega, P_17⟩ dX9_rule_73
      · skip
        have hP : va_P G vwCl [oM q ref n num den mag fac who fnd pc ic a sta lb la fo dee kc, aI ci (q 1) 600 fl, aI ci (q 2) 1024 wd, aI cz (q 3) 8 df, aI cz (q 4) 8 ag, aI ci (q 5) 8 mk, aI ci (q 6) 8 sc, aI ci (q 7) 12 nu, aI ci (q 8) 12 co, aI ci (q 9) 12 fi, aI ci (q 10) 12 ad, aI ci (q 11) 1800 it, aI ci (q 12) 8 sp, aI ci (q 13) 160 stk] H := hP
        have hD : va_D A [oM q ref n num den mag fac who fnd pc ic a sta lb la fo dee kc, aI ci (q 1) 600 fl, aI ci (q 2) 1024 wd, aI cz (q 3) 8 df, aI cz (q 4) 8 ag, aI ci (q 5) 8 mk, aI ci (q 6) 8 sc, aI ci (q 7) 12 nu, aI ci (q 8) 12 co, aI ci (q 9) 12 fi, aI ci (q 10) 12 ad, aI ci (q 11) 1800 it, aI ci (q 12) 8 sp, aI ci (q 13) 160 stk] := hD
        refine lv_if_ne (tgt := 46) hx hb dX9_rule_41 (by decide) (fun c => absurd c (by decide)) (fun _ => ?_)
        refine lv_iconst (v := nI 0) hx hb dX9_rule_44 (by decide) ?_
        exact rI (v := nI 0) hx hb hr hlocks nb0 hK hP hD hS [0, 1, 2, 3, 4, 5, 6, 7, 8, 9, 10, 11, 12, 13] (0, ic, co, it, sp) rfl (by decide) ⟨rfl, by (try dsimp only); omega, Or.inr ⟨rfl, by (try dsimp only); omega, by (try dsimp only); omega, a_17⟩, by (try dsimp only); omega, P_17⟩ dX9_rule_45
set_option maxHeartbeats 4000000 in
set_option maxRecDepth 100000 in
theorem c_X9_push (l : Launch) (G : va_G) (ci cz cl : ClassId) (q : Nat → Nat) (sz : Nat) (ref : Int32) (n : Nat) (num : Nat) (den : Nat) (mag : Nat) (fac : UInt64) (who : Nat) (fnd : Int32) (pc : Nat) (ic : Nat) (a : Nat) (sta : Nat) (lb : Nat) (la : Nat) (fo : Int32) (dee : Nat) (kc : Nat) (fl : Nat → Int32) (wd : Nat → Int32) (df : Nat → Int32) (ag : Nat → Int32) (mk : Nat → Int32) (sc : Nat → Int32) (nu : Nat → Int32) (co : Nat → Int32) (fi : Nat → Int32) (ad : Nat → Int32) (it : Nat → Int32) (sp : Nat → Int32) (stk : Nat → Int32) (hkc : kc ≤ 20 ∧ dee ≤ 20) : CtI l yX9_push wsX9_push ({ frames := 0, cells := 0, slots := 0, locals := 0 }) G (TY ci cz cl) O0 [.ref (q 0)] [oM q ref n num den mag fac who fnd pc ic a sta lb la fo dee kc, aI ci (q 1) 600 fl, aI ci (q 2) 1024 wd, aI cz (q 3) 8 df, aI cz (q 4) 8 ag, aI ci (q 5) 8 mk, aI ci (q 6) 8 sc, aI ci (q 7) 12 nu, aI ci (q 8) 12 co, aI ci (q 9) 12 fi, aI ci (q 10) 12 ad, aI ci (q 11) 1800 it, aI ci (q 12) 8 sp, aI ci (q 13) 160 stk] sz (fun (r : Int32) (u : Nat × Nat × Nat × (Nat → Int32)) => r = nI u.1 ∧ u.1 ≤ 1 ∧ RPush kc dee sp stk u.1 u.2.2.1 u.2.1 u.2.2.2 ∧ u.2.2.1 ≤ 20 ∧ u.2.1 ≤ 20) (fun u : Nat × Nat × Nat × (Nat → Int32) => [oM q ref n num den mag fac who fnd pc ic a sta lb la fo u.2.1 u.2.2.1, aI ci (q 1) 600 fl, aI ci (q 2) 1024 wd, aI cz (q 3) 8 df, aI cz (q 4) 8 ag, aI ci (q 5) 8 mk, aI ci (q 6) 8 sc, aI ci (q 7) 12 nu, aI ci (q 8) 12 co, aI ci (q 9) 12 fi, aI ci (q 10) 12 ad, aI ci (q 11) 1800 it, aI ci (q 12) 8 sp, aI ci (q 13) 160 u.2.2.2]) 0 0 := by
  refine Met.ofW (cc := cX9_push) (maxL := 2) (ret := (some .boolean)) (by decide) rfl ?_
  intro p e s m args below meth c s₁ B hml hv
  obtain ⟨rfl, ⟨hsz, hP, hK, hD0⟩, hO⟩ := hv
  have hx := B.exec
  have hb := B.bytes
  have hr := B.returns
  have hts := atoms_spec (ws := wsX9_push) B.pre
  have hown : s.vm.findClass RX9 = some m.cls := findClass_of_methodNamed B.named
  have hlocks := B.notSynchronized
  subst hsz
  have hD := hD0.self (sz := s.heap.size)
  generalize hAe : va_A [oM q ref n num den mag fac who fnd pc ic a sta lb la fo dee kc, aI ci (q 1) 600 fl, aI ci (q 2) 1024 wd, aI cz (q 3) 8 df, aI cz (q 4) 8 ag, aI ci (q 5) 8 mk, aI ci (q 6) 8 sc, aI ci (q 7) 12 nu, aI ci (q 8) 12 co, aI ci (q 9) 12 fi, aI ci (q 10) 12 ad, aI ci (q 11) 1800 it, aI ci (q 12) 8 sp, aI ci (q 13) 160 stk] s.heap.size = A at hD hO ⊢
  have hA : ∀ q : Nat, s.heap.size ≤ q → A q := fun q h => by rw [← hAe]; exact Or.inr h
  have ok := ok0
  refine startH (A := A) (fun H locs hP hS => ?_) hP
  have hi_X9 := (by decide +kernel : ∀ w ∈ wsX90, w ∈ wsX9_push)
  have f_111 := hts (.fieldLink RX9 111 "PageReaderModel" "depth" "I") (by decide +kernel)
  have f_114 := hts (.fieldLink RX9 114 "PageReaderModel" "deepest" "I") (by decide +kernel)
  have f_51 := hts (.fieldLink RX9 51 "PageReaderModel" "stack" "[I") (by decide +kernel)
  have f_48 := hts (.fieldLink RX9 48 "PageReaderModel" "spot" "[I") (by decide +kernel)
  have hl := lv_entry ([.ref (q 0)]) (n := 2) (Nat.le_of_ble_eq_true rfl)
  rw [lg_entry_eq]
  generalize (lg_sl ([.ref (q 0)]) ++ List.replicate (2 - (lg_sl ([.ref (q 0)])).length) Slot.unset).toArray = ls at hl ⊢
  have hl : lv_has ls 2 [(0, .ref (q 0))] := hl
  refine lv_aload_n hx hb dX9_push_0 rfl (lv_at hl 0 rfl) ?_
  refine va_get (D := G) (ci := 8) (v := .int (nI kc)) (C := RX9) (T := TX9) (N := 30) hx hb hts hi_X9 hown hK hP 0 rfl rfl 27 (by decide) f_111 (fun _ h9 => h9) rfl dX9_push_1 ?_
  refine lv_bipush (v := nI 20) hx hb dX9_push_4 (by decide) ?_
  refine lv_icmp_ne (tgt := 11) hx hb dX9_push_6 (by decide) (fun c_1 => ?_) (fun c_1 => ?_)
  · skip
    have z_1 := mt (nI_eq (a := kc) (b := 20) (by omega) (by omega)).mpr c_1
    refine lv_iconst (v := nI 0) hx hb dX9_push_11 (by decide) ?_
    refine lv_istore_n (lv' := [(1, .int (nI 0)), (0, .ref (q 0))]) hx hb dX9_push_12 rfl hl (by decide) rfl (fun ls hl => ?_)
    have loop_13 : ∀ (fuel : Nat) (i : Nat) (stk1 : Nat → Int32) (H : Heap) (locs : List Loc), 8 - i < fuel → (i ≤ 8) → (RPl kc sp stk i stk1) → va_P G vwCl [oM q ref n num den mag fac who fnd pc ic a sta lb la fo dee kc, aI ci (q 1) 600 fl, aI ci (q 2) 1024 wd, aI cz (q 3) 8 df, aI cz (q 4) 8 ag, aI ci (q 5) 8 mk, aI ci (q 6) 8 sc, aI ci (q 7) 12 nu, aI ci (q 8) 12 co, aI ci (q 9) 12 fi, aI ci (q 10) 12 ad, aI ci (q 11) 1800 it, aI ci (q 12) 8 sp, aI ci (q 13) 160 stk1] H → va_D A [oM q ref n num den mag fac who fnd pc ic a sta lb la fo dee kc, aI ci (q 1) 600 fl, aI ci (q 2) 1024 wd, aI cz (q 3) 8 df, aI cz (q 4) 8 ag, aI ci (q 5) 8 mk, aI ci (q 6) 8 sc, aI ci (q 7) 12 nu, aI ci (q 8) 12 co, aI ci (q 9) 12 fi, aI ci (q 10) 12 ad, aI ci (q 11) 1800 it, aI ci (q 12) 8 sp, aI ci (q 13) 160 stk1] → va_S A s.heap H locs → ∀ ls : Array Slot, lv_has ls 2 [(0, .ref (q 0)), (1, .int (nI i))] → W p l e (headSpec wsX9_push ({ frames := 0, cells := 0, slots := 0, locals := 0 })).room s m ([.ref (q 0)] : List Value).toArray below meth c H locs 0 0 (MQ below (va_Qi (fun (r : Int32) (u : Nat × Nat × Nat × (Nat → Int32)) => r = nI u.1 ∧ u.1 ≤ 1 ∧ RPush kc dee sp stk u.1 u.2.2.1 u.2.1 u.2.2.2 ∧ u.2.2.1 ≤ 20 ∧ u.2.1 ≤ 20) (fun u t => PQ G (TY ci cz cl) A [oM q ref n num den mag fac who fnd pc ic a sta lb la fo u.2.1 u.2.2.1, aI ci (q 1) 600 fl, aI ci (q 2) 1024 wd, aI cz (q 3) 8 df, aI cz (q 4) 8 ag, aI ci (q 5) 8 mk, aI ci (q 6) 8 sc, aI ci (q 7) 12 nu, aI ci (q 8) 12 co, aI ci (q 9) 12 fi, aI ci (q 10) 12 ad, aI ci (q 11) 1800 it, aI ci (q 12) 8 sp, aI ci (q 13) 160 u.2.2.2] t) A) ([.ref (q 0)] : List Value).toArray s 0 0 A) (F0 m 13 ls []) := by
      intro fuel
      induction fuel with
      | zero => intro i stk1 H locs hf; exact absurd hf (by omega)
      | succ fuel ih =>
        intro i stk1 H locs hf hi hp hP hD hS ls hl
        refine lv_iload_n hx hb dX9_push_13 rfl (lv_at hl 1 rfl) ?_
        refine lv_bipush (v := nI 8) hx hb dX9_push_14 (by decide) ?_
        refine lv_icmp_ge (tgt := 45) hx hb dX9_push_16 (by decide) (fun c_2 => ?_) (fun c_2 => ?_)
        · skip
          have z_2 := (nI_leI (a := 8) (b := i) (by omega) (by omega)).mp c_2
          refine lv_aload_n hx hb dX9_push_45 rfl (lv_at hl 0 rfl) ?_
          refine lv_dup hx hb dX9_push_46 rfl ?_
          refine va_get (D := G) (ci := 8) (v := .int (nI kc)) (C := RX9) (T := TX9) (N := 30) hx hb hts hi_X9 hown hK hP 0 rfl rfl 27 (by decide) f_111 (fun _ h9 => h9) rfl dX9_push_47 ?_
          refine lv_iconst (v := nI 1) hx hb dX9_push_50 (by decide) ?_
          refine lv_iadd hx hb dX9_push_51 ?_
          refine tp (nI_add _ _) ?_
          refine va_put (D := G) (ci := 8) (v := .int (nI (kc + 1))) (ty := .int) (C := RX9) (T := TX9) (N := 30) hx hb hts hi_X9 tyX9 tyX9_ok nmX9 hown hK hP hD hS 0 rfl rfl 27 (by decide) f_111 (fun _ h9 => h9) rfl (by decide +kernel) rfl rfl (Nat.le_of_ble_eq_true rfl) dX9_push_52 (fun H locs hP hD hS => ?_)
          have hP : va_P G vwCl [oM q ref n num den mag fac who fnd pc ic a sta lb la fo dee (kc + 1), aI ci (q 1) 600 fl, aI ci (q 2) 1024 wd, aI cz (q 3) 8 df, aI cz (q 4) 8 ag, aI ci (q 5) 8 mk, aI ci (q 6) 8 sc, aI ci (q 7) 12 nu, aI ci (q 8) 12 co, aI ci (q 9) 12 fi, aI ci (q 10) 12 ad, aI ci (q 11) 1800 it, aI ci (q 12) 8 sp, aI ci (q 13) 160 stk1] H := hP
          have hD : va_D A [oM q ref n num den mag fac who fnd pc ic a sta lb la fo dee (kc + 1), aI ci (q 1) 600 fl, aI ci (q 2) 1024 wd, aI cz (q 3) 8 df, aI cz (q 4) 8 ag, aI ci (q 5) 8 mk, aI ci (q 6) 8 sc, aI ci (q 7) 12 nu, aI ci (q 8) 12 co, aI ci (q 9) 12 fi, aI ci (q 10) 12 ad, aI ci (q 11) 1800 it, aI ci (q 12) 8 sp, aI ci (q 13) 160 stk1] := hD
          refine lv_aload_n hx hb dX9_push_55 rfl (lv_at hl 0 rfl) ?_
          refine lv_aload_n hx hb dX9_push_56 rfl (lv_at hl 0 rfl) ?_
          refine va_get (D := G) (ci := 8) (v := .int (nI (kc + 1))) (C := RX9) (T := TX9) (N := 30) hx hb hts hi_X9 hown hK hP 0 rfl rfl 27 (by decide) f_111 (fun _ h9 => h9) rfl dX9_push_57 ?_
          refine lv_aload_n hx hb dX9_push_60 rfl (lv_at hl 0 rfl) ?_
          refine va_get (D := G) (ci := 8) (v := .int (nI dee)) (C := RX9) (T := TX9) (N := 30) hx hb hts hi_X9 hown hK hP 0 rfl rfl 26 (by decide) f_114 (fun _ h9 => h9) rfl dX9_push_61 ?_
          refine lv_icmp_le (tgt := 74) hx hb dX9_push_64 (by decide) (fun c_3 => ?_) (fun c_3 => ?_)
          · skip
            have z_3 := (nI_leI (a := (kc + 1)) (b := dee) (by omega) (by omega)).mp c_3
            refine lv_aload_n hx hb dX9_push_74 rfl (lv_at hl 0 rfl) ?_
            refine va_get (D := G) (ci := 8) (v := .int (nI dee)) (C := RX9) (T := TX9) (N := 30) hx hb hts hi_X9 hown hK hP 0 rfl rfl 26 (by decide) f_114 (fun _ h9 => h9) rfl dX9_push_75 ?_
            refine va_put (D := G) (ci := 8) (v := .int (nI dee)) (ty := .int) (C := RX9) (T := TX9) (N := 30) hx hb hts hi_X9 tyX9 tyX9_ok nmX9 hown hK hP hD hS 0 rfl rfl 26 (by decide) f_114 (fun _ h9 => h9) rfl (by decide +kernel) rfl rfl (Nat.le_of_ble_eq_true rfl) dX9_push_78 (fun H locs hP hD hS => ?_)
            have hP : va_P G vwCl [oM q ref n num den mag fac who fnd pc ic a sta lb la fo dee (kc + 1), aI ci (q 1) 600 fl, aI ci (q 2) 1024 wd, aI cz (q 3) 8 df, aI cz (q 4) 8 ag, aI ci (q 5) 8 mk, aI ci (q 6) 8 sc, aI ci (q 7) 12 nu, aI ci (q 8) 12 co, aI ci (q 9) 12 fi, aI ci (q 10) 12 ad, aI ci (q 11) 1800 it, aI ci (q 12) 8 sp, aI ci (q 13) 160 stk1] H := hP
            have hD : va_D A [oM q ref n num den mag fac who fnd pc ic a sta lb la fo dee (kc + 1), aI ci (q 1) 600 fl, aI ci (q 2) 1024 wd, aI cz (q 3) 8 df, aI cz (q 4) 8 ag, aI ci (q 5) 8 mk, aI ci (q 6) 8 sc, aI ci (q 7) 12 nu, aI ci (q 8) 12 co, aI ci (q 9) 12 fi, aI ci (q 10) 12 ad, aI ci (q 11) 1800 it, aI ci (q 12) 8 sp, aI ci (q 13) 160 stk1] := hD
            refine lv_iconst (v := nI 1) hx hb dX9_push_81 (by decide) ?_
            exact rI (v := nI 1) hx hb hr hlocks nb1 hK hP hD hS [0, 1, 2, 3, 4, 5, 6, 7, 8, 9, 10, 11, 12, 13] (1, dee, kc + 1, stk1) rfl (by decide) ⟨rfl, by (try dsimp only); omega, Or.inl ⟨rfl, by (try dsimp only); omega, rfl, by (try dsimp only); omega, RPl_c hp (by (try dsimp only); omega)⟩, by (try dsimp only); omega, by (try dsimp only); omega⟩ dX9_push_82
          · skip
            have z_3 := mt (nI_leI (a := (kc + 1)) (b := dee) (by omega) (by omega)).mpr c_3
            refine lv_aload_n hx hb dX9_push_67 rfl (lv_at hl 0 rfl) ?_
            refine va_get (D := G) (ci := 8) (v := .int (nI (kc + 1))) (C := RX9) (T := TX9) (N := 30) hx hb hts hi_X9 hown hK hP 0 rfl rfl 27 (by decide) f_111 (fun _ h9 => h9) rfl dX9_push_68 ?_
            refine lv_goto (tgt := 78) hx hb dX9_push_71 (by decide) ?_
            refine va_put (D := G) (ci := 8) (v := .int (nI (kc + 1))) (ty := .int) (C := RX9) (T := TX9) (N := 30) hx hb hts hi_X9 tyX9 tyX9_ok nmX9 hown hK hP hD hS 0 rfl rfl 26 (by decide) f_114 (fun _ h9 => h9) rfl (by decide +kernel) rfl rfl (Nat.le_of_ble_eq_true rfl) dX9_push_78 (fun H locs hP hD hS => ?_)
            have hP : va_P G vwCl [oM q ref n num den mag fac who fnd pc ic a sta lb la fo (kc + 1) (kc + 1), aI ci (q 1) 600 fl, aI ci (q 2) 1024 wd, aI cz (q 3) 8 df, aI cz (q 4) 8 ag, aI ci (q 5) 8 mk, aI ci (q 6) 8 sc, aI ci (q 7) 12 nu, aI ci (q 8) 12 co, aI ci (q 9) 12 fi, aI ci (q 10) 12 ad, aI ci (q 11) 1800 it, aI ci (q 12) 8 sp, aI ci (q 13) 160 stk1] H := hP
            have hD : va_D A [oM q ref n num den mag fac who fnd pc ic a sta lb la fo (kc + 1) (kc + 1), aI ci (q 1) 600 fl, aI ci (q 2) 1024 wd, aI cz (q 3) 8 df, aI cz (q 4) 8 ag, aI ci (q 5) 8 mk, aI ci (q 6) 8 sc, aI ci (q 7) 12 nu, aI ci (q 8) 12 co, aI ci (q 9) 12 fi, aI ci (q 10) 12 ad, aI ci (q 11) 1800 it, aI ci (q 12) 8 sp, aI ci (q 13) 160 stk1] := hD
            refine lv_iconst (v := nI 1) hx hb dX9_push_81 (by decide) ?_
            exact rI (v := nI 1) hx hb hr hlocks nb1 hK hP hD hS [0, 1, 2, 3, 4, 5, 6, 7, 8, 9, 10, 11, 12, 13] (1, kc + 1, kc + 1, stk1) rfl (by decide) ⟨rfl, by (try dsimp only); omega, Or.inl ⟨rfl, by (try dsimp only); omega, rfl, by (try dsimp only); omega, RPl_c hp (by (try dsimp only); omega)⟩, by (try dsimp only); omega, by (try dsimp only); omega⟩ dX9_push_82
        · skip
          have z_2 := mt (nI_leI (a := 8) (b := i) (by omega) (by omega)).mpr c_2
          refine lv_aload_n hx hb dX9_push_19 rfl (lv_at hl 0 rfl) ?_
          refine va_get (D := G) (ci := 8) (v := .ref (q 13)) (C := RX9) (T := TX9) (N := 30) hx hb hts hi_X9 hown hK hP 0 rfl rfl 29 (by decide) f_51 (fun _ h9 => h9) rfl dX9_push_20 ?_
          refine lv_bipush (v := nI 8) hx hb dX9_push_23 (by decide) ?_
          refine lv_aload_n hx hb dX9_push_25 rfl (lv_at hl 0 rfl) ?_
          refine va_get (D := G) (ci := 8) (v := .int (nI kc)) (C := RX9) (T := TX9) (N := 30) hx hb hts hi_X9 hown hK hP 0 rfl rfl 27 (by decide) f_111 (fun _ h9 => h9) rfl dX9_push_26 ?_
          refine lv_imul hx hb dX9_push_29 ?_
          refine tp (pk_mul _ _) ?_
          refine lv_iload_n hx hb dX9_push_30 rfl (lv_at hl 1 rfl) ?_
          refine lv_iadd hx hb dX9_push_31 ?_
          refine tp (nI_add _ _) ?_
          refine lv_aload_n hx hb dX9_push_32 rfl (lv_at hl 0 rfl) ?_
          refine va_get (D := G) (ci := 8) (v := .ref (q 12)) (C := RX9) (T := TX9) (N := 30) hx hb hts hi_X9 hown hK hP 0 rfl rfl 28 (by decide) f_48 (fun _ h9 => h9) rfl dX9_push_33 ?_
          refine lv_iload_n hx hb dX9_push_36 rfl (lv_at hl 1 rfl) ?_
          refine va_iald hx hb hK hP 12 0 rfl rfl (vp_in_nI (by omega) (by omega)) dX9_push_37 ?_
          refine tp (y := sp i) (congrArg sp (nI_clamp (by omega))) ?_
          refine va_iast hx hb hK hP hD hS 13 0 rfl rfl (vp_in_nI (by omega) (by omega)) dX9_push_38 (fun H locs hP hD hS => ?_)
          rw [nI_clamp (by omega)] at hP hD
          have hP : va_P G vwCl [oM q ref n num den mag fac who fnd pc ic a sta lb la fo dee kc, aI ci (q 1) 600 fl, aI ci (q 2) 1024 wd, aI cz (q 3) 8 df, aI cz (q 4) 8 ag, aI ci (q 5) 8 mk, aI ci (q 6) 8 sc, aI ci (q 7) 12 nu, aI ci (q 8) 12 co, aI ci (q 9) 12 fi, aI ci (q 10) 12 ad, aI ci (q 11) 1800 it, aI ci (q 12) 8 sp, aI ci (q 13) 160 (upd stk1 ((8 * kc) + i) (sp i))] H := hP
          have hD : va_D A [oM q ref n num den mag fac who fnd pc ic a sta lb la fo dee kc, aI ci (q 1) 600 fl, aI ci (q 2) 1024 wd, aI cz (q 3) 8 df, aI cz (q 4) 8 ag, aI ci (q 5) 8 mk, aI ci (q 6) 8 sc, aI ci (q 7) 12 nu, aI ci (q 8) 12 co, aI ci (q 9) 12 fi, aI ci (q 10) 12 ad, aI ci (q 11) 1800 it, aI ci (q 12) 8 sp, aI ci (q 13) 160 (upd stk1 ((8 * kc) + i) (sp i))] := hD
          refine lv_iinc (v := nI (i + 1)) (lv' := [(1, .int (nI (i + 1))), (0, .ref (q 0))]) hx hb dX9_push_39 hl (k := 1) rfl (nI_add _ _) (by decide) rfl (fun ls hl => ?_)
          refine lv_goto (tgt := 13) hx hb dX9_push_42 (by decide) ?_
          exact ih (i + 1) (upd stk1 ((8 * kc) + i) (sp i)) H locs (by omega) (by omega) (RPl_s hp) (hP.sub [0, 1, 2, 3, 4, 5, 6, 7, 8, 9, 10, 11, 12, 13] rfl) (hD.sub [0, 1, 2, 3, 4, 5, 6, 7, 8, 9, 10, 11, 12, 13] (by decide) rfl) hS ls (lv_sub hl [1, 0] rfl)
    exact loop_13 (8 - 0 + 1) 0 stk H locs (Nat.lt_succ_self _) (by omega) RPl_0 (hP.sub [0, 1, 2, 3, 4, 5, 6, 7, 8, 9, 10, 11, 12, 13] rfl) (hD.sub [0, 1, 2, 3, 4, 5, 6, 7, 8, 9, 10, 11, 12, 13] (by decide) rfl) hS ls (lv_sub hl [1, 0] rfl)
  · skip
    have z_1 := (nI_eq (a := kc) (b := 20) (by omega) (by omega)).mp c_1
    refine lv_iconst (v := nI 0) hx hb dX9_push_9 (by decide) ?_
    exact rI (v := nI 0) hx hb hr hlocks nb0 hK hP hD hS [0, 1, 2, 3, 4, 5, 6, 7, 8, 9, 10, 11, 12, 13] (0, dee, kc, stk) rfl (by decide) ⟨rfl, by (try dsimp only); omega, Or.inr ⟨rfl, by (try dsimp only); omega⟩, by (try dsimp only); omega, by (try dsimp only); omega⟩ dX9_push_10
set_option maxHeartbeats 4000000 in
set_option maxRecDepth 100000 in
theorem c_X9_pop (l : Launch) (G : va_G) (ci cz cl : ClassId) (q : Nat → Nat) (sz : Nat) (ref : Int32) (n : Nat) (num : Nat) (den : Nat) (mag : Nat) (fac : UInt64) (who : Nat) (fnd : Int32) (pc : Nat) (ic : Nat) (a : Nat) (sta : Nat) (lb : Nat) (la : Nat) (fo : Int32) (dee : Nat) (kc : Nat) (fl : Nat → Int32) (wd : Nat → Int32) (df : Nat → Int32) (ag : Nat → Int32) (mk : Nat → Int32) (sc : Nat → Int32) (nu : Nat → Int32) (co : Nat → Int32) (fi : Nat → Int32) (ad : Nat → Int32) (it : Nat → Int32) (sp : Nat → Int32) (stk : Nat → Int32) (hkc : kc ≤ 20) : CtI l yX9_pop wsX9_pop ({ frames := 0, cells := 0, slots := 0, locals := 0 }) G (TY ci cz cl) O0 [.ref (q 0)] [oM q ref n num den mag fac who fnd pc ic a sta lb la fo dee kc, aI ci (q 1) 600 fl, aI ci (q 2) 1024 wd, aI cz (q 3) 8 df, aI cz (q 4) 8 ag, aI ci (q 5) 8 mk, aI ci (q 6) 8 sc, aI ci (q 7) 12 nu, aI ci (q 8) 12 co, aI ci (q 9) 12 fi, aI ci (q 10) 12 ad, aI ci (q 11) 1800 it, aI ci (q 12) 8 sp, aI ci (q 13) 160 stk] sz (fun (r : Int32) (u : Nat × Nat × (Nat → Int32)) => r = nI u.1 ∧ u.1 ≤ 1 ∧ RPop kc stk u.1 u.2.1 u.2.2 ∧ u.2.1 ≤ 20) (fun u : Nat × Nat × (Nat → Int32) => [oM q ref n num den mag fac who fnd pc ic a sta lb la fo dee u.2.1, aI ci (q 1) 600 fl, aI ci (q 2) 1024 wd, aI cz (q 3) 8 df, aI cz (q 4) 8 ag, aI ci (q 5) 8 mk, aI ci (q 6) 8 sc, aI ci (q 7) 12 nu, aI ci (q 8) 12 co, aI ci (q 9) 12 fi, aI ci (q 10) 12 ad, aI ci (q 11) 1800 it, aI ci (q 12) 8 u.2.2, aI ci (q 13) 160 stk]) 0 0 := by
  refine Met.ofW (cc := cX9_pop) (maxL := 2) (ret := (some .boolean)) (by decide) rfl ?_
  intro p e s m args below meth c s₁ B hml hv
  obtain ⟨rfl, ⟨hsz, hP, hK, hD0⟩, hO⟩ := hv
  have hx := B.exec
  have hb := B.bytes
  have hr := B.returns
  have hts := atoms_spec (ws := wsX9_pop) B.pre
  have hown : s.vm.findClass RX9 = some m.cls := findClass_of_methodNamed B.named
  have hlocks := B.notSynchronized
  subst hsz
  have hD := hD0.self (sz := s.heap.size)
  generalize hAe : va_A [oM q ref n num den mag fac who fnd pc ic a sta lb la fo dee kc, aI ci (q 1) 600 fl, aI ci (q 2) 1024 wd, aI cz (q 3) 8 df, aI cz (q 4) 8 ag, aI ci (q 5) 8 mk, aI ci (q 6) 8 sc, aI ci (q 7) 12 nu, aI ci (q 8) 12 co, aI ci (q 9) 12 fi, aI ci (q 10) 12 ad, aI ci (q 11) 1800 it, aI ci (q 12) 8 sp, aI ci (q 13) 160 stk] s.heap.size = A at hD hO ⊢
  have hA : ∀ q : Nat, s.heap.size ≤ q → A q := fun q h => by rw [← hAe]; exact Or.inr h
  have ok := ok0
  refine startH (A := A) (fun H locs hP hS => ?_) hP
  have hi_X9 := (by decide +kernel : ∀ w ∈ wsX90, w ∈ wsX9_pop)
  have f_111 := hts (.fieldLink RX9 111 "PageReaderModel" "depth" "I") (by decide +kernel)
  have f_48 := hts (.fieldLink RX9 48 "PageReaderModel" "spot" "[I") (by decide +kernel)
  have f_51 := hts (.fieldLink RX9 51 "PageReaderModel" "stack" "[I") (by decide +kernel)
  have hl := lv_entry ([.ref (q 0)]) (n := 2) (Nat.le_of_ble_eq_true rfl)
  rw [lg_entry_eq]
  generalize (lg_sl ([.ref (q 0)]) ++ List.replicate (2 - (lg_sl ([.ref (q 0)])).length) Slot.unset).toArray = ls at hl ⊢
  have hl : lv_has ls 2 [(0, .ref (q 0))] := hl
  refine lv_aload_n hx hb dX9_pop_0 rfl (lv_at hl 0 rfl) ?_
  refine va_get (D := G) (ci := 8) (v := .int (nI kc)) (C := RX9) (T := TX9) (N := 30) hx hb hts hi_X9 hown hK hP 0 rfl rfl 27 (by decide) f_111 (fun _ h9 => h9) rfl dX9_pop_1 ?_
  refine lv_if_ne (tgt := 9) hx hb dX9_pop_4 (by decide) (fun c_1 => ?_) (fun c_1 => ?_)
  · skip
    have z_1 := mt (nI_eq (a := kc) (b := 0) (by omega) (by omega)).mpr c_1
    refine lv_aload_n hx hb dX9_pop_9 rfl (lv_at hl 0 rfl) ?_
    refine lv_dup hx hb dX9_pop_10 rfl ?_
    refine va_get (D := G) (ci := 8) (v := .int (nI kc)) (C := RX9) (T := TX9) (N := 30) hx hb hts hi_X9 hown hK hP 0 rfl rfl 27 (by decide) f_111 (fun _ h9 => h9) rfl dX9_pop_11 ?_
    refine lv_iconst (v := nI 1) hx hb dX9_pop_14 (by decide) ?_
    refine lv_isub hx hb dX9_pop_15 ?_
    refine tp (pk_sub (by omega)) ?_
    refine va_put (D := G) (ci := 8) (v := .int (nI (kc - 1))) (ty := .int) (C := RX9) (T := TX9) (N := 30) hx hb hts hi_X9 tyX9 tyX9_ok nmX9 hown hK hP hD hS 0 rfl rfl 27 (by decide) f_111 (fun _ h9 => h9) rfl (by decide +kernel) rfl rfl (Nat.le_of_ble_eq_true rfl) dX9_pop_16 (fun H locs hP hD hS => ?_)
    have hP : va_P G vwCl [oM q ref n num den mag fac who fnd pc ic a sta lb la fo dee (kc - 1), aI ci (q 1) 600 fl, aI ci (q 2) 1024 wd, aI cz (q 3) 8 df, aI cz (q 4) 8 ag, aI ci (q 5) 8 mk, aI ci (q 6) 8 sc, aI ci (q 7) 12 nu, aI ci (q 8) 12 co, aI ci (q 9) 12 fi, aI ci (q 10) 12 ad, aI ci (q 11) 1800 it, aI ci (q 12) 8 sp, aI ci (q 13) 160 stk] H := hP
    have hD : va_D A [oM q ref n num den mag fac who fnd pc ic a sta lb la fo dee (kc - 1), aI ci (q 1) 600 fl, aI ci (q 2) 1024 wd, aI cz (q 3) 8 df, aI cz (q 4) 8 ag, aI ci (q 5) 8 mk, aI ci (q 6) 8 sc, aI ci (q 7) 12 nu, aI ci (q 8) 12 co, aI ci (q 9) 12 fi, aI ci (q 10) 12 ad, aI ci (q 11) 1800 it, aI ci (q 12) 8 sp, aI ci (q 13) 160 stk] := hD
    refine lv_iconst (v := nI 0) hx hb dX9_pop_19 (by decide) ?_
    refine lv_istore_n (lv' := [(1, .int (nI 0)), (0, .ref (q 0))]) hx hb dX9_pop_20 rfl hl (by decide) rfl (fun ls hl => ?_)
    have loop_21 : ∀ (fuel : Nat) (i : Nat) (sp1 : Nat → Int32) (H : Heap) (locs : List Loc), 8 - i < fuel → (i ≤ 8) → (RQl kc stk i sp1) → va_P G vwCl [oM q ref n num den mag fac who fnd pc ic a sta lb la fo dee (kc - 1), aI ci (q 1) 600 fl, aI ci (q 2) 1024 wd, aI cz (q 3) 8 df, aI cz (q 4) 8 ag, aI ci (q 5) 8 mk, aI ci (q 6) 8 sc, aI ci (q 7) 12 nu, aI ci (q 8) 12 co, aI ci (q 9) 12 fi, aI ci (q 10) 12 ad, aI ci (q 11) 1800 it, aI ci (q 12) 8 sp1, aI ci (q 13) 160 stk] H → va_D A [oM q ref n num den mag fac who fnd pc ic a sta lb la fo dee (kc - 1), aI ci (q 1) 600 fl, aI ci (q 2) 1024 wd, aI cz (q 3) 8 df, aI cz (q 4) 8 ag, aI ci (q 5) 8 mk, aI ci (q 6) 8 sc, aI ci (q 7) 12 nu, aI ci (q 8) 12 co, aI ci (q 9) 12 fi, aI ci (q 10) 12 ad, aI ci (q 11) 1800 it, aI ci (q 12) 8 sp1, aI ci (q 13) 160 stk] → va_S A s.heap H locs → ∀ ls : Array Slot, lv_has ls 2 [(0, .ref (q 0)), (1, .int (nI i))] → W p l e (headSpec wsX9_pop ({ frames := 0, cells := 0, slots := 0, locals := 0 })).room s m ([.ref (q 0)] : List Value).toArray below meth c H locs 0 0 (MQ below (va_Qi (fun (r : Int32) (u : Nat × Nat × (Nat → Int32)) => r = nI u.1 ∧ u.1 ≤ 1 ∧ RPop kc stk u.1 u.2.1 u.2.2 ∧ u.2.1 ≤ 20) (fun u t => PQ G (TY ci cz cl) A [oM q ref n num den mag fac who fnd pc ic a sta lb la fo dee u.2.1, aI ci (q 1) 600 fl, aI ci (q 2) 1024 wd, aI cz (q 3) 8 df, aI cz (q 4) 8 ag, aI ci (q 5) 8 mk, aI ci (q 6) 8 sc, aI ci (q 7) 12 nu, aI ci (q 8) 12 co, aI ci (q 9) 12 fi, aI ci (q 10) 12 ad, aI ci (q 11) 1800 it, aI ci (q 12) 8 u.2.2, aI ci (q 13) 160 stk] t) A) ([.ref (q 0)] : List Value).toArray s 0 0 A) (F0 m 21 ls []) := by
      intro fuel
      induction fuel with
      | zero => intro i sp1 H locs hf; exact absurd hf (by omega)
      | succ fuel ih =>
        intro i sp1 H locs hf hi hq hP hD hS ls hl
        refine lv_iload_n hx hb dX9_pop_21 rfl (lv_at hl 1 rfl) ?_
        refine lv_bipush (v := nI 8) hx hb dX9_pop_22 (by decide) ?_
        refine lv_icmp_ge (tgt := 53) hx hb dX9_pop_24 (by decide) (fun c_2 => ?_) (fun c_2 => ?_)
        · skip
          have z_2 := (nI_leI (a := 8) (b := i) (by omega) (by omega)).mp c_2
          refine lv_iconst (v := nI 1) hx hb dX9_pop_53 (by decide) ?_
          exact rI (v := nI 1) hx hb hr hlocks nb1 hK hP hD hS [0, 1, 2, 3, 4, 5, 6, 7, 8, 9, 10, 11, 12, 13] (1, kc - 1, sp1) rfl (by decide) ⟨rfl, by (try dsimp only); omega, Or.inl ⟨rfl, by (try dsimp only); omega, rfl, RQl_c hq (by (try dsimp only); omega)⟩, by (try dsimp only); omega⟩ dX9_pop_54
        · skip
          have z_2 := mt (nI_leI (a := 8) (b := i) (by omega) (by omega)).mpr c_2
          refine lv_aload_n hx hb dX9_pop_27 rfl (lv_at hl 0 rfl) ?_
          refine va_get (D := G) (ci := 8) (v := .ref (q 12)) (C := RX9) (T := TX9) (N := 30) hx hb hts hi_X9 hown hK hP 0 rfl rfl 28 (by decide) f_48 (fun _ h9 => h9) rfl dX9_pop_28 ?_
          refine lv_iload_n hx hb dX9_pop_31 rfl (lv_at hl 1 rfl) ?_
          refine lv_aload_n hx hb dX9_pop_32 rfl (lv_at hl 0 rfl) ?_
          refine va_get (D := G) (ci := 8) (v := .ref (q 13)) (C := RX9) (T := TX9) (N := 30) hx hb hts hi_X9 hown hK hP 0 rfl rfl 29 (by decide) f_51 (fun _ h9 => h9) rfl dX9_pop_33 ?_
          refine lv_bipush (v := nI 8) hx hb dX9_pop_36 (by decide) ?_
          refine lv_aload_n hx hb dX9_pop_38 rfl (lv_at hl 0 rfl) ?_
          refine va_get (D := G) (ci := 8) (v := .int (nI (kc - 1))) (C := RX9) (T := TX9) (N := 30) hx hb hts hi_X9 hown hK hP 0 rfl rfl 27 (by decide) f_111 (fun _ h9 => h9) rfl dX9_pop_39 ?_
          refine lv_imul hx hb dX9_pop_42 ?_
          refine tp (pk_mul _ _) ?_
          refine lv_iload_n hx hb dX9_pop_43 rfl (lv_at hl 1 rfl) ?_
          refine lv_iadd hx hb dX9_pop_44 ?_
          refine tp (nI_add _ _) ?_
          refine va_iald hx hb hK hP 13 0 rfl rfl (vp_in_nI (by omega) (by omega)) dX9_pop_45 ?_
          refine tp (y := stk ((8 * (kc - 1)) + i)) (congrArg stk (nI_clamp (by omega))) ?_
          refine va_iast hx hb hK hP hD hS 12 0 rfl rfl (vp_in_nI (by omega) (by omega)) dX9_pop_46 (fun H locs hP hD hS => ?_)
          rw [nI_clamp (by omega)] at hP hD
          have hP : va_P G vwCl [oM q ref n num den mag fac who fnd pc ic a sta lb la fo dee (kc - 1), aI ci (q 1) 600 fl, aI ci (q 2) 1024 wd, aI cz (q 3) 8 df, aI cz (q 4) 8 ag, aI ci (q 5) 8 mk, aI ci (q 6) 8 sc, aI ci (q 7) 12 nu, aI ci (q 8) 12 co, aI ci (q 9) 12 fi, aI ci (q 10) 12 ad, aI ci (q 11) 1800 it, aI ci (q 12) 8 (upd sp1 i (stk ((8 * (kc - 1)) + i))), aI ci (q 13) 160 stk] H := hP
          have hD : va_D A [oM q ref n num den mag fac who fnd pc ic a sta lb la fo dee (kc - 1), aI ci (q 1) 600 fl, aI ci (q 2) 1024 wd, aI cz (q 3) 8 df, aI cz (q 4) 8 ag, aI ci (q 5) 8 mk, aI ci (q 6) 8 sc, aI ci (q 7) 12 nu, aI ci (q 8) 12 co, aI ci (q 9) 12 fi, aI ci (q 10) 12 ad, aI ci (q 11) 1800 it, aI ci (q 12) 8 (upd sp1 i (stk ((8 * (kc - 1)) + i))), aI ci (q 13) 160 stk] := hD
          refine lv_iinc (v := nI (i + 1)) (lv' := [(1, .int (nI (i + 1))), (0, .ref (q 0))]) hx hb dX9_pop_47 hl (k := 1) rfl (nI_add _ _) (by decide) rfl (fun ls hl => ?_)
          refine lv_goto (tgt := 21) hx hb dX9_pop_50 (by decide) ?_
          exact ih (i + 1) (upd sp1 i (stk ((8 * (kc - 1)) + i))) H locs (by omega) (by omega) (RQl_s hq) (hP.sub [0, 1, 2, 3, 4, 5, 6, 7, 8, 9, 10, 11, 12, 13] rfl) (hD.sub [0, 1, 2, 3, 4, 5, 6, 7, 8, 9, 10, 11, 12, 13] (by decide) rfl) hS ls (lv_sub hl [1, 0] rfl)
    exact loop_21 (8 - 0 + 1) 0 sp H locs (Nat.lt_succ_self _) (by omega) RQl_0 (hP.sub [0, 1, 2, 3, 4, 5, 6, 7, 8, 9, 10, 11, 12, 13] rfl) (hD.sub [0, 1, 2, 3, 4, 5, 6, 7, 8, 9, 10, 11, 12, 13] (by decide) rfl) hS ls (lv_sub hl [1, 0] rfl)
  · skip
    have z_1 := (nI_eq (a := kc) (b := 0) (by omega) (by omega)).mp c_1
    refine lv_iconst (v := nI 0) hx hb dX9_pop_7 (by decide) ?_
    exact rI (v := nI 0) hx hb hr hlocks nb0 hK hP hD hS [0, 1, 2, 3, 4, 5, 6, 7, 8, 9, 10, 11, 12, 13] (0, kc, sp) rfl (by decide) ⟨rfl, by (try dsimp only); omega, Or.inr ⟨rfl, by (try dsimp only); omega⟩, by (try dsimp only); omega⟩ dX9_pop_8
set_option maxHeartbeats 4000000 in
set_option maxRecDepth 100000 in
theorem c_X9_choose (l : Launch) (G : va_G) (ci cz cl : ClassId) (q : Nat → Nat) (sz : Nat) (k : Nat) (ref : Int32) (n : Nat) (num : Nat) (den : Nat) (mag : Nat) (fac : UInt64) (who : Nat) (fnd : Int32) (pc : Nat) (ic : Nat) (a : Nat) (sta : Nat) (lb : Nat) (la : Nat) (fo : Int32) (dee : Nat) (kc : Nat) (fl : Nat → Int32) (wd : Nat → Int32) (df : Nat → Int32) (ag : Nat → Int32) (mk : Nat → Int32) (sc : Nat → Int32) (nu : Nat → Int32) (co : Nat → Int32) (fi : Nat → Int32) (ad : Nat → Int32) (it : Nat → Int32) (sp : Nat → Int32) (stk : Nat → Int32) (hk : k ≤ 7) (hFO : FO fo) : CtI l yX9_choose wsX9_choose ({ frames := 0, cells := 0, slots := 0, locals := 0 }) G (TY ci cz cl) O0 [.ref (q 0), .int (nI k)] [oM q ref n num den mag fac who fnd pc ic a sta lb la fo dee kc, aI ci (q 1) 600 fl, aI ci (q 2) 1024 wd, aI cz (q 3) 8 df, aI cz (q 4) 8 ag, aI ci (q 5) 8 mk, aI ci (q 6) 8 sc, aI ci (q 7) 12 nu, aI ci (q 8) 12 co, aI ci (q 9) 12 fi, aI ci (q 10) 12 ad, aI ci (q 11) 1800 it, aI ci (q 12) 8 sp, aI ci (q 13) 160 stk] sz (fun (r : Int32) (u : Nat × Int32) => r = nI u.1 ∧ u.1 ≤ 1 ∧ RChoose df k u.1 u.2 ∧ FO u.2) (fun u : Nat × Int32 => [oM q ref n num den mag fac who fnd pc ic a sta lb la u.2 dee kc, aI ci (q 1) 600 fl, aI ci (q 2) 1024 wd, aI cz (q 3) 8 df, aI cz (q 4) 8 ag, aI ci (q 5) 8 mk, aI ci (q 6) 8 sc, aI ci (q 7) 12 nu, aI ci (q 8) 12 co, aI ci (q 9) 12 fi, aI ci (q 10) 12 ad, aI ci (q 11) 1800 it, aI ci (q 12) 8 sp, aI ci (q 13) 160 stk]) 0 0 := by
  refine Met.ofW (cc := cX9_choose) (maxL := 2) (ret := (some .boolean)) (by decide) rfl ?_
  intro p e s m args below meth c s₁ B hml hv
  obtain ⟨rfl, ⟨hsz, hP, hK, hD0⟩, hO⟩ := hv
  have hx := B.exec
  have hb := B.bytes
  have hr := B.returns
  have hts := atoms_spec (ws := wsX9_choose) B.pre
  have hown : s.vm.findClass RX9 = some m.cls := findClass_of_methodNamed B.named
  have hlocks := B.notSynchronized
  subst hsz
  have hD := hD0.self (sz := s.heap.size)
  generalize hAe : va_A [oM q ref n num den mag fac who fnd pc ic a sta lb la fo dee kc, aI ci (q 1) 600 fl, aI ci (q 2) 1024 wd, aI cz (q 3) 8 df, aI cz (q 4) 8 ag, aI ci (q 5) 8 mk, aI ci (q 6) 8 sc, aI ci (q 7) 12 nu, aI ci (q 8) 12 co, aI ci (q 9) 12 fi, aI ci (q 10) 12 ad, aI ci (q 11) 1800 it, aI ci (q 12) 8 sp, aI ci (q 13) 160 stk] s.heap.size = A at hD hO ⊢
  have hA : ∀ q : Nat, s.heap.size ≤ q → A q := fun q h => by rw [← hAe]; exact Or.inr h
  have ok := ok0
  refine startH (A := A) (fun H locs hP hS => ?_) hP
  have hi_X9 := (by decide +kernel : ∀ w ∈ wsX90, w ∈ wsX9_choose)
  have f_16 := hts (.fieldLink RX9 16 "PageReaderModel" "defined" "[Z") (by decide +kernel)
  have f_82 := hts (.fieldLink RX9 82 "PageReaderModel" "font" "I") (by decide +kernel)
  have hl := lv_entry ([.ref (q 0), .int (nI k)]) (n := 2) (Nat.le_of_ble_eq_true rfl)
  rw [lg_entry_eq]
  generalize (lg_sl ([.ref (q 0), .int (nI k)]) ++ List.replicate (2 - (lg_sl ([.ref (q 0), .int (nI k)])).length) Slot.unset).toArray = ls at hl ⊢
  have hl : lv_has ls 2 [(0, .ref (q 0)), (1, .int (nI k))] := hl
  refine lv_aload_n hx hb dX9_choose_0 rfl (lv_at hl 0 rfl) ?_
  refine va_get (D := G) (ci := 8) (v := .ref (q 3)) (C := RX9) (T := TX9) (N := 30) hx hb hts hi_X9 hown hK hP 0 rfl rfl 4 (by decide) f_16 (fun _ h9 => h9) rfl dX9_choose_1 ?_
  refine lv_iload_n hx hb dX9_choose_4 rfl (lv_at hl 1 rfl) ?_
  refine va_zald hx hb hK hP 3 1 rfl rfl (vp_in_nI (by omega) (by omega)) dX9_choose_5 ?_
  refine tp (y := df k) (congrArg df (nI_clamp (by omega))) ?_
  refine lv_if_ne (tgt := 11) hx hb dX9_choose_6 (by decide) (fun c_1 => ?_) (fun c_1 => ?_)
  · skip
    refine lv_aload_n hx hb dX9_choose_11 rfl (lv_at hl 0 rfl) ?_
    refine lv_iload_n hx hb dX9_choose_12 rfl (lv_at hl 1 rfl) ?_
    refine va_put (D := G) (ci := 8) (v := .int (nI k)) (ty := .int) (C := RX9) (T := TX9) (N := 30) hx hb hts hi_X9 tyX9 tyX9_ok nmX9 hown hK hP hD hS 0 rfl rfl 25 (by decide) f_82 (fun _ h9 => h9) rfl (by decide +kernel) rfl rfl (Nat.le_of_ble_eq_true rfl) dX9_choose_13 (fun H locs hP hD hS => ?_)
    have hP : va_P G vwCl [oM q ref n num den mag fac who fnd pc ic a sta lb la (nI k) dee kc, aI ci (q 1) 600 fl, aI ci (q 2) 1024 wd, aI cz (q 3) 8 df, aI cz (q 4) 8 ag, aI ci (q 5) 8 mk, aI ci (q 6) 8 sc, aI ci (q 7) 12 nu, aI ci (q 8) 12 co, aI ci (q 9) 12 fi, aI ci (q 10) 12 ad, aI ci (q 11) 1800 it, aI ci (q 12) 8 sp, aI ci (q 13) 160 stk] H := hP
    have hD : va_D A [oM q ref n num den mag fac who fnd pc ic a sta lb la (nI k) dee kc, aI ci (q 1) 600 fl, aI ci (q 2) 1024 wd, aI cz (q 3) 8 df, aI cz (q 4) 8 ag, aI ci (q 5) 8 mk, aI ci (q 6) 8 sc, aI ci (q 7) 12 nu, aI ci (q 8) 12 co, aI ci (q 9) 12 fi, aI ci (q 10) 12 ad, aI ci (q 11) 1800 it, aI ci (q 12) 8 sp, aI ci (q 13) 160 stk] := hD
    refine lv_iconst (v := nI 1) hx hb dX9_choose_16 (by decide) ?_
    exact rI (v := nI 1) hx hb hr hlocks nb1 hK hP hD hS [0, 1, 2, 3, 4, 5, 6, 7, 8, 9, 10, 11, 12, 13] (1, nI k) rfl (by decide) ⟨rfl, by (try dsimp only); omega, Or.inl ⟨rfl, c_1, rfl⟩, FO_n (by (try dsimp only); omega)⟩ dX9_choose_17
  · skip
    refine lv_iconst (v := nI 0) hx hb dX9_choose_9 (by decide) ?_
    exact rI (v := nI 0) hx hb hr hlocks nb0 hK hP hD hS [0, 1, 2, 3, 4, 5, 6, 7, 8, 9, 10, 11, 12, 13] (0, fo) rfl (by decide) ⟨rfl, by (try dsimp only); omega, Or.inr ⟨rfl, c_1⟩, hFO⟩ dX9_choose_10
set_option maxHeartbeats 4000000 in
set_option maxRecDepth 100000 in
theorem c_X9_kept (l : Launch) (G : va_G) (ci cz cl : ClassId) (q : Nat → Nat) (sz : Nat) (aa : Nat) (k : Nat) (ref : Int32) (n : Nat) (num : Nat) (den : Nat) (mag : Nat) (fac : UInt64) (who : Nat) (fnd : Int32) (pc : Nat) (ic : Nat) (a : Nat) (sta : Nat) (lb : Nat) (la : Nat) (fo : Int32) (dee : Nat) (kc : Nat) (fl : Nat → Int32) (wd : Nat → Int32) (df : Nat → Int32) (ag : Nat → Int32) (mk : Nat → Int32) (sc : Nat → Int32) (nu : Nat → Int32) (co : Nat → Int32) (fi : Nat → Int32) (ad : Nat → Int32) (it : Nat → Int32) (sp : Nat → Int32) (stk : Nat → Int32) (hn : n ≤ 600) (hB : FB fl) (haa : 2 ≤ aa ∧ aa ≤ 5) (hk : k ≤ 3 ∧ a + 1 + k ≤ n) (hf : Fn fac) (hFO : FO fo) : CtI l yX9_kept wsX9_kept ({ frames := 3, cells := 0, slots := 0, locals := 69 }) G (TY ci cz cl) O0 [.ref (q 0), .int (nI aa), .int (nI k)] [oM q ref n num den mag fac who fnd pc ic a sta lb la fo dee kc, aI ci (q 1) 600 fl, aI ci (q 2) 1024 wd, aI cz (q 3) 8 df, aI cz (q 4) 8 ag, aI ci (q 5) 8 mk, aI ci (q 6) 8 sc, aI ci (q 7) 12 nu, aI ci (q 8) 12 co, aI ci (q 9) 12 fi, aI ci (q 10) 12 ad, aI ci (q 11) 1800 it, aI ci (q 12) 8 sp, aI ci (q 13) 160 stk] sz (fun (r : Int32) (u : Nat × (Nat → Int32)) => r = nI u.1 ∧ u.1 ≤ 1 ∧ RKept fl n a aa k sp u.2) (fun u : Nat × (Nat → Int32) => [oM q ref n num den mag fac who fnd pc ic a sta lb la fo dee kc, aI ci (q 1) 600 fl, aI ci (q 2) 1024 wd, aI cz (q 3) 8 df, aI cz (q 4) 8 ag, aI ci (q 5) 8 mk, aI ci (q 6) 8 sc, aI ci (q 7) 12 nu, aI ci (q 8) 12 co, aI ci (q 9) 12 fi, aI ci (q 10) 12 ad, aI ci (q 11) 1800 it, aI ci (q 12) 8 u.2, aI ci (q 13) 160 stk]) 0 0 := by
  refine Met.ofW (cc := cX9_kept) (maxL := 3) (ret := (some .boolean)) (by decide) rfl ?_
  intro p e s m args below meth c s₁ B hml hv
  obtain ⟨rfl, ⟨hsz, hP, hK, hD0⟩, hO⟩ := hv
  have hx := B.exec
  have hb := B.bytes
  have hr := B.returns
  have hts := atoms_spec (ws := wsX9_kept) B.pre
  have hown : s.vm.findClass RX9 = some m.cls := findClass_of_methodNamed B.named
  have hlocks := B.notSynchronized
  subst hsz
  have hD := hD0.self (sz := s.heap.size)
  generalize hAe : va_A [oM q ref n num den mag fac who fnd pc ic a sta lb la fo dee kc, aI ci (q 1) 600 fl, aI ci (q 2) 1024 wd, aI cz (q 3) 8 df, aI cz (q 4) 8 ag, aI ci (q 5) 8 mk, aI ci (q 6) 8 sc, aI ci (q 7) 12 nu, aI ci (q 8) 12 co, aI ci (q 9) 12 fi, aI ci (q 10) 12 ad, aI ci (q 11) 1800 it, aI ci (q 12) 8 sp, aI ci (q 13) 160 stk] s.heap.size = A at hD hO ⊢
  have hA : ∀ q : Nat, s.heap.size ≤ q → A q := fun q h => by rw [← hAe]; exact Or.inr h
  have ok := ok0
  refine startH (A := A) (fun H locs hP hS => ?_) hP
  have hi_X9 := (by decide +kernel : ∀ w ∈ wsX90, w ∈ wsX9_kept)
  have f_48 := hts (.fieldLink RX9 48 "PageReaderModel" "spot" "[I") (by decide +kernel)
  have f_105 := hts (.fieldLink RX9 105 "PageReaderModel" "at" "I") (by decide +kernel)
  have hl := lv_entry ([.ref (q 0), .int (nI aa), .int (nI k)]) (n := 3) (Nat.le_of_ble_eq_true rfl)
  rw [lg_entry_eq]
  generalize (lg_sl ([.ref (q 0), .int (nI aa), .int (nI k)]) ++ List.replicate (3 - (lg_sl ([.ref (q 0), .int (nI aa), .int (nI k)])).length) Slot.unset).toArray = ls at hl ⊢
  have hl : lv_has ls 3 [(0, .ref (q 0)), (1, .int (nI aa)), (2, .int (nI k))] := hl
  refine lv_iload_n hx hb dX9_kept_0 rfl (lv_at hl 2 rfl) ?_
  refine lv_if_le (tgt := 21) hx hb dX9_kept_1 (by decide) (fun c_1 => ?_) (fun c_1 => ?_)
  · skip
    have z_1 := (nI_leI (a := k) (b := 0) (by omega) (by omega)).mp c_1
    refine lv_iload_n hx hb dX9_kept_21 rfl (lv_at hl 1 rfl) ?_
    refine lv_iconst (v := nI 4) hx hb dX9_kept_22 (by decide) ?_
    refine lv_icmp_ge (tgt := 39) hx hb dX9_kept_23 (by decide) (fun c_2 => ?_) (fun c_2 => ?_)
    · skip
      have z_2 := (nI_leI (a := 4) (b := aa) (by omega) (by omega)).mp c_2
      refine lv_aload_n hx hb dX9_kept_39 rfl (lv_at hl 0 rfl) ?_
      refine lv_aload_n hx hb dX9_kept_40 rfl (lv_at hl 0 rfl) ?_
      refine va_get (D := G) (ci := 8) (v := .ref (q 12)) (C := RX9) (T := TX9) (N := 30) hx hb hts hi_X9 hown hK hP 0 rfl rfl 28 (by decide) f_48 (fun _ h9 => h9) rfl dX9_kept_41 ?_
      refine lv_iload_n hx hb dX9_kept_44 rfl (lv_at hl 1 rfl) ?_
      refine va_iald hx hb hK hP 12 0 rfl rfl (vp_in_nI (by omega) (by omega)) dX9_kept_45 ?_
      refine tp (y := sp aa) (congrArg sp (nI_clamp (by omega))) ?_
      refine jV (va_runV (As := [.int (sp aa)]) (rest := []) ⟨hx, hb, hml, hown, hts⟩ (c_X9_down l G ci cz cl q H.size (sp aa) ref n num den mag fac who fnd pc ic a sta lb la fo dee kc fl wd df ag mk sc nu co fi ad it sp stk (by assumption) (by first | assumption | exact FO_m)) (cwV 1 hts gX9_kept_X9_down rfl rfl rfl (by decide +kernel) ⟨(Nat.le_of_ble_eq_true rfl), (Nat.le_of_ble_eq_true rfl)⟩) (pV (wc := [oM q ref n num den mag fac who fnd pc ic a sta lb la fo dee kc, aI ci (q 1) 600 fl, aI ci (q 2) 1024 wd, aI cz (q 3) 8 df, aI cz (q 4) 8 ag, aI ci (q 5) 8 mk, aI ci (q 6) 8 sc, aI ci (q 7) 12 nu, aI ci (q 8) 12 co, aI ci (q 9) 12 fi, aI ci (q 10) 12 ad, aI ci (q 11) 1800 it, aI ci (q 12) 8 sp, aI ci (q 13) 160 stk]) ok hK hP hD hS hA hO [0, 1, 2, 3, 4, 5, 6, 7, 8, 9, 10, 11, 12, 13] rfl (by decide) 0 rfl rfl) rfl rfl hl.1 rfl (lv_room (Nat.le_of_ble_eq_true rfl)) dX9_kept_46 ⟨(Nat.le_of_ble_eq_true rfl), (Nat.le_of_ble_eq_true rfl)⟩) (wr := []) hP hD hS hA [0, 1, 2, 3, 4, 5, 6, 7, 8, 9, 10, 11, 12, 13] [] rfl rfl (by decide) (by decide) (fun u H locs hw_3 hP hD hS => ?_)
      obtain ⟨sp2_3, rfl⟩ : ∃ z, z = u := ⟨_, rfl⟩
      try dsimp only at hw_3
      have h_3 := hw_3
      have hP : va_P G vwCl [oM q ref n num den mag fac who fnd pc ic a sta lb la fo dee kc, aI ci (q 1) 600 fl, aI ci (q 2) 1024 wd, aI cz (q 3) 8 df, aI cz (q 4) 8 ag, aI ci (q 5) 8 mk, aI ci (q 6) 8 sc, aI ci (q 7) 12 nu, aI ci (q 8) 12 co, aI ci (q 9) 12 fi, aI ci (q 10) 12 ad, aI ci (q 11) 1800 it, aI ci (q 12) 8 sp2_3, aI ci (q 13) 160 stk] H := hP
      have hD : va_D A [oM q ref n num den mag fac who fnd pc ic a sta lb la fo dee kc, aI ci (q 1) 600 fl, aI ci (q 2) 1024 wd, aI cz (q 3) 8 df, aI cz (q 4) 8 ag, aI ci (q 5) 8 mk, aI ci (q 6) 8 sc, aI ci (q 7) 12 nu, aI ci (q 8) 12 co, aI ci (q 9) 12 fi, aI ci (q 10) 12 ad, aI ci (q 11) 1800 it, aI ci (q 12) 8 sp2_3, aI ci (q 13) 160 stk] := hD
      refine lv_iconst (v := nI 1) hx hb dX9_kept_49 (by decide) ?_
      exact rI (v := nI 1) hx hb hr hlocks nb1 hK hP hD hS [0, 1, 2, 3, 4, 5, 6, 7, 8, 9, 10, 11, 12, 13] (1, sp2_3) rfl (by decide) ⟨rfl, by (try dsimp only); omega, Exists.intro _ ⟨Or.inr ⟨by (try dsimp only); omega, rfl⟩, Or.inr ⟨by (try dsimp only); omega, h_3⟩⟩⟩ dX9_kept_50
    · skip
      have z_2 := mt (nI_leI (a := 4) (b := aa) (by omega) (by omega)).mpr c_2
      refine lv_aload_n hx hb dX9_kept_26 rfl (lv_at hl 0 rfl) ?_
      refine lv_aload_n hx hb dX9_kept_27 rfl (lv_at hl 0 rfl) ?_
      refine va_get (D := G) (ci := 8) (v := .ref (q 12)) (C := RX9) (T := TX9) (N := 30) hx hb hts hi_X9 hown hK hP 0 rfl rfl 28 (by decide) f_48 (fun _ h9 => h9) rfl dX9_kept_28 ?_
      refine lv_iload_n hx hb dX9_kept_31 rfl (lv_at hl 1 rfl) ?_
      refine va_iald hx hb hK hP 12 0 rfl rfl (vp_in_nI (by omega) (by omega)) dX9_kept_32 ?_
      refine tp (y := sp aa) (congrArg sp (nI_clamp (by omega))) ?_
      refine jV (va_runV (As := [.int (sp aa)]) (rest := []) ⟨hx, hb, hml, hown, hts⟩ (c_X9_right l G ci cz cl q H.size (sp aa) ref n num den mag fac who fnd pc ic a sta lb la fo dee kc fl wd df ag mk sc nu co fi ad it sp stk (by assumption) (by first | assumption | exact FO_m)) (cwV 1 hts gX9_kept_X9_right rfl rfl rfl (by decide +kernel) ⟨(Nat.le_of_ble_eq_true rfl), (Nat.le_of_ble_eq_true rfl)⟩) (pV (wc := [oM q ref n num den mag fac who fnd pc ic a sta lb la fo dee kc, aI ci (q 1) 600 fl, aI ci (q 2) 1024 wd, aI cz (q 3) 8 df, aI cz (q 4) 8 ag, aI ci (q 5) 8 mk, aI ci (q 6) 8 sc, aI ci (q 7) 12 nu, aI ci (q 8) 12 co, aI ci (q 9) 12 fi, aI ci (q 10) 12 ad, aI ci (q 11) 1800 it, aI ci (q 12) 8 sp, aI ci (q 13) 160 stk]) ok hK hP hD hS hA hO [0, 1, 2, 3, 4, 5, 6, 7, 8, 9, 10, 11, 12, 13] rfl (by decide) 0 rfl rfl) rfl rfl hl.1 rfl (lv_room (Nat.le_of_ble_eq_true rfl)) dX9_kept_33 ⟨(Nat.le_of_ble_eq_true rfl), (Nat.le_of_ble_eq_true rfl)⟩) (wr := []) hP hD hS hA [0, 1, 2, 3, 4, 5, 6, 7, 8, 9, 10, 11, 12, 13] [] rfl rfl (by decide) (by decide) (fun u H locs hw_4 hP hD hS => ?_)
      obtain ⟨sp2_4, rfl⟩ : ∃ z, z = u := ⟨_, rfl⟩
      try dsimp only at hw_4
      have h_4 := hw_4
      have hP : va_P G vwCl [oM q ref n num den mag fac who fnd pc ic a sta lb la fo dee kc, aI ci (q 1) 600 fl, aI ci (q 2) 1024 wd, aI cz (q 3) 8 df, aI cz (q 4) 8 ag, aI ci (q 5) 8 mk, aI ci (q 6) 8 sc, aI ci (q 7) 12 nu, aI ci (q 8) 12 co, aI ci (q 9) 12 fi, aI ci (q 10) 12 ad, aI ci (q 11) 1800 it, aI ci (q 12) 8 sp2_4, aI ci (q 13) 160 stk] H := hP
      have hD : va_D A [oM q ref n num den mag fac who fnd pc ic a sta lb la fo dee kc, aI ci (q 1) 600 fl, aI ci (q 2) 1024 wd, aI cz (q 3) 8 df, aI cz (q 4) 8 ag, aI ci (q 5) 8 mk, aI ci (q 6) 8 sc, aI ci (q 7) 12 nu, aI ci (q 8) 12 co, aI ci (q 9) 12 fi, aI ci (q 10) 12 ad, aI ci (q 11) 1800 it, aI ci (q 12) 8 sp2_4, aI ci (q 13) 160 stk] := hD
      refine lv_goto (tgt := 49) hx hb dX9_kept_36 (by decide) ?_
      refine lv_iconst (v := nI 1) hx hb dX9_kept_49 (by decide) ?_
      exact rI (v := nI 1) hx hb hr hlocks nb1 hK hP hD hS [0, 1, 2, 3, 4, 5, 6, 7, 8, 9, 10, 11, 12, 13] (1, sp2_4) rfl (by decide) ⟨rfl, by (try dsimp only); omega, Exists.intro _ ⟨Or.inr ⟨by (try dsimp only); omega, rfl⟩, Or.inl ⟨by (try dsimp only); omega, h_4⟩⟩⟩ dX9_kept_50
  · skip
    have z_1 := mt (nI_leI (a := k) (b := 0) (by omega) (by omega)).mpr c_1
    refine lv_aload_n hx hb dX9_kept_4 rfl (lv_at hl 0 rfl) ?_
    refine va_get (D := G) (ci := 8) (v := .ref (q 12)) (C := RX9) (T := TX9) (N := 30) hx hb hts hi_X9 hown hK hP 0 rfl rfl 28 (by decide) f_48 (fun _ h9 => h9) rfl dX9_kept_5 ?_
    refine lv_iload_n hx hb dX9_kept_8 rfl (lv_at hl 1 rfl) ?_
    refine lv_aload_n hx hb dX9_kept_9 rfl (lv_at hl 0 rfl) ?_
    refine lv_aload_n hx hb dX9_kept_10 rfl (lv_at hl 0 rfl) ?_
    refine va_get (D := G) (ci := 8) (v := .int (nI a)) (C := RX9) (T := TX9) (N := 30) hx hb hts hi_X9 hown hK hP 0 rfl rfl 21 (by decide) f_105 (fun _ h9 => h9) rfl dX9_kept_11 ?_
    refine lv_iconst (v := nI 1) hx hb dX9_kept_14 (by decide) ?_
    refine lv_iadd hx hb dX9_kept_15 ?_
    refine tp (nI_add _ _) ?_
    refine lv_iload_n hx hb dX9_kept_16 rfl (lv_at hl 2 rfl) ?_
    refine jI (va_runV (As := [.int (nI (a + 1)), .int (nI k)]) (rest := [.int (nI aa), .ref (q 12)]) ⟨hx, hb, hml, hown, hts⟩ (c_X9_signedAt l G ci cz cl q H.size (a + 1) k ref n num den mag fac who fnd pc ic a sta lb la fo dee kc fl wd df ag mk sc nu co fi ad it sp stk (by omega) hB (by omega) (by omega)) (cwV 2 hts gX9_kept_X9_signedAt rfl rfl rfl (by decide +kernel) ⟨(Nat.le_of_ble_eq_true rfl), (Nat.le_of_ble_eq_true rfl)⟩) (pV (wc := [oM q ref n num den mag fac who fnd pc ic a sta lb la fo dee kc, aI ci (q 1) 600 fl, aI ci (q 2) 1024 wd, aI cz (q 3) 8 df, aI cz (q 4) 8 ag, aI ci (q 5) 8 mk, aI ci (q 6) 8 sc, aI ci (q 7) 12 nu, aI ci (q 8) 12 co, aI ci (q 9) 12 fi, aI ci (q 10) 12 ad, aI ci (q 11) 1800 it, aI ci (q 12) 8 sp, aI ci (q 13) 160 stk]) ok hK hP hD hS hA hO [0, 1, 2, 3, 4, 5, 6, 7, 8, 9, 10, 11, 12, 13] rfl (by decide) 0 rfl rfl) rfl rfl hl.1 rfl (lv_room (Nat.le_of_ble_eq_true rfl)) dX9_kept_17 ⟨(Nat.le_of_ble_eq_true rfl), (Nat.le_of_ble_eq_true rfl)⟩) (wr := []) hP hD hS hA [0, 1, 2, 3, 4, 5, 6, 7, 8, 9, 10, 11, 12, 13] [] rfl rfl (by decide) (by decide) (fun r_5 u H locs hw_5 hP hD hS => ?_)
    try dsimp only at hw_5
    obtain rfl := hw_5
    have hP : va_P G vwCl [oM q ref n num den mag fac who fnd pc ic a sta lb la fo dee kc, aI ci (q 1) 600 fl, aI ci (q 2) 1024 wd, aI cz (q 3) 8 df, aI cz (q 4) 8 ag, aI ci (q 5) 8 mk, aI ci (q 6) 8 sc, aI ci (q 7) 12 nu, aI ci (q 8) 12 co, aI ci (q 9) 12 fi, aI ci (q 10) 12 ad, aI ci (q 11) 1800 it, aI ci (q 12) 8 sp, aI ci (q 13) 160 stk] H := hP
    have hD : va_D A [oM q ref n num den mag fac who fnd pc ic a sta lb la fo dee kc, aI ci (q 1) 600 fl, aI ci (q 2) 1024 wd, aI cz (q 3) 8 df, aI cz (q 4) 8 ag, aI ci (q 5) 8 mk, aI ci (q 6) 8 sc, aI ci (q 7) 12 nu, aI ci (q 8) 12 co, aI ci (q 9) 12 fi, aI ci (q 10) 12 ad, aI ci (q 11) 1800 it, aI ci (q 12) 8 sp, aI ci (q 13) 160 stk] := hD
    refine va_iast hx hb hK hP hD hS 12 0 rfl rfl (vp_in_nI (by omega) (by omega)) dX9_kept_20 (fun H locs hP hD hS => ?_)
    rw [nI_clamp (by omega)] at hP hD
    have hP : va_P G vwCl [oM q ref n num den mag fac who fnd pc ic a sta lb la fo dee kc, aI ci (q 1) 600 fl, aI ci (q 2) 1024 wd, aI cz (q 3) 8 df, aI cz (q 4) 8 ag, aI ci (q 5) 8 mk, aI ci (q 6) 8 sc, aI ci (q 7) 12 nu, aI ci (q 8) 12 co, aI ci (q 9) 12 fi, aI ci (q 10) 12 ad, aI ci (q 11) 1800 it, aI ci (q 12) 8 (upd sp aa (rdS fl n (a + 1) k)), aI ci (q 13) 160 stk] H := hP
    have hD : va_D A [oM q ref n num den mag fac who fnd pc ic a sta lb la fo dee kc, aI ci (q 1) 600 fl, aI ci (q 2) 1024 wd, aI cz (q 3) 8 df, aI cz (q 4) 8 ag, aI ci (q 5) 8 mk, aI ci (q 6) 8 sc, aI ci (q 7) 12 nu, aI ci (q 8) 12 co, aI ci (q 9) 12 fi, aI ci (q 10) 12 ad, aI ci (q 11) 1800 it, aI ci (q 12) 8 (upd sp aa (rdS fl n (a + 1) k)), aI ci (q 13) 160 stk] := hD
    refine lv_iload_n hx hb dX9_kept_21 rfl (lv_at hl 1 rfl) ?_
    refine lv_iconst (v := nI 4) hx hb dX9_kept_22 (by decide) ?_
    refine lv_icmp_ge (tgt := 39) hx hb dX9_kept_23 (by decide) (fun c_6 => ?_) (fun c_6 => ?_)
    · skip
      have z_6 := (nI_leI (a := 4) (b := aa) (by omega) (by omega)).mp c_6
      refine lv_aload_n hx hb dX9_kept_39 rfl (lv_at hl 0 rfl) ?_
      refine lv_aload_n hx hb dX9_kept_40 rfl (lv_at hl 0 rfl) ?_
      refine va_get (D := G) (ci := 8) (v := .ref (q 12)) (C := RX9) (T := TX9) (N := 30) hx hb hts hi_X9 hown hK hP 0 rfl rfl 28 (by decide) f_48 (fun _ h9 => h9) rfl dX9_kept_41 ?_
      refine lv_iload_n hx hb dX9_kept_44 rfl (lv_at hl 1 rfl) ?_
      refine va_iald hx hb hK hP 12 0 rfl rfl (vp_in_nI (by omega) (by omega)) dX9_kept_45 ?_
      refine tp (y := (upd sp aa (rdS fl n (a + 1) k)) aa) (congrArg (upd sp aa (rdS fl n (a + 1) k)) (nI_clamp (by omega))) ?_
      refine jV (va_runV (As := [.int ((upd sp aa (rdS fl n (a + 1) k)) aa)]) (rest := []) ⟨hx, hb, hml, hown, hts⟩ (c_X9_down l G ci cz cl q H.size ((upd sp aa (rdS fl n (a + 1) k)) aa) ref n num den mag fac who fnd pc ic a sta lb la fo dee kc fl wd df ag mk sc nu co fi ad it (upd sp aa (rdS fl n (a + 1) k)) stk (by assumption) (by first | assumption | exact FO_m)) (cwV 1 hts gX9_kept_X9_down rfl rfl rfl (by decide +kernel) ⟨(Nat.le_of_ble_eq_true rfl), (Nat.le_of_ble_eq_true rfl)⟩) (pV (wc := [oM q ref n num den mag fac who fnd pc ic a sta lb la fo dee kc, aI ci (q 1) 600 fl, aI ci (q 2) 1024 wd, aI cz (q 3) 8 df, aI cz (q 4) 8 ag, aI ci (q 5) 8 mk, aI ci (q 6) 8 sc, aI ci (q 7) 12 nu, aI ci (q 8) 12 co, aI ci (q 9) 12 fi, aI ci (q 10) 12 ad, aI ci (q 11) 1800 it, aI ci (q 12) 8 (upd sp aa (rdS fl n (a + 1) k)), aI ci (q 13) 160 stk]) ok hK hP hD hS hA hO [0, 1, 2, 3, 4, 5, 6, 7, 8, 9, 10, 11, 12, 13] rfl (by decide) 0 rfl rfl) rfl rfl hl.1 rfl (lv_room (Nat.le_of_ble_eq_true rfl)) dX9_kept_46 ⟨(Nat.le_of_ble_eq_true rfl), (Nat.le_of_ble_eq_true rfl)⟩) (wr := []) hP hD hS hA [0, 1, 2, 3, 4, 5, 6, 7, 8, 9, 10, 11, 12, 13] [] rfl rfl (by decide) (by decide) (fun u H locs hw_7 hP hD hS => ?_)
      obtain ⟨sp2_7, rfl⟩ : ∃ z, z = u := ⟨_, rfl⟩
      try dsimp only at hw_7
      have h_7 := hw_7
      have hP : va_P G vwCl [oM q ref n num den mag fac who fnd pc ic a sta lb la fo dee kc, aI ci (q 1) 600 fl, aI ci (q 2) 1024 wd, aI cz (q 3) 8 df, aI cz (q 4) 8 ag, aI ci (q 5) 8 mk, aI ci (q 6) 8 sc, aI ci (q 7) 12 nu, aI ci (q 8) 12 co, aI ci (q 9) 12 fi, aI ci (q 10) 12 ad, aI ci (q 11) 1800 it, aI ci (q 12) 8 sp2_7, aI ci (q 13) 160 stk] H := hP
      have hD : va_D A [oM q ref n num den mag fac who fnd pc ic a sta lb la fo dee kc, aI ci (q 1) 600 fl, aI ci (q 2) 1024 wd, aI cz (q 3) 8 df, aI cz (q 4) 8 ag, aI ci (q 5) 8 mk, aI ci (q 6) 8 sc, aI ci (q 7) 12 nu, aI ci (q 8) 12 co, aI ci (q 9) 12 fi, aI ci (q 10) 12 ad, aI ci (q 11) 1800 it, aI ci (q 12) 8 sp2_7, aI ci (q 13) 160 stk] := hD
      refine lv_iconst (v := nI 1) hx hb dX9_kept_49 (by decide) ?_
      exact rI (v := nI 1) hx hb hr hlocks nb1 hK hP hD hS [0, 1, 2, 3, 4, 5, 6, 7, 8, 9, 10, 11, 12, 13] (1, sp2_7) rfl (by decide) ⟨rfl, by (try dsimp only); omega, Exists.intro _ ⟨Or.inl ⟨by (try dsimp only); omega, rfl⟩, Or.inr ⟨by (try dsimp only); omega, h_7⟩⟩⟩ dX9_kept_50
    · skip
      have z_6 := mt (nI_leI (a := 4) (b := aa) (by omega) (by omega)).mpr c_6
      refine lv_aload_n hx hb dX9_kept_26 rfl (lv_at hl 0 rfl) ?_
      refine lv_aload_n hx hb dX9_kept_27 rfl (lv_at hl 0 rfl) ?_
      refine va_get (D := G) (ci := 8) (v := .ref (q 12)) (C := RX9) (T := TX9) (N := 30) hx hb hts hi_X9 hown hK hP 0 rfl rfl 28 (by decide) f_48 (fun _ h9 => h9) rfl dX9_kept_28 ?_
      refine lv_iload_n hx hb dX9_kept_31 rfl (lv_at hl 1 rfl) ?_
      refine va_iald hx hb hK hP 12 0 rfl rfl (vp_in_nI (by omega) (by omega)) dX9_kept_32 ?_
      refine tp (y := (upd sp aa (rdS fl n (a + 1) k)) aa) (congrArg (upd sp aa (rdS fl n (a + 1) k)) (nI_clamp (by omega))) ?_
      refine jV (va_runV (As := [.int ((upd sp aa (rdS fl n (a + 1) k)) aa)]) (rest := []) ⟨hx, hb, hml, hown, hts⟩ (c_X9_right l G ci cz cl q H.size ((upd sp aa (rdS fl n (a + 1) k)) aa) ref n num den mag fac who fnd pc ic a sta lb la fo dee kc fl wd df ag mk sc nu co fi ad it (upd sp aa (rdS fl n (a + 1) k)) stk (by assumption) (by first | assumption | exact FO_m)) (cwV 1 hts gX9_kept_X9_right rfl rfl rfl (by decide +kernel) ⟨(Nat.le_of_ble_eq_true rfl), (Nat.le_of_ble_eq_true rfl)⟩) (pV (wc := [oM q ref n num den mag fac who fnd pc ic a sta lb la fo dee kc, aI ci (q 1) 600 fl, aI ci (q 2) 1024 wd, aI cz (q 3) 8 df, aI cz (q 4) 8 ag, aI ci (q 5) 8 mk, aI ci (q 6) 8 sc, aI ci (q 7) 12 nu, aI ci (q 8) 12 co, aI ci (q 9) 12 fi, aI ci (q 10) 12 ad, aI ci (q 11) 1800 it, aI ci (q 12) 8 (upd sp aa (rdS fl n (a + 1) k)), aI ci (q 13) 160 stk]) ok hK hP hD hS hA hO [0, 1, 2, 3, 4, 5, 6, 7, 8, 9, 10, 11, 12, 13] rfl (by decide) 0 rfl rfl) rfl rfl hl.1 rfl (lv_room (Nat.le_of_ble_eq_true rfl)) dX9_kept_33 ⟨(Nat.le_of_ble_eq_true rfl), (Nat.le_of_ble_eq_true rfl)⟩) (wr := []) hP hD hS hA [0, 1, 2, 3, 4, 5, 6, 7, 8, 9, 10, 11, 12, 13] [] rfl rfl (by decide) (by decide) (fun u H locs hw_8 hP hD hS => ?_)
      obtain ⟨sp2_8, rfl⟩ : ∃ z, z = u := ⟨_, rfl⟩
      try dsimp only at hw_8
      have h_8 := hw_8
      have hP : va_P G vwCl [oM q ref n num den mag fac who fnd pc ic a sta lb la fo dee kc, aI ci (q 1) 600 fl, aI ci (q 2) 1024 wd, aI cz (q 3) 8 df, aI cz (q 4) 8 ag, aI ci (q 5) 8 mk, aI ci (q 6) 8 sc, aI ci (q 7) 12 nu, aI ci (q 8) 12 co, aI ci (q 9) 12 fi, aI ci (q 10) 12 ad, aI ci (q 11) 1800 it, aI ci (q 12) 8 sp2_8, aI ci (q 13) 160 stk] H := hP
      have hD : va_D A [oM q ref n num den mag fac who fnd pc ic a sta lb la fo dee kc, aI ci (q 1) 600 fl, aI ci (q 2) 1024 wd, aI cz (q 3) 8 df, aI cz (q 4) 8 ag, aI ci (q 5) 8 mk, aI ci (q 6) 8 sc, aI ci (q 7) 12 nu, aI ci (q 8) 12 co, aI ci (q 9) 12 fi, aI ci (q 10) 12 ad, aI ci (q 11) 1800 it, aI ci (q 12) 8 sp2_8, aI ci (q 13) 160 stk] := hD
      refine lv_goto (tgt := 49) hx hb dX9_kept_36 (by decide) ?_
      refine lv_iconst (v := nI 1) hx hb dX9_kept_49 (by decide) ?_
      exact rI (v := nI 1) hx hb hr hlocks nb1 hK hP hD hS [0, 1, 2, 3, 4, 5, 6, 7, 8, 9, 10, 11, 12, 13] (1, sp2_8) rfl (by decide) ⟨rfl, by (try dsimp only); omega, Exists.intro _ ⟨Or.inl ⟨by (try dsimp only); omega, rfl⟩, Or.inl ⟨by (try dsimp only); omega, h_8⟩⟩⟩ dX9_kept_50
set_option maxHeartbeats 4000000 in
set_option maxRecDepth 100000 in
theorem c_X9_moves (l : Launch) (G : va_G) (ci cz cl : ClassId) (q : Nat → Nat) (sz : Nat) (k : Nat) (ref : Int32) (n : Nat) (num : Nat) (den : Nat) (mag : Nat) (fac : UInt64) (who : Nat) (fnd : Int32) (pc : Nat) (ic : Nat) (a : Nat) (sta : Nat) (lb : Nat) (la : Nat) (fo : Int32) (dee : Nat) (kc : Nat) (fl : Nat → Int32) (wd : Nat → Int32) (df : Nat → Int32) (ag : Nat → Int32) (mk : Nat → Int32) (sc : Nat → Int32) (nu : Nat → Int32) (co : Nat → Int32) (fi : Nat → Int32) (ad : Nat → Int32) (it : Nat → Int32) (sp : Nat → Int32) (stk : Nat → Int32) (hn : n ≤ 600) (hB : FB fl) (hk : 136 ≤ k ∧ k ≤ 157 ∧ a + 1 + tbk k ≤ n) (hf : Fn fac) (hFO : FO fo) : CtI l yX9_moves wsX9_moves ({ frames := 4, cells := 0, slots := 0, locals := 91 }) G (TY ci cz cl) O0 [.ref (q 0), .int (nI k)] [oM q ref n num den mag fac who fnd pc ic a sta lb la fo dee kc, aI ci (q 1) 600 fl, aI ci (q 2) 1024 wd, aI cz (q 3) 8 df, aI cz (q 4) 8 ag, aI ci (q 5) 8 mk, aI ci (q 6) 8 sc, aI ci (q 7) 12 nu, aI ci (q 8) 12 co, aI ci (q 9) 12 fi, aI ci (q 10) 12 ad, aI ci (q 11) 1800 it, aI ci (q 12) 8 sp, aI ci (q 13) 160 stk] sz (fun (r : Int32) (u : Nat × (Nat → Int32)) => r = nI u.1 ∧ u.1 ≤ 1 ∧ u.1 = 1 ∧ RMove fl n a k sp u.2) (fun u : Nat × (Nat → Int32) => [oM q ref n num den mag fac who fnd pc ic a sta lb la fo dee kc, aI ci (q 1) 600 fl, aI ci (q 2) 1024 wd, aI cz (q 3) 8 df, aI cz (q 4) 8 ag, aI ci (q 5) 8 mk, aI ci (q 6) 8 sc, aI ci (q 7) 12 nu, aI ci (q 8) 12 co, aI ci (q 9) 12 fi, aI ci (q 10) 12 ad, aI ci (q 11) 1800 it, aI ci (q 12) 8 u.2, aI ci (q 13) 160 stk]) 0 0 := by
  refine Met.ofW (cc := cX9_moves) (maxL := 3) (ret := (some .boolean)) (by decide) rfl ?_
  intro p e s m args below meth c s₁ B hml hv
  obtain ⟨rfl, ⟨hsz, hP, hK, hD0⟩, hO⟩ := hv
  have hx := B.exec
  have hb := B.bytes
  have hr := B.returns
  have hts := atoms_spec (ws := wsX9_moves) B.pre
  have hown : s.vm.findClass RX9 = some m.cls := findClass_of_methodNamed B.named
  have hlocks := B.notSynchronized
  subst hsz
  have hD := hD0.self (sz := s.heap.size)
  generalize hAe : va_A [oM q ref n num den mag fac who fnd pc ic a sta lb la fo dee kc, aI ci (q 1) 600 fl, aI ci (q 2) 1024 wd, aI cz (q 3) 8 df, aI cz (q 4) 8 ag, aI ci (q 5) 8 mk, aI ci (q 6) 8 sc, aI ci (q 7) 12 nu, aI ci (q 8) 12 co, aI ci (q 9) 12 fi, aI ci (q 10) 12 ad, aI ci (q 11) 1800 it, aI ci (q 12) 8 sp, aI ci (q 13) 160 stk] s.heap.size = A at hD hO ⊢
  have hA : ∀ q : Nat, s.heap.size ≤ q → A q := fun q h => by rw [← hAe]; exact Or.inr h
  have ok := ok0
  refine startH (A := A) (fun H locs hP hS => ?_) hP
  have hi_X9 := (by decide +kernel : ∀ w ∈ wsX90, w ∈ wsX9_moves)
  have f_105 := hts (.fieldLink RX9 105 "PageReaderModel" "at" "I") (by decide +kernel)
  have hl := lv_entry ([.ref (q 0), .int (nI k)]) (n := 3) (Nat.le_of_ble_eq_true rfl)
  rw [lg_entry_eq]
  generalize (lg_sl ([.ref (q 0), .int (nI k)]) ++ List.replicate (3 - (lg_sl ([.ref (q 0), .int (nI k)])).length) Slot.unset).toArray = ls at hl ⊢
  have hl : lv_has ls 3 [(0, .ref (q 0)), (1, .int (nI k))] := hl
  refine lv_iload_n hx hb dX9_moves_0 rfl (lv_at hl 1 rfl) ?_
  refine jI (va_runS (As := [.int (nI k)]) (rest := []) ⟨hx, hb, hml, hown, hts⟩ (c_X9_movesBehind l G ci cz cl q H.size k (by omega)) (va_cwS 1 hts gX9_moves_X9_movesBehind rfl rfl rfl (by decide +kernel) ⟨(Nat.le_of_ble_eq_true rfl), (Nat.le_of_ble_eq_true rfl)⟩) (pS (wc := []) ok hK hP hD hS hA hO [] rfl (by decide)) rfl rfl hl.1 rfl (lv_room (Nat.le_of_ble_eq_true rfl)) dX9_moves_1 ⟨(Nat.le_of_ble_eq_true rfl), (Nat.le_of_ble_eq_true rfl)⟩) (wr := [oM q ref n num den mag fac who fnd pc ic a sta lb la fo dee kc, aI ci (q 1) 600 fl, aI ci (q 2) 1024 wd, aI cz (q 3) 8 df, aI cz (q 4) 8 ag, aI ci (q 5) 8 mk, aI ci (q 6) 8 sc, aI ci (q 7) 12 nu, aI ci (q 8) 12 co, aI ci (q 9) 12 fi, aI ci (q 10) 12 ad, aI ci (q 11) 1800 it, aI ci (q 12) 8 sp, aI ci (q 13) 160 stk]) hP hD hS hA [] [0, 1, 2, 3, 4, 5, 6, 7, 8, 9, 10, 11, 12, 13] rfl rfl (by decide) (by decide) (fun r_1 u H locs hw_1 hP hD hS => ?_)
  try dsimp only at hw_1
  obtain ⟨rfl, h_1⟩ := hw_1
  have hP : va_P G vwCl [oM q ref n num den mag fac who fnd pc ic a sta lb la fo dee kc, aI ci (q 1) 600 fl, aI ci (q 2) 1024 wd, aI cz (q 3) 8 df, aI cz (q 4) 8 ag, aI ci (q 5) 8 mk, aI ci (q 6) 8 sc, aI ci (q 7) 12 nu, aI ci (q 8) 12 co, aI ci (q 9) 12 fi, aI ci (q 10) 12 ad, aI ci (q 11) 1800 it, aI ci (q 12) 8 sp, aI ci (q 13) 160 stk] H := hP
  have hD : va_D A [oM q ref n num den mag fac who fnd pc ic a sta lb la fo dee kc, aI ci (q 1) 600 fl, aI ci (q 2) 1024 wd, aI cz (q 3) 8 df, aI cz (q 4) 8 ag, aI ci (q 5) 8 mk, aI ci (q 6) 8 sc, aI ci (q 7) 12 nu, aI ci (q 8) 12 co, aI ci (q 9) 12 fi, aI ci (q 10) 12 ad, aI ci (q 11) 1800 it, aI ci (q 12) 8 sp, aI ci (q 13) 160 stk] := hD
  refine lv_istore_n (lv' := [(2, .int (nI (tbk k))), (0, .ref (q 0)), (1, .int (nI k))]) hx hb dX9_moves_4 rfl hl (by decide) rfl (fun ls hl => ?_)
  have htb : 136 ≤ k ∧ k ≤ 138 ∨ 147 ≤ k ∧ k ≤ 149 → 1 ≤ tbk k := tbk_1 k
  refine lv_iload_n hx hb dX9_moves_5 rfl (lv_at hl 2 rfl) ?_
  refine lv_sipush (v := nI 138) hx hb dX9_moves_6 (by decide) ?_
  refine lv_icmp_gt (tgt := 30) hx hb dX9_moves_9 (by decide) (fun c_2 => ?_) (fun c_2 => ?_)
  · skip
    have z_2 := (nI_ltI (a := 138) (b := k) (by omega) (by omega)).mp c_2
    refine lv_iload_n hx hb dX9_moves_30 rfl (lv_at hl 2 rfl) ?_
    refine lv_sipush (v := nI 147) hx hb dX9_moves_31 (by decide) ?_
    refine lv_icmp_lt (tgt := 62) hx hb dX9_moves_34 (by decide) (fun c_3 => ?_) (fun c_3 => ?_)
    · skip
      have z_3 := (nI_ltI (a := k) (b := 147) (by omega) (by omega)).mp c_3
      refine lv_aload_n hx hb dX9_moves_62 rfl (lv_at hl 1 rfl) ?_
      refine lv_iload_n hx hb dX9_moves_63 rfl (lv_at hl 2 rfl) ?_
      refine lv_sipush (v := nI 142) hx hb dX9_moves_64 (by decide) ?_
      refine lv_icmp_gt (tgt := 74) hx hb dX9_moves_67 (by decide) (fun c_4 => ?_) (fun c_4 => ?_)
      · skip
        have z_4 := (nI_ltI (a := 142) (b := k) (by omega) (by omega)).mp c_4
        refine lv_iload_n hx hb dX9_moves_74 rfl (lv_at hl 2 rfl) ?_
        refine lv_sipush (v := nI 146) hx hb dX9_moves_75 (by decide) ?_
        refine lv_icmp_gt (tgt := 85) hx hb dX9_moves_78 (by decide) (fun c_5 => ?_) (fun c_5 => ?_)
        · skip
          have z_5 := (nI_ltI (a := 146) (b := k) (by omega) (by omega)).mp c_5
          refine lv_iload_n hx hb dX9_moves_85 rfl (lv_at hl 2 rfl) ?_
          refine lv_sipush (v := nI 153) hx hb dX9_moves_86 (by decide) ?_
          refine lv_icmp_gt (tgt := 96) hx hb dX9_moves_89 (by decide) (fun c_6 => ?_) (fun c_6 => ?_)
          · skip
            have z_6 := (nI_ltI (a := 153) (b := k) (by omega) (by omega)).mp c_6
            refine lv_iconst (v := nI 5) hx hb dX9_moves_96 (by decide) ?_
            refine lv_iload_n hx hb dX9_moves_97 rfl (lv_at hl 0 rfl) ?_
            refine jI (va_runV (As := [.int (nI 5), .int (nI (tbk k))]) (rest := []) ⟨hx, hb, hml, hown, hts⟩ (c_X9_kept l G ci cz cl q H.size 5 (tbk k) ref n num den mag fac who fnd pc ic a sta lb la fo dee kc fl wd df ag mk sc nu co fi ad it sp stk (by omega) hB (by omega) (by omega) (by assumption) (by first | assumption | exact FO_m)) (cwV 2 hts gX9_moves_X9_kept rfl rfl rfl (by decide +kernel) ⟨(Nat.le_of_ble_eq_true rfl), (Nat.le_of_ble_eq_true rfl)⟩) (pV (wc := [oM q ref n num den mag fac who fnd pc ic a sta lb la fo dee kc, aI ci (q 1) 600 fl, aI ci (q 2) 1024 wd, aI cz (q 3) 8 df, aI cz (q 4) 8 ag, aI ci (q 5) 8 mk, aI ci (q 6) 8 sc, aI ci (q 7) 12 nu, aI ci (q 8) 12 co, aI ci (q 9) 12 fi, aI ci (q 10) 12 ad, aI ci (q 11) 1800 it, aI ci (q 12) 8 sp, aI ci (q 13) 160 stk]) ok hK hP hD hS hA hO [0, 1, 2, 3, 4, 5, 6, 7, 8, 9, 10, 11, 12, 13] rfl (by decide) 0 rfl rfl) rfl rfl hl.1 rfl (lv_room (Nat.le_of_ble_eq_true rfl)) dX9_moves_98 ⟨(Nat.le_of_ble_eq_true rfl), (Nat.le_of_ble_eq_true rfl)⟩) (wr := []) hP hD hS hA [0, 1, 2, 3, 4, 5, 6, 7, 8, 9, 10, 11, 12, 13] [] rfl rfl (by decide) (by decide) (fun r_7 u H locs hw_7 hP hD hS => ?_)
            obtain ⟨bo_7, sp2_7⟩ := u
            try dsimp only at hw_7
            obtain ⟨rfl, h_7, g_7⟩ := hw_7
            have hP : va_P G vwCl [oM q ref n num den mag fac who fnd pc ic a sta lb la fo dee kc, aI ci (q 1) 600 fl, aI ci (q 2) 1024 wd, aI cz (q 3) 8 df, aI cz (q 4) 8 ag, aI ci (q 5) 8 mk, aI ci (q 6) 8 sc, aI ci (q 7) 12 nu, aI ci (q 8) 12 co, aI ci (q 9) 12 fi, aI ci (q 10) 12 ad, aI ci (q 11) 1800 it, aI ci (q 12) 8 sp2_7, aI ci (q 13) 160 stk] H := hP
            have hD : va_D A [oM q ref n num den mag fac who fnd pc ic a sta lb la fo dee kc, aI ci (q 1) 600 fl, aI ci (q 2) 1024 wd, aI cz (q 3) 8 df, aI cz (q 4) 8 ag, aI ci (q 5) 8 mk, aI ci (q 6) 8 sc, aI ci (q 7) 12 nu, aI ci (q 8) 12 co, aI ci (q 9) 12 fi, aI ci (q 10) 12 ad, aI ci (q 11) 1800 it, aI ci (q 12) 8 sp2_7, aI ci (q 13) 160 stk] := hD
            refine lv_pop hx hb dX9_moves_101 rfl ?_
            refine lv_iconst (v := nI 1) hx hb dX9_moves_102 (by decide) ?_
            exact rI (v := nI 1) hx hb hr hlocks nb1 hK hP hD hS [0, 1, 2, 3, 4, 5, 6, 7, 8, 9, 10, 11, 12, 13] (1, sp2_7) rfl (by decide) ⟨rfl, by (try dsimp only); omega, rfl, by first | exact Or.inr (Or.inr (Or.inl ⟨by (try dsimp only); omega, by (try dsimp only); omega, g_7⟩)) | exact Or.inr (Or.inr (Or.inr (Or.inl ⟨by (try dsimp only); omega, by (try dsimp only); omega, g_7⟩))) | exact Or.inr (Or.inr (Or.inr (Or.inr (Or.inl ⟨by (try dsimp only); omega, by (try dsimp only); omega, g_7⟩)))) | exact Or.inr (Or.inr (Or.inr (Or.inr (Or.inr (⟨by (try dsimp only); omega, by (try dsimp only); omega, g_7⟩)))))⟩ dX9_moves_103
          · skip
            have z_6 := mt (nI_ltI (a := 153) (b := k) (by omega) (by omega)).mpr c_6
            refine lv_iconst (v := nI 4) hx hb dX9_moves_92 (by decide) ?_
            refine lv_goto (tgt := 97) hx hb dX9_moves_93 (by decide) ?_
            refine lv_iload_n hx hb dX9_moves_97 rfl (lv_at hl 0 rfl) ?_
            refine jI (va_runV (As := [.int (nI 4), .int (nI (tbk k))]) (rest := []) ⟨hx, hb, hml, hown, hts⟩ (c_X9_kept l G ci cz cl q H.size 4 (tbk k) ref n num den mag fac who fnd pc ic a sta lb la fo dee kc fl wd df ag mk sc nu co fi ad it sp stk (by omega) hB (by omega) (by omega) (by assumption) (by first | assumption | exact FO_m)) (cwV 2 hts gX9_moves_X9_kept rfl rfl rfl (by decide +kernel) ⟨(Nat.le_of_ble_eq_true rfl), (Nat.le_of_ble_eq_true rfl)⟩) (pV (wc := [oM q ref n num den mag fac who fnd pc ic a sta lb la fo dee kc, aI ci (q 1) 600 fl, aI ci (q 2) 1024 wd, aI cz (q 3) 8 df, aI cz (q 4) 8 ag, aI ci (q 5) 8 mk, aI ci (q 6) 8 sc, aI ci (q 7) 12 nu, aI ci (q 8) 12 co, aI ci (q 9) 12 fi, aI ci (q 10) 12 ad, aI ci (q 11) 1800 it, aI ci (q 12) 8 sp, aI ci (q 13) 160 stk]) ok hK hP hD hS hA hO [0, 1, 2, 3, 4, 5, 6, 7, 8, 9, 10, 11, 12, 13] rfl (by decide) 0 rfl rfl) rfl rfl hl.1 rfl (lv_room (Nat.le_of_ble_eq_true rfl)) dX9_moves_98 ⟨(Nat.le_of_ble_eq_true rfl), (Nat.le_of_ble_eq_true rfl)⟩) (wr := []) hP hD hS hA [0, 1, 2, 3, 4, 5, 6, 7, 8, 9, 10, 11, 12, 13] [] rfl rfl (by decide) (by decide) (fun r_8 u H locs hw_8 hP hD hS => ?_)
            obtain ⟨bo_8, sp2_8⟩ := u
            try dsimp only at hw_8
            obtain ⟨rfl, h_8, g_8⟩ := hw_8
            have hP : va_P G vwCl [oM q ref n num den mag fac who fnd pc ic a sta lb la fo dee kc, aI ci (q 1) 600 fl, aI ci (q 2) 1024 wd, aI cz (q 3) 8 df, aI cz (q 4) 8 ag, aI ci (q 5) 8 mk, aI ci (q 6) 8 sc, aI ci (q 7) 12 nu, aI ci (q 8) 12 co, aI ci (q 9) 12 fi, aI ci (q 10) 12 ad, aI ci (q 11) 1800 it, aI ci (q 12) 8 sp2_8, aI ci (q 13) 160 stk] H := hP
            have hD : va_D A [oM q ref n num den mag fac who fnd pc ic a sta lb la fo dee kc, aI ci (q 1) 600 fl, aI ci (q 2) 1024 wd, aI cz (q 3) 8 df, aI cz (q 4) 8 ag, aI ci (q 5) 8 mk, aI ci (q 6) 8 sc, aI ci (q 7) 12 nu, aI ci (q 8) 12 co, aI ci (q 9) 12 fi, aI ci (q 10) 12 ad, aI ci (q 11) 1800 it, aI ci (q 12) 8 sp2_8, aI ci (q 13) 160 stk] := hD
            refine lv_pop hx hb dX9_moves_101 rfl ?_
            refine lv_iconst (v := nI 1) hx hb dX9_moves_102 (by decide) ?_
            exact rI (v := nI 1) hx hb hr hlocks nb1 hK hP hD hS [0, 1, 2, 3, 4, 5, 6, 7, 8, 9, 10, 11, 12, 13] (1, sp2_8) rfl (by decide) ⟨rfl, by (try dsimp only); omega, rfl, by first | exact Or.inr (Or.inr (Or.inl ⟨by (try dsimp only); omega, by (try dsimp only); omega, g_8⟩)) | exact Or.inr (Or.inr (Or.inr (Or.inl ⟨by (try dsimp only); omega, by (try dsimp only); omega, g_8⟩))) | exact Or.inr (Or.inr (Or.inr (Or.inr (Or.inl ⟨by (try dsimp only); omega, by (try dsimp only); omega, g_8⟩)))) | exact Or.inr (Or.inr (Or.inr (Or.inr (Or.inr (⟨by (try dsimp only); omega, by (try dsimp only); omega, g_8⟩)))))⟩ dX9_moves_103
        · skip
          have z_5 := mt (nI_ltI (a := 146) (b := k) (by omega) (by omega)).mpr c_5
          refine lv_iconst (v := nI 3) hx hb dX9_moves_81 (by decide) ?_
          refine lv_goto (tgt := 97) hx hb dX9_moves_82 (by decide) ?_
          refine lv_iload_n hx hb dX9_moves_97 rfl (lv_at hl 0 rfl) ?_
          refine jI (va_runV (As := [.int (nI 3), .int (nI (tbk k))]) (rest := []) ⟨hx, hb, hml, hown, hts⟩ (c_X9_kept l G ci cz cl q H.size 3 (tbk k) ref n num den mag fac who fnd pc ic a sta lb la fo dee kc fl wd df ag mk sc nu co fi ad it sp stk (by omega) hB (by omega) (by omega) (by assumption) (by first | assumption | exact FO_m)) (cwV 2 hts gX9_moves_X9_kept rfl rfl rfl (by decide +kernel) ⟨(Nat.le_of_ble_eq_true rfl), (Nat.le_of_ble_eq_true rfl)⟩) (pV (wc := [oM q ref n num den mag fac who fnd pc ic a sta lb la fo dee kc, aI ci (q 1) 600 fl, aI ci (q 2) 1024 wd, aI cz (q 3) 8 df, aI cz (q 4) 8 ag, aI ci (q 5) 8 mk, aI ci (q 6) 8 sc, aI ci (q 7) 12 nu, aI ci (q 8) 12 co, aI ci (q 9) 12 fi, aI ci (q 10) 12 ad, aI ci (q 11) 1800 it, aI ci (q 12) 8 sp, aI ci (q 13) 160 stk]) ok hK hP hD hS hA hO [0, 1, 2, 3, 4, 5, 6, 7, 8, 9, 10, 11, 12, 13] rfl (by decide) 0 rfl rfl) rfl rfl hl.1 rfl (lv_room (Nat.le_of_ble_eq_true rfl)) dX9_moves_98 ⟨(Nat.le_of_ble_eq_true rfl), (Nat.le_of_ble_eq_true rfl)⟩) (wr := []) hP hD hS hA [0, 1, 2, 3, 4, 5, 6, 7, 8, 9, 10, 11, 12, 13] [] rfl rfl (by decide) (by decide) (fun r_9 u H locs hw_9 hP hD hS => ?_)
          obtain ⟨bo_9, sp2_9⟩ := u
          try dsimp only at hw_9
          obtain ⟨rfl, h_9, g_9⟩ := hw_9
          have hP : va_P G vwCl [oM q ref n num den mag fac who fnd pc ic a sta lb la fo dee kc, aI ci (q 1) 600 fl, aI ci (q 2) 1024 wd, aI cz (q 3) 8 df, aI cz (q 4) 8 ag, aI ci (q 5) 8 mk, aI ci (q 6) 8 sc, aI ci (q 7) 12 nu, aI ci (q 8) 12 co, aI ci (q 9) 12 fi, aI ci (q 10) 12 ad, aI ci (q 11) 1800 it, aI ci (q 12) 8 sp2_9, aI ci (q 13) 160 stk] H := hP
          have hD : va_D A [oM q ref n num den mag fac who fnd pc ic a sta lb la fo dee kc, aI ci (q 1) 600 fl, aI ci (q 2) 1024 wd, aI cz (q 3) 8 df, aI cz (q 4) 8 ag, aI ci (q 5) 8 mk, aI ci (q 6) 8 sc, aI ci (q 7) 12 nu, aI ci (q 8) 12 co, aI ci (q 9) 12 fi, aI ci (q 10) 12 ad, aI ci (q 11) 1800 it, aI ci (q 12) 8 sp2_9, aI ci (q 13) 160 stk] := hD
          refine lv_pop hx hb dX9_moves_101 rfl ?_
          refine lv_iconst (v := nI 1) hx hb dX9_moves_102 (by decide) ?_
          exact rI (v := nI 1) hx hb hr hlocks nb1 hK hP hD hS [0, 1, 2, 3, 4, 5, 6, 7, 8, 9, 10, 11, 12, 13] (1, sp2_9) rfl (by decide) ⟨rfl, by (try dsimp only); omega, rfl, by first | exact Or.inr (Or.inr (Or.inl ⟨by (try dsimp only); omega, by (try dsimp only); omega, g_9⟩)) | exact Or.inr (Or.inr (Or.inr (Or.inl ⟨by (try dsimp only); omega, by (try dsimp only); omega, g_9⟩))) | exact Or.inr (Or.inr (Or.inr (Or.inr (Or.inl ⟨by (try dsimp only); omega, by (try dsimp only); omega, g_9⟩)))) | exact Or.inr (Or.inr (Or.inr (Or.inr (Or.inr (⟨by (try dsimp only); omega, by (try dsimp only); omega, g_9⟩)))))⟩ dX9_moves_103
      · skip
        have z_4 := mt (nI_ltI (a := 142) (b := k) (by omega) (by omega)).mpr c_4
        refine lv_iconst (v := nI 2) hx hb dX9_moves_70 (by decide) ?_
        refine lv_goto (tgt := 97) hx hb dX9_moves_71 (by decide) ?_
        refine lv_iload_n hx hb dX9_moves_97 rfl (lv_at hl 0 rfl) ?_
        refine jI (va_runV (As := [.int (nI 2), .int (nI (tbk k))]) (rest := []) ⟨hx, hb, hml, hown, hts⟩ (c_X9_kept l G ci cz cl q H.size 2 (tbk k) ref n num den mag fac who fnd pc ic a sta lb la fo dee kc fl wd df ag mk sc nu co fi ad it sp stk (by omega) hB (by omega) (by omega) (by assumption) (by first | assumption | exact FO_m)) (cwV 2 hts gX9_moves_X9_kept rfl rfl rfl (by decide +kernel) ⟨(Nat.le_of_ble_eq_true rfl), (Nat.le_of_ble_eq_true rfl)⟩) (pV (wc := [oM q ref n num den mag fac who fnd pc ic a sta lb la fo dee kc, aI ci (q 1) 600 fl, aI ci (q 2) 1024 wd, aI cz (q 3) 8 df, aI cz (q 4) 8 ag, aI ci (q 5) 8 mk, aI ci (q 6) 8 sc, aI ci (q 7) 12 nu, aI ci (q 8) 12 co, aI ci (q 9) 12 fi, aI ci (q 10) 12 ad, aI ci (q 11) 1800 it, aI ci (q 12) 8 sp, aI ci (q 13) 160 stk]) ok hK hP hD hS hA hO [0, 1, 2, 3, 4, 5, 6, 7, 8, 9, 10, 11, 12, 13] rfl (by decide) 0 rfl rfl) rfl rfl hl.1 rfl (lv_room (Nat.le_of_ble_eq_true rfl)) dX9_moves_98 ⟨(Nat.le_of_ble_eq_true rfl), (Nat.le_of_ble_eq_true rfl)⟩) (wr := []) hP hD hS hA [0, 1, 2, 3, 4, 5, 6, 7, 8, 9, 10, 11, 12, 13] [] rfl rfl (by decide) (by decide) (fun r_10 u H locs hw_10 hP hD hS => ?_)
        obtain ⟨bo_10, sp2_10⟩ := u
        try dsimp only at hw_10
        obtain ⟨rfl, h_10, g_10⟩ := hw_10
        have hP : va_P G vwCl [oM q ref n num den mag fac who fnd pc ic a sta lb la fo dee kc, aI ci (q 1) 600 fl, aI ci (q 2) 1024 wd, aI cz (q 3) 8 df, aI cz (q 4) 8 ag, aI ci (q 5) 8 mk, aI ci (q 6) 8 sc, aI ci (q 7) 12 nu, aI ci (q 8) 12 co, aI ci (q 9) 12 fi, aI ci (q 10) 12 ad, aI ci (q 11) 1800 it, aI ci (q 12) 8 sp2_10, aI ci (q 13) 160 stk] H := hP
        have hD : va_D A [oM q ref n num den mag fac who fnd pc ic a sta lb la fo dee kc, aI ci (q 1) 600 fl, aI ci (q 2) 1024 wd, aI cz (q 3) 8 df, aI cz (q 4) 8 ag, aI ci (q 5) 8 mk, aI ci (q 6) 8 sc, aI ci (q 7) 12 nu, aI ci (q 8) 12 co, aI ci (q 9) 12 fi, aI ci (q 10) 12 ad, aI ci (q 11) 1800 it, aI ci (q 12) 8 sp2_10, aI ci (q 13) 160 stk] := hD
        refine lv_pop hx hb dX9_moves_101 rfl ?_
        refine lv_iconst (v := nI 1) hx hb dX9_moves_102 (by decide) ?_
        exact rI (v := nI 1) hx hb hr hlocks nb1 hK hP hD hS [0, 1, 2, 3, 4, 5, 6, 7, 8, 9, 10, 11, 12, 13] (1, sp2_10) rfl (by decide) ⟨rfl, by (try dsimp only); omega, rfl, by first | exact Or.inr (Or.inr (Or.inl ⟨by (try dsimp only); omega, by (try dsimp only); omega, g_10⟩)) | exact Or.inr (Or.inr (Or.inr (Or.inl ⟨by (try dsimp only); omega, by (try dsimp only); omega, g_10⟩))) | exact Or.inr (Or.inr (Or.inr (Or.inr (Or.inl ⟨by (try dsimp only); omega, by (try dsimp only); omega, g_10⟩)))) | exact Or.inr (Or.inr (Or.inr (Or.inr (Or.inr (⟨by (try dsimp only); omega, by (try dsimp only); omega, g_10⟩)))))⟩ dX9_moves_103
    · skip
      have z_3 := mt (nI_ltI (a := k) (b := 147) (by omega) (by omega)).mpr c_3
      refine lv_iload_n hx hb dX9_moves_37 rfl (lv_at hl 2 rfl) ?_
      refine lv_sipush (v := nI 149) hx hb dX9_moves_38 (by decide) ?_
      refine lv_icmp_gt (tgt := 62) hx hb dX9_moves_41 (by decide) (fun c_11 => ?_) (fun c_11 => ?_)
      · skip
        have z_11 := (nI_ltI (a := 149) (b := k) (by omega) (by omega)).mp c_11
        refine lv_aload_n hx hb dX9_moves_62 rfl (lv_at hl 1 rfl) ?_
        refine lv_iload_n hx hb dX9_moves_63 rfl (lv_at hl 2 rfl) ?_
        refine lv_sipush (v := nI 142) hx hb dX9_moves_64 (by decide) ?_
        refine lv_icmp_gt (tgt := 74) hx hb dX9_moves_67 (by decide) (fun c_12 => ?_) (fun c_12 => ?_)
        · skip
          have z_12 := (nI_ltI (a := 142) (b := k) (by omega) (by omega)).mp c_12
          refine lv_iload_n hx hb dX9_moves_74 rfl (lv_at hl 2 rfl) ?_
          refine lv_sipush (v := nI 146) hx hb dX9_moves_75 (by decide) ?_
          refine lv_icmp_gt (tgt := 85) hx hb dX9_moves_78 (by decide) (fun c_13 => ?_) (fun c_13 => ?_)
          · skip
            have z_13 := (nI_ltI (a := 146) (b := k) (by omega) (by omega)).mp c_13
            refine lv_iload_n hx hb dX9_moves_85 rfl (lv_at hl 2 rfl) ?_
            refine lv_sipush (v := nI 153) hx hb dX9_moves_86 (by decide) ?_
            refine lv_icmp_gt (tgt := 96) hx hb dX9_moves_89 (by decide) (fun c_14 => ?_) (fun c_14 => ?_)
            · skip
              have z_14 := (nI_ltI (a := 153) (b := k) (by omega) (by omega)).mp c_14
              refine lv_iconst (v := nI 5) hx hb dX9_moves_96 (by decide) ?_
              refine lv_iload_n hx hb dX9_moves_97 rfl (lv_at hl 0 rfl) ?_
              refine jI (va_runV (As := [.int (nI 5), .int (nI (tbk k))]) (rest := []) ⟨hx, hb, hml, hown, hts⟩ (c_X9_kept l G ci cz cl q H.size 5 (tbk k) ref n num den mag fac who fnd pc ic a sta lb la fo dee kc fl wd df ag mk sc nu co fi ad it sp stk (by omega) hB (by omega) (by omega) (by assumption) (by first | assumption | exact FO_m)) (cwV 2 hts gX9_moves_X9_kept rfl rfl rfl (by decide +kernel) ⟨(Nat.le_of_ble_eq_true rfl), (Nat.le_of_ble_eq_true rfl)⟩) (pV (wc := [oM q ref n num den mag fac who fnd pc ic a sta lb la fo dee kc, aI ci (q 1) 600 fl, aI ci (q 2) 1024 wd, aI cz (q 3) 8 df, aI cz (q 4) 8 ag, aI ci (q 5) 8 mk, aI ci (q 6) 8 sc, aI ci (q 7) 12 nu, aI ci (q 8) 12 co, aI ci (q 9) 12 fi, aI ci (q 10) 12 ad, aI ci (q 11) 1800 it, aI ci (q 12) 8 sp, aI ci (q 13) 160 stk]) ok hK hP hD hS hA hO [0, 1, 2, 3, 4, 5, 6, 7, 8, 9, 10, 11, 12, 13] rfl (by decide) 0 rfl rfl) rfl rfl hl.1 rfl (lv_room (Nat.le_of_ble_eq_true rfl)) dX9_moves_98 ⟨(Nat.le_of_ble_eq_true rfl), (Nat.le_of_ble_eq_true rfl)⟩) (wr := []) hP hD hS hA [0, 1, 2, 3, 4, 5, 6, 7, 8, 9, 10, 11, 12, 13] [] rfl rfl (by decide) (by decide) (fun r_15 u H locs hw_15 hP hD hS => ?_)
              obtain ⟨bo_15, sp2_15⟩ := u
              try dsimp only at hw_15
              obtain ⟨rfl, h_15, g_15⟩ := hw_15
              have hP : va_P G vwCl [oM q ref n num den mag fac who fnd pc ic a sta lb la fo dee kc, aI ci (q 1) 600 fl, aI ci (q 2) 1024 wd, aI cz (q 3) 8 df, aI cz (q 4) 8 ag, aI ci (q 5) 8 mk, aI ci (q 6) 8 sc, aI ci (q 7) 12 nu, aI ci (q 8) 12 co, aI ci (q 9) 12 fi, aI ci (q 10) 12 ad, aI ci (q 11) 1800 it, aI ci (q 12) 8 sp2_15, aI ci (q 13) 160 stk] H := hP
              have hD : va_D A [oM q ref n num den mag fac who fnd pc ic a sta lb la fo dee kc, aI ci (q 1) 600 fl, aI ci (q 2) 1024 wd, aI cz (q 3) 8 df, aI cz (q 4) 8 ag, aI ci (q 5) 8 mk, aI ci (q 6) 8 sc, aI ci (q 7) 12 nu, aI ci (q 8) 12 co, aI ci (q 9) 12 fi, aI ci (q 10) 12 ad, aI ci (q 11) 1800 it, aI ci (q 12) 8 sp2_15, aI ci (q 13) 160 stk] := hD
              refine lv_pop hx hb dX9_moves_101 rfl ?_
              refine lv_iconst (v := nI 1) hx hb dX9_moves_102 (by decide) ?_
              exact rI (v := nI 1) hx hb hr hlocks nb1 hK hP hD hS [0, 1, 2, 3, 4, 5, 6, 7, 8, 9, 10, 11, 12, 13] (1, sp2_15) rfl (by decide) ⟨rfl, by (try dsimp only); omega, rfl, by first | exact Or.inr (Or.inr (Or.inl ⟨by (try dsimp only); omega, by (try dsimp only); omega, g_15⟩)) | exact Or.inr (Or.inr (Or.inr (Or.inl ⟨by (try dsimp only); omega, by (try dsimp only); omega, g_15⟩))) | exact Or.inr (Or.inr (Or.inr (Or.inr (Or.inl ⟨by (try dsimp only); omega, by (try dsimp only); omega, g_15⟩)))) | exact Or.inr (Or.inr (Or.inr (Or.inr (Or.inr (⟨by (try dsimp only); omega, by (try dsimp only); omega, g_15⟩)))))⟩ dX9_moves_103
            · skip
              have z_14 := mt (nI_ltI (a := 153) (b := k) (by omega) (by omega)).mpr c_14
              refine lv_iconst (v := nI 4) hx hb dX9_moves_92 (by decide) ?_
              refine lv_goto (tgt := 97) hx hb dX9_moves_93 (by decide) ?_
              refine lv_iload_n hx hb dX9_moves_97 rfl (lv_at hl 0 rfl) ?_
              refine jI (va_runV (As := [.int (nI 4), .int (nI (tbk k))]) (rest := []) ⟨hx, hb, hml, hown, hts⟩ (c_X9_kept l G ci cz cl q H.size 4 (tbk k) ref n num den mag fac who fnd pc ic a sta lb la fo dee kc fl wd df ag mk sc nu co fi ad it sp stk (by omega) hB (by omega) (by omega) (by assumption) (by first | assumption | exact FO_m)) (cwV 2 hts gX9_moves_X9_kept rfl rfl rfl (by decide +kernel) ⟨(Nat.le_of_ble_eq_true rfl), (Nat.le_of_ble_eq_true rfl)⟩) (pV (wc := [oM q ref n num den mag fac who fnd pc ic a sta lb la fo dee kc, aI ci (q 1) 600 fl, aI ci (q 2) 1024 wd, aI cz (q 3) 8 df, aI cz (q 4) 8 ag, aI ci (q 5) 8 mk, aI ci (q 6) 8 sc, aI ci (q 7) 12 nu, aI ci (q 8) 12 co, aI ci (q 9) 12 fi, aI ci (q 10) 12 ad, aI ci (q 11) 1800 it, aI ci (q 12) 8 sp, aI ci (q 13) 160 stk]) ok hK hP hD hS hA hO [0, 1, 2, 3, 4, 5, 6, 7, 8, 9, 10, 11, 12, 13] rfl (by decide) 0 rfl rfl) rfl rfl hl.1 rfl (lv_room (Nat.le_of_ble_eq_true rfl)) dX9_moves_98 ⟨(Nat.le_of_ble_eq_true rfl), (Nat.le_of_ble_eq_true rfl)⟩) (wr := []) hP hD hS hA [0, 1, 2, 3, 4, 5, 6, 7, 8, 9, 10, 11, 12, 13] [] rfl rfl (by decide) (by decide) (fun r_16 u H locs hw_16 hP hD hS => ?_)
              obtain ⟨bo_16, sp2_16⟩ := u
              try dsimp only at hw_16
              obtain ⟨rfl, h_16, g_16⟩ := hw_16
              have hP : va_P G vwCl [oM q ref n num den mag fac who fnd pc ic a sta lb la fo dee kc, aI ci (q 1) 600 fl, aI ci (q 2) 1024 wd, aI cz (q 3) 8 df, aI cz (q 4) 8 ag, aI ci (q 5) 8 mk, aI ci (q 6) 8 sc, aI ci (q 7) 12 nu, aI ci (q 8) 12 co, aI ci (q 9) 12 fi, aI ci (q 10) 12 ad, aI ci (q 11) 1800 it, aI ci (q 12) 8 sp2_16, aI ci (q 13) 160 stk] H := hP
              have hD : va_D A [oM q ref n num den mag fac who fnd pc ic a sta lb la fo dee kc, aI ci (q 1) 600 fl, aI ci (q 2) 1024 wd, aI cz (q 3) 8 df, aI cz (q 4) 8 ag, aI ci (q 5) 8 mk, aI ci (q 6) 8 sc, aI ci (q 7) 12 nu, aI ci (q 8) 12 co, aI ci (q 9) 12 fi, aI ci (q 10) 12 ad, aI ci (q 11) 1800 it, aI ci (q 12) 8 sp2_16, aI ci (q 13) 160 stk] := hD
              refine lv_pop hx hb dX9_moves_101 rfl ?_
              refine lv_iconst (v := nI 1) hx hb dX9_moves_102 (by decide) ?_
              exact rI (v := nI 1) hx hb hr hlocks nb1 hK hP hD hS [0, 1, 2, 3, 4, 5, 6, 7, 8, 9, 10, 11, 12, 13] (1, sp2_16) rfl (by decide) ⟨rfl, by (try dsimp only); omega, rfl, by first | exact Or.inr (Or.inr (Or.inl ⟨by (try dsimp only); omega, by (try dsimp only); omega, g_16⟩)) | exact Or.inr (Or.inr (Or.inr (Or.inl ⟨by (try dsimp only); omega, by (try dsimp only); omega, g_16⟩))) | exact Or.inr (Or.inr (Or.inr (Or.inr (Or.inl ⟨by (try dsimp only); omega, by (try dsimp only); omega, g_16⟩)))) | exact Or.inr (Or.inr (Or.inr (Or.inr (Or.inr (⟨by (try dsimp only); omega, by (try dsimp only); omega, g_16⟩)))))⟩ dX9_moves_103
          · skip
            have z_13 := mt (nI_ltI (a := 146) (b := k) (by omega) (by omega)).mpr c_13
            refine lv_iconst (v := nI 3) hx hb dX9_moves_81 (by decide) ?_
            refine lv_goto (tgt := 97) hx hb dX9_moves_82 (by decide) ?_
            refine lv_iload_n hx hb dX9_moves_97 rfl (lv_at hl 0 rfl) ?_
            refine jI (va_runV (As := [.int (nI 3), .int (nI (tbk k))]) (rest := []) ⟨hx, hb, hml, hown, hts⟩ (c_X9_kept l G ci cz cl q H.size 3 (tbk k) ref n num den mag fac who fnd pc ic a sta lb la fo dee kc fl wd df ag mk sc nu co fi ad it sp stk (by omega) hB (by omega) (by omega) (by assumption) (by first | assumption | exact FO_m)) (cwV 2 hts gX9_moves_X9_kept rfl rfl rfl (by decide +kernel) ⟨(Nat.le_of_ble_eq_true rfl), (Nat.le_of_ble_eq_true rfl)⟩) (pV (wc := [oM q ref n num den mag fac who fnd pc ic a sta lb la fo dee kc, aI ci (q 1) 600 fl, aI ci (q 2) 1024 wd, aI cz (q 3) 8 df, aI cz (q 4) 8 ag, aI ci (q 5) 8 mk, aI ci (q 6) 8 sc, aI ci (q 7) 12 nu, aI ci (q 8) 12 co, aI ci (q 9) 12 fi, aI ci (q 10) 12 ad, aI ci (q 11) 1800 it, aI ci (q 12) 8 sp, aI ci (q 13) 160 stk]) ok hK hP hD hS hA hO [0, 1, 2, 3, 4, 5, 6, 7, 8, 9, 10, 11, 12, 13] rfl (by decide) 0 rfl rfl) rfl rfl hl.1 rfl (lv_room (Nat.le_of_ble_eq_true rfl)) dX9_moves_98 ⟨(Nat.le_of_ble_eq_true rfl), (Nat.le_of_ble_eq_true rfl)⟩) (wr := []) hP hD hS hA [0, 1, 2, 3, 4, 5, 6, 7, 8, 9, 10, 11, 12, 13] [] rfl rfl (by decide) (by decide) (fun r_17 u H locs hw_17 hP hD hS => ?_)
            obtain ⟨bo_17, sp2_17⟩ := u
            try dsimp only at hw_17
            obtain ⟨rfl, h_17, g_17⟩ := hw_17
            have hP : va_P G vwCl [oM q ref n num den mag fac who fnd pc ic a sta lb la fo dee kc, aI ci (q 1) 600 fl, aI ci (q 2) 1024 wd, aI cz (q 3) 8 df, aI cz (q 4) 8 ag, aI ci (q 5) 8 mk, aI ci (q 6) 8 sc, aI ci (q 7) 12 nu, aI ci (q 8) 12 co, aI ci (q 9) 12 fi, aI ci (q 10) 12 ad, aI ci (q 11) 1800 it, aI ci (q 12) 8 sp2_17, aI ci (q 13) 160 stk] H := hP
            have hD : va_D A [oM q ref n num den mag fac who fnd pc ic a sta lb la fo dee kc, aI ci (q 1) 600 fl, aI ci (q 2) 1024 wd, aI cz (q 3) 8 df, aI cz (q 4) 8 ag, aI ci (q 5) 8 mk, aI ci (q 6) 8 sc, aI ci (q 7) 12 nu, aI ci (q 8) 12 co, aI ci (q 9) 12 fi, aI ci (q 10) 12 ad, aI ci (q 11) 1800 it, aI ci (q 12) 8 sp2_17, aI ci (q 13) 160 stk] := hD
            refine lv_pop hx hb dX9_moves_101 rfl ?_
            refine lv_iconst (v := nI 1) hx hb dX9_moves_102 (by decide) ?_
            exact rI (v := nI 1) hx hb hr hlocks nb1 hK hP hD hS [0, 1, 2, 3, 4, 5, 6, 7, 8, 9, 10, 11, 12, 13] (1, sp2_17) rfl (by decide) ⟨rfl, by (try dsimp only); omega, rfl, by first | exact Or.inr (Or.inr (Or.inl ⟨by (try dsimp only); omega, by (try dsimp only); omega, g_17⟩)) | exact Or.inr (Or.inr (Or.inr (Or.inl ⟨by (try dsimp only); omega, by (try dsimp only); omega, g_17⟩))) | exact Or.inr (Or.inr (Or.inr (Or.inr (Or.inl ⟨by (try dsimp only); omega, by (try dsimp only); omega, g_17⟩)))) | exact Or.inr (Or.inr (Or.inr (Or.inr (Or.inr (⟨by (try dsimp only); omega, by (try dsimp only); omega, g_17⟩)))))⟩ dX9_moves_103
        · skip
          have z_12 := mt (nI_ltI (a := 142) (b := k) (by omega) (by omega)).mpr c_12
          refine lv_iconst (v := nI 2) hx hb dX9_moves_70 (by decide) ?_
          refine lv_goto (tgt := 97) hx hb dX9_moves_71 (by decide) ?_
          refine lv_iload_n hx hb dX9_moves_97 rfl (lv_at hl 0 rfl) ?_
          refine jI (va_runV (As := [.int (nI 2), .int (nI (tbk k))]) (rest := []) ⟨hx, hb, hml, hown, hts⟩ (c_X9_kept l G ci cz cl q H.size 2 (tbk k) ref n num den mag fac who fnd pc ic a sta lb la fo dee kc fl wd df ag mk sc nu co fi ad it sp stk (by omega) hB (by omega) (by omega) (by assumption) (by first | assumption | exact FO_m)) (cwV 2 hts gX9_moves_X9_kept rfl rfl rfl (by decide +kernel) ⟨(Nat.le_of_ble_eq_true rfl), (Nat.le_of_ble_eq_true rfl)⟩) (pV (wc := [oM q ref n num den mag fac who fnd pc ic a sta lb la fo dee kc, aI ci (q 1) 600 fl, aI ci (q 2) 1024 wd, aI cz (q 3) 8 df, aI cz (q 4) 8 ag, aI ci (q 5) 8 mk, aI ci (q 6) 8 sc, aI ci (q 7) 12 nu, aI ci (q 8) 12 co, aI ci (q 9) 12 fi, aI ci (q 10) 12 ad, aI ci (q 11) 1800 it, aI ci (q 12) 8 sp, aI ci (q 13) 160 stk]) ok hK hP hD hS hA hO [0, 1, 2, 3, 4, 5, 6, 7, 8, 9, 10, 11, 12, 13] rfl (by decide) 0 rfl rfl) rfl rfl hl.1 rfl (lv_room (Nat.le_of_ble_eq_true rfl)) dX9_moves_98 ⟨(Nat.le_of_ble_eq_true rfl), (Nat.le_of_ble_eq_true rfl)⟩) (wr := []) hP hD hS hA [0, 1, 2, 3, 4, 5, 6, 7, 8, 9, 10, 11, 12, 13] [] rfl rfl (by decide) (by decide) (fun r_18 u H locs hw_18 hP hD hS => ?_)
          obtain ⟨bo_18, sp2_18⟩ := u
          try dsimp only at hw_18
          obtain ⟨rfl, h_18, g_18⟩ := hw_18
          have hP : va_P G vwCl [oM q ref n num den mag fac who fnd pc ic a sta lb la fo dee kc, aI ci (q 1) 600 fl, aI ci (q 2) 1024 wd, aI cz (q 3) 8 df, aI cz (q 4) 8 ag, aI ci (q 5) 8 mk, aI ci (q 6) 8 sc, aI ci (q 7) 12 nu, aI ci (q 8) 12 co, aI ci (q 9) 12 fi, aI ci (q 10) 12 ad, aI ci (q 11) 1800 it, aI ci (q 12) 8 sp2_18, aI ci (q 13) 160 stk] H := hP
          have hD : va_D A [oM q ref n num den mag fac who fnd pc ic a sta lb la fo dee kc, aI ci (q 1) 600 fl, aI ci (q 2) 1024 wd, aI cz (q 3) 8 df, aI cz (q 4) 8 ag, aI ci (q 5) 8 mk, aI ci (q 6) 8 sc, aI ci (q 7) 12 nu, aI ci (q 8) 12 co, aI ci (q 9) 12 fi, aI ci (q 10) 12 ad, aI ci (q 11) 1800 it, aI ci (q 12) 8 sp2_18, aI ci (q 13) 160 stk] := hD
          refine lv_pop hx hb dX9_moves_101 rfl ?_
          refine lv_iconst (v := nI 1) hx hb dX9_moves_102 (by decide) ?_
          exact rI (v := nI 1) hx hb hr hlocks nb1 hK hP hD hS [0, 1, 2, 3, 4, 5, 6, 7, 8, 9, 10, 11, 12, 13] (1, sp2_18) rfl (by decide) ⟨rfl, by (try dsimp only); omega, rfl, by first | exact Or.inr (Or.inr (Or.inl ⟨by (try dsimp only); omega, by (try dsimp only); omega, g_18⟩)) | exact Or.inr (Or.inr (Or.inr (Or.inl ⟨by (try dsimp only); omega, by (try dsimp only); omega, g_18⟩))) | exact Or.inr (Or.inr (Or.inr (Or.inr (Or.inl ⟨by (try dsimp only); omega, by (try dsimp only); omega, g_18⟩)))) | exact Or.inr (Or.inr (Or.inr (Or.inr (Or.inr (⟨by (try dsimp only); omega, by (try dsimp only); omega, g_18⟩)))))⟩ dX9_moves_103
      · skip
        have z_11 := mt (nI_ltI (a := 149) (b := k) (by omega) (by omega)).mpr c_11
        refine lv_aload_n hx hb dX9_moves_44 rfl (lv_at hl 1 rfl) ?_
        refine lv_aload_n hx hb dX9_moves_45 rfl (lv_at hl 1 rfl) ?_
        refine lv_aload_n hx hb dX9_moves_46 rfl (lv_at hl 1 rfl) ?_
        refine va_get (D := G) (ci := 8) (v := .int (nI a)) (C := RX9) (T := TX9) (N := 30) hx hb hts hi_X9 hown hK hP 0 rfl rfl 21 (by decide) f_105 (fun _ h9 => h9) rfl dX9_moves_47 ?_
        refine lv_iconst (v := nI 1) hx hb dX9_moves_50 (by decide) ?_
        refine lv_iadd hx hb dX9_moves_51 ?_
        refine tp (nI_add _ _) ?_
        refine lv_iload_n hx hb dX9_moves_52 rfl (lv_at hl 0 rfl) ?_
        refine jI (va_runV (As := [.int (nI (a + 1)), .int (nI (tbk k))]) (rest := [.ref (q 0)]) ⟨hx, hb, hml, hown, hts⟩ (c_X9_signedAt l G ci cz cl q H.size (a + 1) (tbk k) ref n num den mag fac who fnd pc ic a sta lb la fo dee kc fl wd df ag mk sc nu co fi ad it sp stk (by omega) hB (by omega) (by omega)) (cwV 2 hts gX9_moves_X9_signedAt rfl rfl rfl (by decide +kernel) ⟨(Nat.le_of_ble_eq_true rfl), (Nat.le_of_ble_eq_true rfl)⟩) (pV (wc := [oM q ref n num den mag fac who fnd pc ic a sta lb la fo dee kc, aI ci (q 1) 600 fl, aI ci (q 2) 1024 wd, aI cz (q 3) 8 df, aI cz (q 4) 8 ag, aI ci (q 5) 8 mk, aI ci (q 6) 8 sc, aI ci (q 7) 12 nu, aI ci (q 8) 12 co, aI ci (q 9) 12 fi, aI ci (q 10) 12 ad, aI ci (q 11) 1800 it, aI ci (q 12) 8 sp, aI ci (q 13) 160 stk]) ok hK hP hD hS hA hO [0, 1, 2, 3, 4, 5, 6, 7, 8, 9, 10, 11, 12, 13] rfl (by decide) 0 rfl rfl) rfl rfl hl.1 rfl (lv_room (Nat.le_of_ble_eq_true rfl)) dX9_moves_53 ⟨(Nat.le_of_ble_eq_true rfl), (Nat.le_of_ble_eq_true rfl)⟩) (wr := []) hP hD hS hA [0, 1, 2, 3, 4, 5, 6, 7, 8, 9, 10, 11, 12, 13] [] rfl rfl (by decide) (by decide) (fun r_19 u H locs hw_19 hP hD hS => ?_)
        try dsimp only at hw_19
        obtain rfl := hw_19
        have hP : va_P G vwCl [oM q ref n num den mag fac who fnd pc ic a sta lb la fo dee kc, aI ci (q 1) 600 fl, aI ci (q 2) 1024 wd, aI cz (q 3) 8 df, aI cz (q 4) 8 ag, aI ci (q 5) 8 mk, aI ci (q 6) 8 sc, aI ci (q 7) 12 nu, aI ci (q 8) 12 co, aI ci (q 9) 12 fi, aI ci (q 10) 12 ad, aI ci (q 11) 1800 it, aI ci (q 12) 8 sp, aI ci (q 13) 160 stk] H := hP
        have hD : va_D A [oM q ref n num den mag fac who fnd pc ic a sta lb la fo dee kc, aI ci (q 1) 600 fl, aI ci (q 2) 1024 wd, aI cz (q 3) 8 df, aI cz (q 4) 8 ag, aI ci (q 5) 8 mk, aI ci (q 6) 8 sc, aI ci (q 7) 12 nu, aI ci (q 8) 12 co, aI ci (q 9) 12 fi, aI ci (q 10) 12 ad, aI ci (q 11) 1800 it, aI ci (q 12) 8 sp, aI ci (q 13) 160 stk] := hD
        refine jV (va_runV (As := [.int (rdS fl n (a + 1) (tbk k))]) (rest := []) ⟨hx, hb, hml, hown, hts⟩ (c_X9_down l G ci cz cl q H.size (rdS fl n (a + 1) (tbk k)) ref n num den mag fac who fnd pc ic a sta lb la fo dee kc fl wd df ag mk sc nu co fi ad it sp stk (by assumption) (by first | assumption | exact FO_m)) (cwV 1 hts gX9_moves_X9_down rfl rfl rfl (by decide +kernel) ⟨(Nat.le_of_ble_eq_true rfl), (Nat.le_of_ble_eq_true rfl)⟩) (pV (wc := [oM q ref n num den mag fac who fnd pc ic a sta lb la fo dee kc, aI ci (q 1) 600 fl, aI ci (q 2) 1024 wd, aI cz (q 3) 8 df, aI cz (q 4) 8 ag, aI ci (q 5) 8 mk, aI ci (q 6) 8 sc, aI ci (q 7) 12 nu, aI ci (q 8) 12 co, aI ci (q 9) 12 fi, aI ci (q 10) 12 ad, aI ci (q 11) 1800 it, aI ci (q 12) 8 sp, aI ci (q 13) 160 stk]) ok hK hP hD hS hA hO [0, 1, 2, 3, 4, 5, 6, 7, 8, 9, 10, 11, 12, 13] rfl (by decide) 0 rfl rfl) rfl rfl hl.1 rfl (lv_room (Nat.le_of_ble_eq_true rfl)) dX9_moves_56 ⟨(Nat.le_of_ble_eq_true rfl), (Nat.le_of_ble_eq_true rfl)⟩) (wr := []) hP hD hS hA [0, 1, 2, 3, 4, 5, 6, 7, 8, 9, 10, 11, 12, 13] [] rfl rfl (by decide) (by decide) (fun u H locs hw_20 hP hD hS => ?_)
        obtain ⟨sp2_20, rfl⟩ : ∃ z, z = u := ⟨_, rfl⟩
        try dsimp only at hw_20
        have h_20 := hw_20
        have hP : va_P G vwCl [oM q ref n num den mag fac who fnd pc ic a sta lb la fo dee kc, aI ci (q 1) 600 fl, aI ci (q 2) 1024 wd, aI cz (q 3) 8 df, aI cz (q 4) 8 ag, aI ci (q 5) 8 mk, aI ci (q 6) 8 sc, aI ci (q 7) 12 nu, aI ci (q 8) 12 co, aI ci (q 9) 12 fi, aI ci (q 10) 12 ad, aI ci (q 11) 1800 it, aI ci (q 12) 8 sp2_20, aI ci (q 13) 160 stk] H := hP
        have hD : va_D A [oM q ref n num den mag fac who fnd pc ic a sta lb la fo dee kc, aI ci (q 1) 600 fl, aI ci (q 2) 1024 wd, aI cz (q 3) 8 df, aI cz (q 4) 8 ag, aI ci (q 5) 8 mk, aI ci (q 6) 8 sc, aI ci (q 7) 12 nu, aI ci (q 8) 12 co, aI ci (q 9) 12 fi, aI ci (q 10) 12 ad, aI ci (q 11) 1800 it, aI ci (q 12) 8 sp2_20, aI ci (q 13) 160 stk] := hD
        refine lv_goto (tgt := 102) hx hb dX9_moves_59 (by decide) ?_
        refine lv_iconst (v := nI 1) hx hb dX9_moves_102 (by decide) ?_
        exact rI (v := nI 1) hx hb hr hlocks nb1 hK hP hD hS [0, 1, 2, 3, 4, 5, 6, 7, 8, 9, 10, 11, 12, 13] (1, sp2_20) rfl (by decide) ⟨rfl, by (try dsimp only); omega, rfl, by first | exact Or.inr (Or.inl ⟨by (try dsimp only); omega, by (try dsimp only); omega, h_20⟩)⟩ dX9_moves_103
  · skip
    have z_2 := mt (nI_ltI (a := 138) (b := k) (by omega) (by omega)).mpr c_2
    refine lv_aload_n hx hb dX9_moves_12 rfl (lv_at hl 1 rfl) ?_
    refine lv_aload_n hx hb dX9_moves_13 rfl (lv_at hl 1 rfl) ?_
    refine lv_aload_n hx hb dX9_moves_14 rfl (lv_at hl 1 rfl) ?_
    refine va_get (D := G) (ci := 8) (v := .int (nI a)) (C := RX9) (T := TX9) (N := 30) hx hb hts hi_X9 hown hK hP 0 rfl rfl 21 (by decide) f_105 (fun _ h9 => h9) rfl dX9_moves_15 ?_
    refine lv_iconst (v := nI 1) hx hb dX9_moves_18 (by decide) ?_
    refine lv_iadd hx hb dX9_moves_19 ?_
    refine tp (nI_add _ _) ?_
    refine lv_iload_n hx hb dX9_moves_20 rfl (lv_at hl 0 rfl) ?_
    refine jI (va_runV (As := [.int (nI (a + 1)), .int (nI (tbk k))]) (rest := [.ref (q 0)]) ⟨hx, hb, hml, hown, hts⟩ (c_X9_signedAt l G ci cz cl q H.size (a + 1) (tbk k) ref n num den mag fac who fnd pc ic a sta lb la fo dee kc fl wd df ag mk sc nu co fi ad it sp stk (by omega) hB (by omega) (by omega)) (cwV 2 hts gX9_moves_X9_signedAt rfl rfl rfl (by decide +kernel) ⟨(Nat.le_of_ble_eq_true rfl), (Nat.le_of_ble_eq_true rfl)⟩) (pV (wc := [oM q ref n num den mag fac who fnd pc ic a sta lb la fo dee kc, aI ci (q 1) 600 fl, aI ci (q 2) 1024 wd, aI cz (q 3) 8 df, aI cz (q 4) 8 ag, aI ci (q 5) 8 mk, aI ci (q 6) 8 sc, aI ci (q 7) 12 nu, aI ci (q 8) 12 co, aI ci (q 9) 12 fi, aI ci (q 10) 12 ad, aI ci (q 11) 1800 it, aI ci (q 12) 8 sp, aI ci (q 13) 160 stk]) ok hK hP hD hS hA hO [0, 1, 2, 3, 4, 5, 6, 7, 8, 9, 10, 11, 12, 13] rfl (by decide) 0 rfl rfl) rfl rfl hl.1 rfl (lv_room (Nat.le_of_ble_eq_true rfl)) dX9_moves_21 ⟨(Nat.le_of_ble_eq_true rfl), (Nat.le_of_ble_eq_true rfl)⟩) (wr := []) hP hD hS hA [0, 1, 2, 3, 4, 5, 6, 7, 8, 9, 10, 11, 12, 13] [] rfl rfl (by decide) (by decide) (fun r_21 u H locs hw_21 hP hD hS => ?_)
    try dsimp only at hw_21
    obtain rfl := hw_21
    have hP : va_P G vwCl [oM q ref n num den mag fac who fnd pc ic a sta lb la fo dee kc, aI ci (q 1) 600 fl, aI ci (q 2) 1024 wd, aI cz (q 3) 8 df, aI cz (q 4) 8 ag, aI ci (q 5) 8 mk, aI ci (q 6) 8 sc, aI ci (q 7) 12 nu, aI ci (q 8) 12 co, aI ci (q 9) 12 fi, aI ci (q 10) 12 ad, aI ci (q 11) 1800 it, aI ci (q 12) 8 sp, aI ci (q 13) 160 stk] H := hP
    have hD : va_D A [oM q ref n num den mag fac who fnd pc ic a sta lb la fo dee kc, aI ci (q 1) 600 fl, aI ci (q 2) 1024 wd, aI cz (q 3) 8 df, aI cz (q 4) 8 ag, aI ci (q 5) 8 mk, aI ci (q 6) 8 sc, aI ci (q 7) 12 nu, aI ci (q 8) 12 co, aI ci (q 9) 12 fi, aI ci (q 10) 12 ad, aI ci (q 11) 1800 it, aI ci (q 12) 8 sp, aI ci (q 13) 160 stk] := hD
    refine jV (va_runV (As := [.int (rdS fl n (a + 1) (tbk k))]) (rest := []) ⟨hx, hb, hml, hown, hts⟩ (c_X9_right l G ci cz cl q H.size (rdS fl n (a + 1) (tbk k)) ref n num den mag fac who fnd pc ic a sta lb la fo dee kc fl wd df ag mk sc nu co fi ad it sp stk (by assumption) (by first | assumption | exact FO_m)) (cwV 1 hts gX9_moves_X9_right rfl rfl rfl (by decide +kernel) ⟨(Nat.le_of_ble_eq_true rfl), (Nat.le_of_ble_eq_true rfl)⟩) (pV (wc := [oM q ref n num den mag fac who fnd pc ic a sta lb la fo dee kc, aI ci (q 1) 600 fl, aI ci (q 2) 1024 wd, aI cz (q 3) 8 df, aI cz (q 4) 8 ag, aI ci (q 5) 8 mk, aI ci (q 6) 8 sc, aI ci (q 7) 12 nu, aI ci (q 8) 12 co, aI ci (q 9) 12 fi, aI ci (q 10) 12 ad, aI ci (q 11) 1800 it, aI ci (q 12) 8 sp, aI ci (q 13) 160 stk]) ok hK hP hD hS hA hO [0, 1, 2, 3, 4, 5, 6, 7, 8, 9, 10, 11, 12, 13] rfl (by decide) 0 rfl rfl) rfl rfl hl.1 rfl (lv_room (Nat.le_of_ble_eq_true rfl)) dX9_moves_24 ⟨(Nat.le_of_ble_eq_true rfl), (Nat.le_of_ble_eq_true rfl)⟩) (wr := []) hP hD hS hA [0, 1, 2, 3, 4, 5, 6, 7, 8, 9, 10, 11, 12, 13] [] rfl rfl (by decide) (by decide) (fun u H locs hw_22 hP hD hS => ?_)
    obtain ⟨sp2_22, rfl⟩ : ∃ z, z = u := ⟨_, rfl⟩
    try dsimp only at hw_22
    have h_22 := hw_22
    have hP : va_P G vwCl [oM q ref n num den mag fac who fnd pc ic a sta lb la fo dee kc, aI ci (q 1) 600 fl, aI ci (q 2) 1024 wd, aI cz (q 3) 8 df, aI cz (q 4) 8 ag, aI ci (q 5) 8 mk, aI ci (q 6) 8 sc, aI ci (q 7) 12 nu, aI ci (q 8) 12 co, aI ci (q 9) 12 fi, aI ci (q 10) 12 ad, aI ci (q 11) 1800 it, aI ci (q 12) 8 sp2_22, aI ci (q 13) 160 stk] H := hP
    have hD : va_D A [oM q ref n num den mag fac who fnd pc ic a sta lb la fo dee kc, aI ci (q 1) 600 fl, aI ci (q 2) 1024 wd, aI cz (q 3) 8 df, aI cz (q 4) 8 ag, aI ci (q 5) 8 mk, aI ci (q 6) 8 sc, aI ci (q 7) 12 nu, aI ci (q 8) 12 co, aI ci (q 9) 12 fi, aI ci (q 10) 12 ad, aI ci (q 11) 1800 it, aI ci (q 12) 8 sp2_22, aI ci (q 13) 160 stk] := hD
    refine lv_goto (tgt := 102) hx hb dX9_moves_27 (by decide) ?_
    refine lv_iconst (v := nI 1) hx hb dX9_moves_102 (by decide) ?_
    exact rI (v := nI 1) hx hb hr hlocks nb1 hK hP hD hS [0, 1, 2, 3, 4, 5, 6, 7, 8, 9, 10, 11, 12, 13] (1, sp2_22) rfl (by decide) ⟨rfl, by (try dsimp only); omega, rfl, by first | exact Or.inl ⟨by (try dsimp only); omega, by (try dsimp only); omega, h_22⟩⟩ dX9_moves_103
