set_option maxHeartbeats 4000000 in
set_option maxRecDepth 100000 in
theorem c_X8_page (l : Launch) (G : va_G) (ci cz cl : ClassId) (q : Nat → Nat) (sz : Nat) (tb : Nat) (x : Int32) (y : Int32) (wr : Int32) (pc : Nat) (ic : Nat) (nu : Nat → Int32) (ad : Nat → Int32) (fi : Nat → Int32) (co : Nat → Int32) (it : Nat → Int32) (hl0 : l.stackTraces = false) (hpc : pc ≤ 12) : CxI l yX8_page wsX8_page2 ({ frames := 6, cells := 1, slots := 6, locals := 90 }) G (TY ci cz cl) (OX tb) [.ref (q 0), .int x, .int y] [(q 0, .inr (7, [.ref (q 1), .ref (q 3), .ref (q 5), .ref (q 6), .ref (q 12), .int wr])), (q 6, .inr (2, [.ref (q 7), .ref (q 8), .ref (q 9), .ref (q 10), .ref (q 11), .int (nI pc), .int (nI ic)])), aI ci (q 7) 12 nu, aI ci (q 8) 12 ad, aI ci (q 9) 12 fi, aI ci (q 10) 12 co, aI ci (q 11) 1400 it] sz (fun (r : Int32) (u : Unit) => PgM x y r pc nu co ad) (fun u : Unit => [(q 0, .inr (7, [.ref (q 1), .ref (q 3), .ref (q 5), .ref (q 6), .ref (q 12), .int wr])), (q 6, .inr (2, [.ref (q 7), .ref (q 8), .ref (q 9), .ref (q 10), .ref (q 11), .int (nI pc), .int (nI ic)])), aI ci (q 7) 12 nu, aI ci (q 8) 12 ad, aI ci (q 9) 12 fi, aI ci (q 10) 12 co, aI ci (q 11) 1400 it]) (fun (E : String) (u : Unit) => E = sNSE ∧ (¬ (0 ≤ x.toInt ∧ x.toInt < pc) ∨ ¬ (0 ≤ y.toInt ∧ y.toInt ≤ 2))) (fun u : Unit => [(q 0, .inr (7, [.ref (q 1), .ref (q 3), .ref (q 5), .ref (q 6), .ref (q 12), .int wr])), (q 6, .inr (2, [.ref (q 7), .ref (q 8), .ref (q 9), .ref (q 10), .ref (q 11), .int (nI pc), .int (nI ic)])), aI ci (q 7) 12 nu, aI ci (q 8) 12 ad, aI ci (q 9) 12 fi, aI ci (q 10) 12 co, aI ci (q 11) 1400 it]) 1 6 := by
  refine vx_ofW (cc := cX8_page) (maxL := 3) (ret := (some .int)) (by decide) rfl ?_
  intro p e s m args below meth c s₁ B hml hnt hv
  obtain ⟨rfl, ⟨hsz, hP, hK, hD0⟩, hO⟩ := hv
  have hx := B.exec
  have hb := B.bytes
  have hr := B.returns
  have hts := atoms_spec (ws := wsX8_page2) B.pre
  have hown : s.vm.findClass RX8 = some m.cls := findClass_of_methodNamed B.named
  have hlocks := B.notSynchronized
  subst hsz
  have hD := hD0.self (sz := s.heap.size)
  generalize hAe : va_A [(q 0, .inr (7, [.ref (q 1), .ref (q 3), .ref (q 5), .ref (q 6), .ref (q 12), .int wr])), (q 6, .inr (2, [.ref (q 7), .ref (q 8), .ref (q 9), .ref (q 10), .ref (q 11), .int (nI pc), .int (nI ic)])), aI ci (q 7) 12 nu, aI ci (q 8) 12 ad, aI ci (q 9) 12 fi, aI ci (q 10) 12 co, aI ci (q 11) 1400 it] s.heap.size = A at hD hO ⊢
  have hA : ∀ q : Nat, s.heap.size ≤ q → A q := fun q h => by rw [← hAe]; exact Or.inr h
  have ok := (okX tb)
  refine startH (A := A) (fun H locs hP hS => ?_) hP
  have hi_X8 := (by decide +kernel : ∀ w ∈ wsX80, w ∈ wsX8_page2)
  have f_33 := hts (.fieldLink RX8 33 "PageReader" "pages" "LPageReader$Pages;") (by decide +kernel)
  have hl := lv_entry ([.ref (q 0), .int x, .int y]) (n := 3) (Nat.le_of_ble_eq_true rfl)
  rw [lg_entry_eq]
  generalize (lg_sl ([.ref (q 0), .int x, .int y]) ++ List.replicate (3 - (lg_sl ([.ref (q 0), .int x, .int y])).length) Slot.unset).toArray = ls at hl ⊢
  have hl : lv_has ls 3 [(0, .ref (q 0)), (1, .int x), (2, .int y)] := hl
  obtain ⟨hOB, ⟨hU, hN⟩, ⟨k1, k2, k3, k4, k5⟩, ⟨d1, d2, d3⟩, ⟨a1, s1⟩, ⟨a2, s2⟩, ⟨a3, s3⟩, ⟨a4, s4⟩, ⟨a5, s5⟩, ⟨a6, s6⟩⟩ := id hO
  refine lv_aload_n hx hb dX8_page_0 rfl (lv_at hl 0 rfl) ?_
  refine va_get (D := G) (ci := 7) (v := .ref (q 6)) (C := RX8) (T := TX8) (N := 6) hx hb hts hi_X8 hown hK hP 0 rfl rfl 3 (by decide) f_33 (fun _ h9 => h9) rfl dX8_page_1 ?_
  refine lv_iload_n hx hb dX8_page_4 rfl (lv_at hl 1 rfl) ?_
  refine jI (va_runV (As := [.int x]) (rest := []) ⟨hx, hb, hml, hown, hts⟩ (c_X3_has l G ci cz cl q H.size x pc ic nu ad fi co it (by omega)) (cwV 1 hts gX8_page2_X3_has rfl rfl rfl (by decide +kernel) ⟨(Nat.le_of_ble_eq_true rfl), (Nat.le_of_ble_eq_true rfl)⟩) (pV (wc := [(q 6, .inr (2, [.ref (q 7), .ref (q 8), .ref (q 9), .ref (q 10), .ref (q 11), .int (nI pc), .int (nI ic)])), aI ci (q 7) 12 nu, aI ci (q 8) 12 ad, aI ci (q 9) 12 fi, aI ci (q 10) 12 co, aI ci (q 11) 1400 it]) ok0 hK hP hD hS hA trivial [1, 2, 3, 4, 5, 6] rfl (by decide) 1 rfl rfl) rfl rfl hl.1 rfl (lv_room (Nat.le_of_ble_eq_true rfl)) dX8_page_5 ⟨show 0 + 0 ≤ 1 by omega, show 0 + 0 ≤ 6 by omega⟩) (wr := [(q 0, .inr (7, [.ref (q 1), .ref (q 3), .ref (q 5), .ref (q 6), .ref (q 12), .int wr]))]) hP hD hS hA [1, 2, 3, 4, 5, 6] [0] rfl rfl (by decide) (by decide) (fun r_1 u H locs hw_1 hP hD hS => ?_)
  obtain ⟨bo_1, rfl⟩ : ∃ z, z = u := ⟨_, rfl⟩
  try dsimp only at hw_1
  obtain ⟨rfl, h_1⟩ := hw_1
  have hP : va_P G vwCl [(q 0, .inr (7, [.ref (q 1), .ref (q 3), .ref (q 5), .ref (q 6), .ref (q 12), .int wr])), (q 6, .inr (2, [.ref (q 7), .ref (q 8), .ref (q 9), .ref (q 10), .ref (q 11), .int (nI pc), .int (nI ic)])), aI ci (q 7) 12 nu, aI ci (q 8) 12 ad, aI ci (q 9) 12 fi, aI ci (q 10) 12 co, aI ci (q 11) 1400 it] H := hP
  have hD : va_D A [(q 0, .inr (7, [.ref (q 1), .ref (q 3), .ref (q 5), .ref (q 6), .ref (q 12), .int wr])), (q 6, .inr (2, [.ref (q 7), .ref (q 8), .ref (q 9), .ref (q 10), .ref (q 11), .int (nI pc), .int (nI ic)])), aI ci (q 7) 12 nu, aI ci (q 8) 12 ad, aI ci (q 9) 12 fi, aI ci (q 10) 12 co, aI ci (q 11) 1400 it] := hD
  refine lv_if_eq (tgt := 20) hx hb dX8_page_8 (by decide) (fun c_2 => ?_) (fun c_2 => ?_)
  · skip
    have z_2 := (nI_eq (a := bo_1) (b := 0) (by omega) (by omega)).mp c_2
    exact thrN hx hb hl0 hown (hts (.classLink RX8 96 sNSE) (by decide +kernel)) (hts (.initialized sNSE) (by decide +kernel)) s5 (fun w h => hts w (List.mem_cons_of_mem _ (List.mem_append_right _ h))) k4 d1 d2 d3 hU hN hS (by rw [hml]; exact hl.1) dX8_page_20 dX8_page_23 dX8_page_24 dX8_page_26 dX8_page_29 (fun x hx => (hnt x hx).elim) (Nat.le_of_ble_eq_true rfl) (Nat.le_of_ble_eq_true rfl) (Nat.le_of_ble_eq_true rfl) (Nat.le_of_ble_eq_true rfl) hlocks hK hP hD [0, 1, 2, 3, 4, 5, 6] () rfl (by decide) ⟨rfl, by (try dsimp only); omega⟩ (Nat.le_of_ble_eq_true rfl) (Nat.le_of_ble_eq_true rfl)
  · skip
    have z_2 := mt (nI_eq (a := bo_1) (b := 0) (by omega) (by omega)).mpr c_2
    refine lv_iload_n hx hb dX8_page_11 rfl (lv_at hl 2 rfl) ?_
    refine lv_if_lt (tgt := 20) hx hb dX8_page_12 (by decide) (fun c_3 => ?_) (fun c_3 => ?_)
    · skip
      have z_3 := (i_lt y (nI 0)).mp c_3
      rw [nI_toInt (n := 0) (by omega)] at z_3
      exact thrN hx hb hl0 hown (hts (.classLink RX8 96 sNSE) (by decide +kernel)) (hts (.initialized sNSE) (by decide +kernel)) s5 (fun w h => hts w (List.mem_cons_of_mem _ (List.mem_append_right _ h))) k4 d1 d2 d3 hU hN hS (by rw [hml]; exact hl.1) dX8_page_20 dX8_page_23 dX8_page_24 dX8_page_26 dX8_page_29 (fun x hx => (hnt x hx).elim) (Nat.le_of_ble_eq_true rfl) (Nat.le_of_ble_eq_true rfl) (Nat.le_of_ble_eq_true rfl) (Nat.le_of_ble_eq_true rfl) hlocks hK hP hD [0, 1, 2, 3, 4, 5, 6] () rfl (by decide) ⟨rfl, by (try dsimp only); omega⟩ (Nat.le_of_ble_eq_true rfl) (Nat.le_of_ble_eq_true rfl)
    · skip
      have z_3 := mt (i_lt y (nI 0)).mpr c_3
      rw [nI_toInt (n := 0) (by omega)] at z_3
      refine lv_iload_n hx hb dX8_page_15 rfl (lv_at hl 2 rfl) ?_
      refine lv_iconst (v := nI 2) hx hb dX8_page_16 (by decide) ?_
      refine lv_icmp_le (tgt := 30) hx hb dX8_page_17 (by decide) (fun c_4 => ?_) (fun c_4 => ?_)
      · skip
        have z_4 := (i_le y (nI 2)).mp c_4
        rw [nI_toInt (n := 2) (by omega)] at z_4
        have hxb : 0 ≤ x.toInt ∧ x.toInt < pc := by omega
        have hyb : 0 ≤ y.toInt ∧ y.toInt ≤ 2 := by omega
        refine lv_iload_n hx hb dX8_page_30 rfl (lv_at hl 2 rfl) ?_
        refine lv_if_ne (tgt := 43) hx hb dX8_page_31 (by decide) (fun c_5 => ?_) (fun c_5 => ?_)
        · skip
          refine lv_iload_n hx hb dX8_page_43 rfl (lv_at hl 2 rfl) ?_
          refine lv_iconst (v := nI 1) hx hb dX8_page_44 (by decide) ?_
          refine lv_icmp_ne (tgt := 59) hx hb dX8_page_45 (by decide) (fun c_6 => ?_) (fun c_6 => ?_)
          · skip
            refine lv_aload_n hx hb dX8_page_59 rfl (lv_at hl 0 rfl) ?_
            refine va_get (D := G) (ci := 7) (v := .ref (q 6)) (C := RX8) (T := TX8) (N := 6) hx hb hts hi_X8 hown hK hP 0 rfl rfl 3 (by decide) f_33 (fun _ h9 => h9) rfl dX8_page_60 ?_
            refine lv_iload_n hx hb dX8_page_63 rfl (lv_at hl 1 rfl) ?_
            refine jI (va_runV (As := [.int x]) (rest := []) ⟨hx, hb, hml, hown, hts⟩ (c_X3_addressOf l G ci cz cl q H.size x pc ic nu ad fi co it (by omega)) (cwV 1 hts gX8_page2_X3_addressOf rfl rfl rfl (by decide +kernel) ⟨(Nat.le_of_ble_eq_true rfl), (Nat.le_of_ble_eq_true rfl)⟩) (pV (wc := [(q 6, .inr (2, [.ref (q 7), .ref (q 8), .ref (q 9), .ref (q 10), .ref (q 11), .int (nI pc), .int (nI ic)])), aI ci (q 7) 12 nu, aI ci (q 8) 12 ad, aI ci (q 9) 12 fi, aI ci (q 10) 12 co, aI ci (q 11) 1400 it]) ok0 hK hP hD hS hA trivial [1, 2, 3, 4, 5, 6] rfl (by decide) 1 rfl rfl) rfl rfl hl.1 rfl (lv_room (Nat.le_of_ble_eq_true rfl)) dX8_page_64 ⟨show 0 + 0 ≤ 1 by omega, show 0 + 0 ≤ 6 by omega⟩) (wr := [(q 0, .inr (7, [.ref (q 1), .ref (q 3), .ref (q 5), .ref (q 6), .ref (q 12), .int wr]))]) hP hD hS hA [1, 2, 3, 4, 5, 6] [0] rfl rfl (by decide) (by decide) (fun r_7 u H locs hw_7 hP hD hS => ?_)
            try dsimp only at hw_7
            have h_7 := hw_7
            have hP : va_P G vwCl [(q 0, .inr (7, [.ref (q 1), .ref (q 3), .ref (q 5), .ref (q 6), .ref (q 12), .int wr])), (q 6, .inr (2, [.ref (q 7), .ref (q 8), .ref (q 9), .ref (q 10), .ref (q 11), .int (nI pc), .int (nI ic)])), aI ci (q 7) 12 nu, aI ci (q 8) 12 ad, aI ci (q 9) 12 fi, aI ci (q 10) 12 co, aI ci (q 11) 1400 it] H := hP
            have hD : va_D A [(q 0, .inr (7, [.ref (q 1), .ref (q 3), .ref (q 5), .ref (q 6), .ref (q 12), .int wr])), (q 6, .inr (2, [.ref (q 7), .ref (q 8), .ref (q 9), .ref (q 10), .ref (q 11), .int (nI pc), .int (nI ic)])), aI ci (q 7) 12 nu, aI ci (q 8) 12 ad, aI ci (q 9) 12 fi, aI ci (q 10) 12 co, aI ci (q 11) 1400 it] := hD
            refine W.widen (k := 1) (n := 6) (by omega) (by omega) ?_
            refine vx_ret ?_
            exact rI (v := r_7) hx hb hr hlocks rfl hK hP hD hS [0, 1, 2, 3, 4, 5, 6] () rfl (by decide) (PgC_2 h_7 hxb (i_two hyb.1 hyb.2 (by assumption) (by assumption))) dX8_page_67
          · skip
            refine lv_aload_n hx hb dX8_page_48 rfl (lv_at hl 0 rfl) ?_
            refine va_get (D := G) (ci := 7) (v := .ref (q 6)) (C := RX8) (T := TX8) (N := 6) hx hb hts hi_X8 hown hK hP 0 rfl rfl 3 (by decide) f_33 (fun _ h9 => h9) rfl dX8_page_49 ?_
            refine lv_iload_n hx hb dX8_page_52 rfl (lv_at hl 1 rfl) ?_
            refine jI (va_runV (As := [.int x]) (rest := []) ⟨hx, hb, hml, hown, hts⟩ (c_X3_itemsOf l G ci cz cl q H.size x pc ic nu ad fi co it (by omega)) (cwV 1 hts gX8_page2_X3_itemsOf rfl rfl rfl (by decide +kernel) ⟨(Nat.le_of_ble_eq_true rfl), (Nat.le_of_ble_eq_true rfl)⟩) (pV (wc := [(q 6, .inr (2, [.ref (q 7), .ref (q 8), .ref (q 9), .ref (q 10), .ref (q 11), .int (nI pc), .int (nI ic)])), aI ci (q 7) 12 nu, aI ci (q 8) 12 ad, aI ci (q 9) 12 fi, aI ci (q 10) 12 co, aI ci (q 11) 1400 it]) ok0 hK hP hD hS hA trivial [1, 2, 3, 4, 5, 6] rfl (by decide) 1 rfl rfl) rfl rfl hl.1 rfl (lv_room (Nat.le_of_ble_eq_true rfl)) dX8_page_53 ⟨show 0 + 0 ≤ 1 by omega, show 0 + 0 ≤ 6 by omega⟩) (wr := [(q 0, .inr (7, [.ref (q 1), .ref (q 3), .ref (q 5), .ref (q 6), .ref (q 12), .int wr]))]) hP hD hS hA [1, 2, 3, 4, 5, 6] [0] rfl rfl (by decide) (by decide) (fun r_8 u H locs hw_8 hP hD hS => ?_)
            try dsimp only at hw_8
            have h_8 := hw_8
            have hP : va_P G vwCl [(q 0, .inr (7, [.ref (q 1), .ref (q 3), .ref (q 5), .ref (q 6), .ref (q 12), .int wr])), (q 6, .inr (2, [.ref (q 7), .ref (q 8), .ref (q 9), .ref (q 10), .ref (q 11), .int (nI pc), .int (nI ic)])), aI ci (q 7) 12 nu, aI ci (q 8) 12 ad, aI ci (q 9) 12 fi, aI ci (q 10) 12 co, aI ci (q 11) 1400 it] H := hP
            have hD : va_D A [(q 0, .inr (7, [.ref (q 1), .ref (q 3), .ref (q 5), .ref (q 6), .ref (q 12), .int wr])), (q 6, .inr (2, [.ref (q 7), .ref (q 8), .ref (q 9), .ref (q 10), .ref (q 11), .int (nI pc), .int (nI ic)])), aI ci (q 7) 12 nu, aI ci (q 8) 12 ad, aI ci (q 9) 12 fi, aI ci (q 10) 12 co, aI ci (q 11) 1400 it] := hD
            refine lv_goto (tgt := 67) hx hb dX8_page_56 (by decide) ?_
            refine W.widen (k := 1) (n := 6) (by omega) (by omega) ?_
            refine vx_ret ?_
            exact rI (v := r_8) hx hb hr hlocks rfl hK hP hD hS [0, 1, 2, 3, 4, 5, 6] () rfl (by decide) (PgC_1 h_8 hxb (by assumption)) dX8_page_67
        · skip
          refine lv_aload_n hx hb dX8_page_34 rfl (lv_at hl 0 rfl) ?_
          refine va_get (D := G) (ci := 7) (v := .ref (q 6)) (C := RX8) (T := TX8) (N := 6) hx hb hts hi_X8 hown hK hP 0 rfl rfl 3 (by decide) f_33 (fun _ h9 => h9) rfl dX8_page_35 ?_
          refine lv_iload_n hx hb dX8_page_38 rfl (lv_at hl 1 rfl) ?_
          refine jI (va_runV (As := [.int x]) (rest := []) ⟨hx, hb, hml, hown, hts⟩ (c_X3_numberOf l G ci cz cl q H.size x pc ic nu ad fi co it (by omega)) (cwV 1 hts gX8_page2_X3_numberOf rfl rfl rfl (by decide +kernel) ⟨(Nat.le_of_ble_eq_true rfl), (Nat.le_of_ble_eq_true rfl)⟩) (pV (wc := [(q 6, .inr (2, [.ref (q 7), .ref (q 8), .ref (q 9), .ref (q 10), .ref (q 11), .int (nI pc), .int (nI ic)])), aI ci (q 7) 12 nu, aI ci (q 8) 12 ad, aI ci (q 9) 12 fi, aI ci (q 10) 12 co, aI ci (q 11) 1400 it]) ok0 hK hP hD hS hA trivial [1, 2, 3, 4, 5, 6] rfl (by decide) 1 rfl rfl) rfl rfl hl.1 rfl (lv_room (Nat.le_of_ble_eq_true rfl)) dX8_page_39 ⟨show 0 + 0 ≤ 1 by omega, show 0 + 0 ≤ 6 by omega⟩) (wr := [(q 0, .inr (7, [.ref (q 1), .ref (q 3), .ref (q 5), .ref (q 6), .ref (q 12), .int wr]))]) hP hD hS hA [1, 2, 3, 4, 5, 6] [0] rfl rfl (by decide) (by decide) (fun r_9 u H locs hw_9 hP hD hS => ?_)
          try dsimp only at hw_9
          have h_9 := hw_9
          have hP : va_P G vwCl [(q 0, .inr (7, [.ref (q 1), .ref (q 3), .ref (q 5), .ref (q 6), .ref (q 12), .int wr])), (q 6, .inr (2, [.ref (q 7), .ref (q 8), .ref (q 9), .ref (q 10), .ref (q 11), .int (nI pc), .int (nI ic)])), aI ci (q 7) 12 nu, aI ci (q 8) 12 ad, aI ci (q 9) 12 fi, aI ci (q 10) 12 co, aI ci (q 11) 1400 it] H := hP
          have hD : va_D A [(q 0, .inr (7, [.ref (q 1), .ref (q 3), .ref (q 5), .ref (q 6), .ref (q 12), .int wr])), (q 6, .inr (2, [.ref (q 7), .ref (q 8), .ref (q 9), .ref (q 10), .ref (q 11), .int (nI pc), .int (nI ic)])), aI ci (q 7) 12 nu, aI ci (q 8) 12 ad, aI ci (q 9) 12 fi, aI ci (q 10) 12 co, aI ci (q 11) 1400 it] := hD
          refine W.widen (k := 1) (n := 6) (by omega) (by omega) ?_
          refine vx_ret ?_
          exact rI (v := r_9) hx hb hr hlocks rfl hK hP hD hS [0, 1, 2, 3, 4, 5, 6] () rfl (by decide) (PgC_0 h_9 hxb (by assumption)) dX8_page_42
      · skip
        have z_4 := mt (i_le y (nI 2)).mpr c_4
        rw [nI_toInt (n := 2) (by omega)] at z_4
        exact thrN hx hb hl0 hown (hts (.classLink RX8 96 sNSE) (by decide +kernel)) (hts (.initialized sNSE) (by decide +kernel)) s5 (fun w h => hts w (List.mem_cons_of_mem _ (List.mem_append_right _ h))) k4 d1 d2 d3 hU hN hS (by rw [hml]; exact hl.1) dX8_page_20 dX8_page_23 dX8_page_24 dX8_page_26 dX8_page_29 (fun x hx => (hnt x hx).elim) (Nat.le_of_ble_eq_true rfl) (Nat.le_of_ble_eq_true rfl) (Nat.le_of_ble_eq_true rfl) (Nat.le_of_ble_eq_true rfl) hlocks hK hP hD [0, 1, 2, 3, 4, 5, 6] () rfl (by decide) ⟨rfl, by (try dsimp only); omega⟩ (Nat.le_of_ble_eq_true rfl) (Nat.le_of_ble_eq_true rfl)
set_option maxHeartbeats 4000000 in
set_option maxRecDepth 100000 in
theorem c_X8_item (l : Launch) (G : va_G) (ci cz cl : ClassId) (q : Nat → Nat) (sz : Nat) (tb : Nat) (x : Int32) (y : Int32) (z : Int32) (wr : Int32) (fac : UInt64) (pc : Nat) (ic : Nat) (nu : Nat → Int32) (ad : Nat → Int32) (fi : Nat → Int32) (co : Nat → Int32) (it : Nat → Int32) (hl0 : l.stackTraces = false) (hpc : pc ≤ 12) (hic : ic ≤ 200) (hPI : PI pc ic fi co) (hf : Fn fac) : CxI l yX8_item wsX8_item2 ({ frames := 6, cells := 1, slots := 6, locals := 90 }) G (TY ci cz cl) (OX tb) [.ref (q 0), .int x, .int y, .int z] [(q 0, .inr (7, [.ref (q 1), .ref (q 3), .ref (q 5), .ref (q 6), .ref (q 12), .int wr])), (q 5, .inr (3, [.double fac])), (q 6, .inr (2, [.ref (q 7), .ref (q 8), .ref (q 9), .ref (q 10), .ref (q 11), .int (nI pc), .int (nI ic)])), aI ci (q 7) 12 nu, aI ci (q 8) 12 ad, aI ci (q 9) 12 fi, aI ci (q 10) 12 co, aI ci (q 11) 1400 it] sz (fun (r : Int32) (u : Unit) => True) (fun u : Unit => [(q 0, .inr (7, [.ref (q 1), .ref (q 3), .ref (q 5), .ref (q 6), .ref (q 12), .int wr])), (q 5, .inr (3, [.double fac])), (q 6, .inr (2, [.ref (q 7), .ref (q 8), .ref (q 9), .ref (q 10), .ref (q 11), .int (nI pc), .int (nI ic)])), aI ci (q 7) 12 nu, aI ci (q 8) 12 ad, aI ci (q 9) 12 fi, aI ci (q 10) 12 co, aI ci (q 11) 1400 it]) (fun (E : String) (u : Unit) => E = sNSE ∧ True) (fun u : Unit => [(q 0, .inr (7, [.ref (q 1), .ref (q 3), .ref (q 5), .ref (q 6), .ref (q 12), .int wr])), (q 5, .inr (3, [.double fac])), (q 6, .inr (2, [.ref (q 7), .ref (q 8), .ref (q 9), .ref (q 10), .ref (q 11), .int (nI pc), .int (nI ic)])), aI ci (q 7) 12 nu, aI ci (q 8) 12 ad, aI ci (q 9) 12 fi, aI ci (q 10) 12 co, aI ci (q 11) 1400 it]) 1 6 := by
  refine vx_ofW (cc := cX8_item) (maxL := 4) (ret := (some .int)) (by decide) rfl ?_
  intro p e s m args below meth c s₁ B hml hnt hv
  obtain ⟨rfl, ⟨hsz, hP, hK, hD0⟩, hO⟩ := hv
  have hx := B.exec
  have hb := B.bytes
  have hr := B.returns
  have hts := atoms_spec (ws := wsX8_item2) B.pre
  have hown : s.vm.findClass RX8 = some m.cls := findClass_of_methodNamed B.named
  have hlocks := B.notSynchronized
  subst hsz
  have hD := hD0.self (sz := s.heap.size)
  generalize hAe : va_A [(q 0, .inr (7, [.ref (q 1), .ref (q 3), .ref (q 5), .ref (q 6), .ref (q 12), .int wr])), (q 5, .inr (3, [.double fac])), (q 6, .inr (2, [.ref (q 7), .ref (q 8), .ref (q 9), .ref (q 10), .ref (q 11), .int (nI pc), .int (nI ic)])), aI ci (q 7) 12 nu, aI ci (q 8) 12 ad, aI ci (q 9) 12 fi, aI ci (q 10) 12 co, aI ci (q 11) 1400 it] s.heap.size = A at hD hO ⊢
  have hA : ∀ q : Nat, s.heap.size ≤ q → A q := fun q h => by rw [← hAe]; exact Or.inr h
  have ok := (okX tb)
  refine startH (A := A) (fun H locs hP hS => ?_) hP
  have hi_X8 := (by decide +kernel : ∀ w ∈ wsX80, w ∈ wsX8_item2)
  have f_33 := hts (.fieldLink RX8 33 "PageReader" "pages" "LPageReader$Pages;") (by decide +kernel)
  have f_26 := hts (.fieldLink RX8 26 "PageReader" "pixels" "LPageReader$Pixels;") (by decide +kernel)
  have hl := lv_entry ([.ref (q 0), .int x, .int y, .int z]) (n := 4) (Nat.le_of_ble_eq_true rfl)
  rw [lg_entry_eq]
  generalize (lg_sl ([.ref (q 0), .int x, .int y, .int z]) ++ List.replicate (4 - (lg_sl ([.ref (q 0), .int x, .int y, .int z])).length) Slot.unset).toArray = ls at hl ⊢
  have hl : lv_has ls 4 [(0, .ref (q 0)), (1, .int x), (2, .int y), (3, .int z)] := hl
  obtain ⟨hOB, ⟨hU, hN⟩, ⟨k1, k2, k3, k4, k5⟩, ⟨d1, d2, d3⟩, ⟨a1, s1⟩, ⟨a2, s2⟩, ⟨a3, s3⟩, ⟨a4, s4⟩, ⟨a5, s5⟩, ⟨a6, s6⟩⟩ := id hO
  refine lv_aload_n hx hb dX8_item_0 rfl (lv_at hl 0 rfl) ?_
  refine va_get (D := G) (ci := 7) (v := .ref (q 6)) (C := RX8) (T := TX8) (N := 6) hx hb hts hi_X8 hown hK hP 0 rfl rfl 3 (by decide) f_33 (fun _ h9 => h9) rfl dX8_item_1 ?_
  refine lv_iload_n hx hb dX8_item_4 rfl (lv_at hl 1 rfl) ?_
  refine lv_iload_n hx hb dX8_item_5 rfl (lv_at hl 2 rfl) ?_
  refine jI (va_runV (As := [.int x, .int y]) (rest := []) ⟨hx, hb, hml, hown, hts⟩ (c_X3_hasItem l G ci cz cl q H.size x y pc ic nu ad fi co it (by omega)) (cwV 2 hts gX8_item2_X3_hasItem rfl rfl rfl (by decide +kernel) ⟨(Nat.le_of_ble_eq_true rfl), (Nat.le_of_ble_eq_true rfl)⟩) (pV (wc := [(q 6, .inr (2, [.ref (q 7), .ref (q 8), .ref (q 9), .ref (q 10), .ref (q 11), .int (nI pc), .int (nI ic)])), aI ci (q 7) 12 nu, aI ci (q 8) 12 ad, aI ci (q 9) 12 fi, aI ci (q 10) 12 co, aI ci (q 11) 1400 it]) ok0 hK hP hD hS hA trivial [2, 3, 4, 5, 6, 7] rfl (by decide) 2 rfl rfl) rfl rfl hl.1 rfl (lv_room (Nat.le_of_ble_eq_true rfl)) dX8_item_6 ⟨show 0 + 0 ≤ 1 by omega, show 0 + 0 ≤ 6 by omega⟩) (wr := [(q 0, .inr (7, [.ref (q 1), .ref (q 3), .ref (q 5), .ref (q 6), .ref (q 12), .int wr])), (q 5, .inr (3, [.double fac]))]) hP hD hS hA [2, 3, 4, 5, 6, 7] [0, 1] rfl rfl (by decide) (by decide) (fun r_1 u H locs hw_1 hP hD hS => ?_)
  obtain ⟨bo_1, rfl⟩ : ∃ z, z = u := ⟨_, rfl⟩
  try dsimp only at hw_1
  obtain ⟨rfl, h_1, g_1⟩ := hw_1
  have hP : va_P G vwCl [(q 0, .inr (7, [.ref (q 1), .ref (q 3), .ref (q 5), .ref (q 6), .ref (q 12), .int wr])), (q 5, .inr (3, [.double fac])), (q 6, .inr (2, [.ref (q 7), .ref (q 8), .ref (q 9), .ref (q 10), .ref (q 11), .int (nI pc), .int (nI ic)])), aI ci (q 7) 12 nu, aI ci (q 8) 12 ad, aI ci (q 9) 12 fi, aI ci (q 10) 12 co, aI ci (q 11) 1400 it] H := hP
  have hD : va_D A [(q 0, .inr (7, [.ref (q 1), .ref (q 3), .ref (q 5), .ref (q 6), .ref (q 12), .int wr])), (q 5, .inr (3, [.double fac])), (q 6, .inr (2, [.ref (q 7), .ref (q 8), .ref (q 9), .ref (q 10), .ref (q 11), .int (nI pc), .int (nI ic)])), aI ci (q 7) 12 nu, aI ci (q 8) 12 ad, aI ci (q 9) 12 fi, aI ci (q 10) 12 co, aI ci (q 11) 1400 it] := hD
  refine lv_if_eq (tgt := 22) hx hb dX8_item_9 (by decide) (fun c_2 => ?_) (fun c_2 => ?_)
  · skip
    have z_2 := (nI_eq (a := bo_1) (b := 0) (by omega) (by omega)).mp c_2
    exact thrN hx hb hl0 hown (hts (.classLink RX8 96 sNSE) (by decide +kernel)) (hts (.initialized sNSE) (by decide +kernel)) s6 (fun w h => hts w (List.mem_cons_of_mem _ (List.mem_append_right _ h))) k4 d1 d2 d3 hU hN hS (by rw [hml]; exact hl.1) dX8_item_22 dX8_item_25 dX8_item_26 dX8_item_28 dX8_item_31 (fun x hx => (hnt x hx).elim) (Nat.le_of_ble_eq_true rfl) (Nat.le_of_ble_eq_true rfl) (Nat.le_of_ble_eq_true rfl) (Nat.le_of_ble_eq_true rfl) hlocks hK hP hD [0, 1, 2, 3, 4, 5, 6, 7] () rfl (by decide) ⟨rfl, trivial⟩ (Nat.le_of_ble_eq_true rfl) (Nat.le_of_ble_eq_true rfl)
  · skip
    have z_2 := mt (nI_eq (a := bo_1) (b := 0) (by omega) (by omega)).mpr c_2
    refine lv_iload_n hx hb dX8_item_12 rfl (lv_at hl 3 rfl) ?_
    refine lv_if_lt (tgt := 22) hx hb dX8_item_13 (by decide) (fun c_3 => ?_) (fun c_3 => ?_)
    · skip
      have z_3 := (i_lt z (nI 0)).mp c_3
      rw [nI_toInt (n := 0) (by omega)] at z_3
      exact thrN hx hb hl0 hown (hts (.classLink RX8 96 sNSE) (by decide +kernel)) (hts (.initialized sNSE) (by decide +kernel)) s6 (fun w h => hts w (List.mem_cons_of_mem _ (List.mem_append_right _ h))) k4 d1 d2 d3 hU hN hS (by rw [hml]; exact hl.1) dX8_item_22 dX8_item_25 dX8_item_26 dX8_item_28 dX8_item_31 (fun x hx => (hnt x hx).elim) (Nat.le_of_ble_eq_true rfl) (Nat.le_of_ble_eq_true rfl) (Nat.le_of_ble_eq_true rfl) (Nat.le_of_ble_eq_true rfl) hlocks hK hP hD [0, 1, 2, 3, 4, 5, 6, 7] () rfl (by decide) ⟨rfl, trivial⟩ (Nat.le_of_ble_eq_true rfl) (Nat.le_of_ble_eq_true rfl)
    · skip
      have z_3 := mt (i_lt z (nI 0)).mpr c_3
      rw [nI_toInt (n := 0) (by omega)] at z_3
      refine lv_iload_n hx hb dX8_item_16 rfl (lv_at hl 3 rfl) ?_
      refine lv_bipush (v := nI 8) hx hb dX8_item_17 (by decide) ?_
      refine lv_icmp_le (tgt := 32) hx hb dX8_item_19 (by decide) (fun c_4 => ?_) (fun c_4 => ?_)
      · skip
        have z_4 := (i_le z (nI 8)).mp c_4
        rw [nI_toInt (n := 8) (by omega)] at z_4
        refine lv_iload_n hx hb dX8_item_32 rfl (lv_at hl 3 rfl) ?_
        refine lv_bipush (v := nI 7) hx hb dX8_item_33 (by decide) ?_
        refine lv_icmp_ge (tgt := 49) hx hb dX8_item_35 (by decide) (fun c_5 => ?_) (fun c_5 => ?_)
        · skip
          have z_5 := (i_le (nI 7) z).mp c_5
          rw [nI_toInt (n := 7) (by omega)] at z_5
          refine lv_aload_n hx hb dX8_item_49 rfl (lv_at hl 0 rfl) ?_
          refine va_get (D := G) (ci := 7) (v := .ref (q 6)) (C := RX8) (T := TX8) (N := 6) hx hb hts hi_X8 hown hK hP 0 rfl rfl 3 (by decide) f_33 (fun _ h9 => h9) rfl dX8_item_50 ?_
          refine lv_iload_n hx hb dX8_item_53 rfl (lv_at hl 1 rfl) ?_
          refine lv_iload_n hx hb dX8_item_54 rfl (lv_at hl 2 rfl) ?_
          refine lv_iconst (v := nI 0) hx hb dX8_item_55 (by decide) ?_
          refine jI (va_runV (As := [.int x, .int y, .int (nI 0)]) (rest := []) ⟨hx, hb, hml, hown, hts⟩ (c_X3_partOf l G ci cz cl q H.size x y (nI 0) pc ic nu ad fi co it (by omega) (by omega) (by assumption)) (cwV 3 hts gX8_item2_X3_partOf rfl rfl rfl (by decide +kernel) ⟨(Nat.le_of_ble_eq_true rfl), (Nat.le_of_ble_eq_true rfl)⟩) (pV (wc := [(q 6, .inr (2, [.ref (q 7), .ref (q 8), .ref (q 9), .ref (q 10), .ref (q 11), .int (nI pc), .int (nI ic)])), aI ci (q 7) 12 nu, aI ci (q 8) 12 ad, aI ci (q 9) 12 fi, aI ci (q 10) 12 co, aI ci (q 11) 1400 it]) ok0 hK hP hD hS hA trivial [2, 3, 4, 5, 6, 7] rfl (by decide) 2 rfl rfl) rfl rfl hl.1 rfl (lv_room (Nat.le_of_ble_eq_true rfl)) dX8_item_56 ⟨show 0 + 0 ≤ 1 by omega, show 0 + 0 ≤ 6 by omega⟩) (wr := [(q 0, .inr (7, [.ref (q 1), .ref (q 3), .ref (q 5), .ref (q 6), .ref (q 12), .int wr])), (q 5, .inr (3, [.double fac]))]) hP hD hS hA [2, 3, 4, 5, 6, 7] [0, 1] rfl rfl (by decide) (by decide) (fun r_6 u H locs hw_6 hP hD hS => ?_)
          try dsimp only at hw_6
          have hP : va_P G vwCl [(q 0, .inr (7, [.ref (q 1), .ref (q 3), .ref (q 5), .ref (q 6), .ref (q 12), .int wr])), (q 5, .inr (3, [.double fac])), (q 6, .inr (2, [.ref (q 7), .ref (q 8), .ref (q 9), .ref (q 10), .ref (q 11), .int (nI pc), .int (nI ic)])), aI ci (q 7) 12 nu, aI ci (q 8) 12 ad, aI ci (q 9) 12 fi, aI ci (q 10) 12 co, aI ci (q 11) 1400 it] H := hP
          have hD : va_D A [(q 0, .inr (7, [.ref (q 1), .ref (q 3), .ref (q 5), .ref (q 6), .ref (q 12), .int wr])), (q 5, .inr (3, [.double fac])), (q 6, .inr (2, [.ref (q 7), .ref (q 8), .ref (q 9), .ref (q 10), .ref (q 11), .int (nI pc), .int (nI ic)])), aI ci (q 7) 12 nu, aI ci (q 8) 12 ad, aI ci (q 9) 12 fi, aI ci (q 10) 12 co, aI ci (q 11) 1400 it] := hD
          refine lv_sipush (v := nI 128) hx hb dX8_item_59 (by decide) ?_
          refine lv_icmp_eq (tgt := 67) hx hb dX8_item_62 (by decide) (fun c_7 => ?_) (fun c_7 => ?_)
          · skip
            refine lv_aload_n hx hb dX8_item_67 rfl (lv_at hl 0 rfl) ?_
            refine va_get (D := G) (ci := 7) (v := .ref (q 5)) (C := RX8) (T := TX8) (N := 6) hx hb hts hi_X8 hown hK hP 0 rfl rfl 2 (by decide) f_26 (fun _ h9 => h9) rfl dX8_item_68 ?_
            refine lv_aload_n hx hb dX8_item_71 rfl (lv_at hl 0 rfl) ?_
            refine va_get (D := G) (ci := 7) (v := .ref (q 6)) (C := RX8) (T := TX8) (N := 6) hx hb hts hi_X8 hown hK hP 0 rfl rfl 3 (by decide) f_33 (fun _ h9 => h9) rfl dX8_item_72 ?_
            refine lv_iload_n hx hb dX8_item_75 rfl (lv_at hl 1 rfl) ?_
            refine lv_iload_n hx hb dX8_item_76 rfl (lv_at hl 2 rfl) ?_
            refine lv_iload_n hx hb dX8_item_77 rfl (lv_at hl 3 rfl) ?_
            refine lv_bipush (v := nI 7) hx hb dX8_item_78 (by decide) ?_
            refine lv_icmp_ne (tgt := 88) hx hb dX8_item_80 (by decide) (fun c_8 => ?_) (fun c_8 => ?_)
            · skip
              refine lv_iconst (v := nI 1) hx hb dX8_item_88 (by decide) ?_
              refine jI (va_runV (As := [.int x, .int y, .int (nI 1)]) (rest := [.ref (q 5)]) ⟨hx, hb, hml, hown, hts⟩ (c_X3_partOf l G ci cz cl q H.size x y (nI 1) pc ic nu ad fi co it (by omega) (by omega) (by assumption)) (cwV 3 hts gX8_item2_X3_partOf rfl rfl rfl (by decide +kernel) ⟨(Nat.le_of_ble_eq_true rfl), (Nat.le_of_ble_eq_true rfl)⟩) (pV (wc := [(q 6, .inr (2, [.ref (q 7), .ref (q 8), .ref (q 9), .ref (q 10), .ref (q 11), .int (nI pc), .int (nI ic)])), aI ci (q 7) 12 nu, aI ci (q 8) 12 ad, aI ci (q 9) 12 fi, aI ci (q 10) 12 co, aI ci (q 11) 1400 it]) ok0 hK hP hD hS hA trivial [2, 3, 4, 5, 6, 7] rfl (by decide) 2 rfl rfl) rfl rfl hl.1 rfl (lv_room (Nat.le_of_ble_eq_true rfl)) dX8_item_89 ⟨show 0 + 0 ≤ 1 by omega, show 0 + 0 ≤ 6 by omega⟩) (wr := [(q 0, .inr (7, [.ref (q 1), .ref (q 3), .ref (q 5), .ref (q 6), .ref (q 12), .int wr])), (q 5, .inr (3, [.double fac]))]) hP hD hS hA [2, 3, 4, 5, 6, 7] [0, 1] rfl rfl (by decide) (by decide) (fun r_9 u H locs hw_9 hP hD hS => ?_)
              try dsimp only at hw_9
              have hP : va_P G vwCl [(q 0, .inr (7, [.ref (q 1), .ref (q 3), .ref (q 5), .ref (q 6), .ref (q 12), .int wr])), (q 5, .inr (3, [.double fac])), (q 6, .inr (2, [.ref (q 7), .ref (q 8), .ref (q 9), .ref (q 10), .ref (q 11), .int (nI pc), .int (nI ic)])), aI ci (q 7) 12 nu, aI ci (q 8) 12 ad, aI ci (q 9) 12 fi, aI ci (q 10) 12 co, aI ci (q 11) 1400 it] H := hP
              have hD : va_D A [(q 0, .inr (7, [.ref (q 1), .ref (q 3), .ref (q 5), .ref (q 6), .ref (q 12), .int wr])), (q 5, .inr (3, [.double fac])), (q 6, .inr (2, [.ref (q 7), .ref (q 8), .ref (q 9), .ref (q 10), .ref (q 11), .int (nI pc), .int (nI ic)])), aI ci (q 7) 12 nu, aI ci (q 8) 12 ad, aI ci (q 9) 12 fi, aI ci (q 10) 12 co, aI ci (q 11) 1400 it] := hD
              refine jI (va_runV (As := [.int r_9]) (rest := []) ⟨hx, hb, hml, hown, hts⟩ (c_X4_roundedUp l G ci cz cl q H.size r_9 fac (by assumption)) (cwV 1 hts gX8_item2_X4_roundedUp rfl rfl rfl (by decide +kernel) ⟨(Nat.le_of_ble_eq_true rfl), (Nat.le_of_ble_eq_true rfl)⟩) (pV (wc := [(q 5, .inr (3, [.double fac]))]) ok0 hK hP hD hS hA trivial [1] rfl (by decide) 1 rfl rfl) rfl rfl hl.1 rfl (lv_room (Nat.le_of_ble_eq_true rfl)) dX8_item_92 ⟨show 0 + 0 ≤ 1 by omega, show 0 + 0 ≤ 6 by omega⟩) (wr := [(q 0, .inr (7, [.ref (q 1), .ref (q 3), .ref (q 5), .ref (q 6), .ref (q 12), .int wr])), (q 6, .inr (2, [.ref (q 7), .ref (q 8), .ref (q 9), .ref (q 10), .ref (q 11), .int (nI pc), .int (nI ic)])), aI ci (q 7) 12 nu, aI ci (q 8) 12 ad, aI ci (q 9) 12 fi, aI ci (q 10) 12 co, aI ci (q 11) 1400 it]) hP hD hS hA [1] [0, 2, 3, 4, 5, 6, 7] rfl rfl (by decide) (by decide) (fun r_10 u H locs hw_10 hP hD hS => ?_)
              try dsimp only at hw_10
              have hP : va_P G vwCl [(q 0, .inr (7, [.ref (q 1), .ref (q 3), .ref (q 5), .ref (q 6), .ref (q 12), .int wr])), (q 6, .inr (2, [.ref (q 7), .ref (q 8), .ref (q 9), .ref (q 10), .ref (q 11), .int (nI pc), .int (nI ic)])), aI ci (q 7) 12 nu, aI ci (q 8) 12 ad, aI ci (q 9) 12 fi, aI ci (q 10) 12 co, aI ci (q 11) 1400 it, (q 5, .inr (3, [.double fac]))] H := hP
              have hD : va_D A [(q 0, .inr (7, [.ref (q 1), .ref (q 3), .ref (q 5), .ref (q 6), .ref (q 12), .int wr])), (q 6, .inr (2, [.ref (q 7), .ref (q 8), .ref (q 9), .ref (q 10), .ref (q 11), .int (nI pc), .int (nI ic)])), aI ci (q 7) 12 nu, aI ci (q 8) 12 ad, aI ci (q 9) 12 fi, aI ci (q 10) 12 co, aI ci (q 11) 1400 it, (q 5, .inr (3, [.double fac]))] := hD
              refine W.widen (k := 1) (n := 6) (by omega) (by omega) ?_
              refine vx_ret ?_
              exact rI (v := r_10) hx hb hr hlocks rfl hK hP hD hS [0, 7, 1, 2, 3, 4, 5, 6] () rfl (by decide) trivial dX8_item_95
            · skip
              refine lv_bipush (v := nI 6) hx hb dX8_item_83 (by decide) ?_
              refine lv_goto (tgt := 89) hx hb dX8_item_85 (by decide) ?_
              refine jI (va_runV (As := [.int x, .int y, .int (nI 6)]) (rest := [.ref (q 5)]) ⟨hx, hb, hml, hown, hts⟩ (c_X3_partOf l G ci cz cl q H.size x y (nI 6) pc ic nu ad fi co it (by omega) (by omega) (by assumption)) (cwV 3 hts gX8_item2_X3_partOf rfl rfl rfl (by decide +kernel) ⟨(Nat.le_of_ble_eq_true rfl), (Nat.le_of_ble_eq_true rfl)⟩) (pV (wc := [(q 6, .inr (2, [.ref (q 7), .ref (q 8), .ref (q 9), .ref (q 10), .ref (q 11), .int (nI pc), .int (nI ic)])), aI ci (q 7) 12 nu, aI ci (q 8) 12 ad, aI ci (q 9) 12 fi, aI ci (q 10) 12 co, aI ci (q 11) 1400 it]) ok0 hK hP hD hS hA trivial [2, 3, 4, 5, 6, 7] rfl (by decide) 2 rfl rfl) rfl rfl hl.1 rfl (lv_room (Nat.le_of_ble_eq_true rfl)) dX8_item_89 ⟨show 0 + 0 ≤ 1 by omega, show 0 + 0 ≤ 6 by omega⟩) (wr := [(q 0, .inr (7, [.ref (q 1), .ref (q 3), .ref (q 5), .ref (q 6), .ref (q 12), .int wr])), (q 5, .inr (3, [.double fac]))]) hP hD hS hA [2, 3, 4, 5, 6, 7] [0, 1] rfl rfl (by decide) (by decide) (fun r_11 u H locs hw_11 hP hD hS => ?_)
              try dsimp only at hw_11
              have hP : va_P G vwCl [(q 0, .inr (7, [.ref (q 1), .ref (q 3), .ref (q 5), .ref (q 6), .ref (q 12), .int wr])), (q 5, .inr (3, [.double fac])), (q 6, .inr (2, [.ref (q 7), .ref (q 8), .ref (q 9), .ref (q 10), .ref (q 11), .int (nI pc), .int (nI ic)])), aI ci (q 7) 12 nu, aI ci (q 8) 12 ad, aI ci (q 9) 12 fi, aI ci (q 10) 12 co, aI ci (q 11) 1400 it] H := hP
              have hD : va_D A [(q 0, .inr (7, [.ref (q 1), .ref (q 3), .ref (q 5), .ref (q 6), .ref (q 12), .int wr])), (q 5, .inr (3, [.double fac])), (q 6, .inr (2, [.ref (q 7), .ref (q 8), .ref (q 9), .ref (q 10), .ref (q 11), .int (nI pc), .int (nI ic)])), aI ci (q 7) 12 nu, aI ci (q 8) 12 ad, aI ci (q 9) 12 fi, aI ci (q 10) 12 co, aI ci (q 11) 1400 it] := hD
              refine jI (va_runV (As := [.int r_11]) (rest := []) ⟨hx, hb, hml, hown, hts⟩ (c_X4_roundedUp l G ci cz cl q H.size r_11 fac (by assumption)) (cwV 1 hts gX8_item2_X4_roundedUp rfl rfl rfl (by decide +kernel) ⟨(Nat.le_of_ble_eq_true rfl), (Nat.le_of_ble_eq_true rfl)⟩) (pV (wc := [(q 5, .inr (3, [.double fac]))]) ok0 hK hP hD hS hA trivial [1] rfl (by decide) 1 rfl rfl) rfl rfl hl.1 rfl (lv_room (Nat.le_of_ble_eq_true rfl)) dX8_item_92 ⟨show 0 + 0 ≤ 1 by omega, show 0 + 0 ≤ 6 by omega⟩) (wr := [(q 0, .inr (7, [.ref (q 1), .ref (q 3), .ref (q 5), .ref (q 6), .ref (q 12), .int wr])), (q 6, .inr (2, [.ref (q 7), .ref (q 8), .ref (q 9), .ref (q 10), .ref (q 11), .int (nI pc), .int (nI ic)])), aI ci (q 7) 12 nu, aI ci (q 8) 12 ad, aI ci (q 9) 12 fi, aI ci (q 10) 12 co, aI ci (q 11) 1400 it]) hP hD hS hA [1] [0, 2, 3, 4, 5, 6, 7] rfl rfl (by decide) (by decide) (fun r_12 u H locs hw_12 hP hD hS => ?_)
              try dsimp only at hw_12
              have hP : va_P G vwCl [(q 0, .inr (7, [.ref (q 1), .ref (q 3), .ref (q 5), .ref (q 6), .ref (q 12), .int wr])), (q 6, .inr (2, [.ref (q 7), .ref (q 8), .ref (q 9), .ref (q 10), .ref (q 11), .int (nI pc), .int (nI ic)])), aI ci (q 7) 12 nu, aI ci (q 8) 12 ad, aI ci (q 9) 12 fi, aI ci (q 10) 12 co, aI ci (q 11) 1400 it, (q 5, .inr (3, [.double fac]))] H := hP
              have hD : va_D A [(q 0, .inr (7, [.ref (q 1), .ref (q 3), .ref (q 5), .ref (q 6), .ref (q 12), .int wr])), (q 6, .inr (2, [.ref (q 7), .ref (q 8), .ref (q 9), .ref (q 10), .ref (q 11), .int (nI pc), .int (nI ic)])), aI ci (q 7) 12 nu, aI ci (q 8) 12 ad, aI ci (q 9) 12 fi, aI ci (q 10) 12 co, aI ci (q 11) 1400 it, (q 5, .inr (3, [.double fac]))] := hD
              refine W.widen (k := 1) (n := 6) (by omega) (by omega) ?_
              refine vx_ret ?_
              exact rI (v := r_12) hx hb hr hlocks rfl hK hP hD hS [0, 7, 1, 2, 3, 4, 5, 6] () rfl (by decide) trivial dX8_item_95
          · skip
            refine lv_iconst (v := nI 0) hx hb dX8_item_65 (by decide) ?_
            refine W.widen (k := 1) (n := 6) (by omega) (by omega) ?_
            refine vx_ret ?_
            exact rI (v := nI 0) hx hb hr hlocks rfl hK hP hD hS [0, 1, 2, 3, 4, 5, 6, 7] () rfl (by decide) trivial dX8_item_66
        · skip
          have z_5 := mt (i_le (nI 7) z).mpr c_5
          rw [nI_toInt (n := 7) (by omega)] at z_5
          refine lv_aload_n hx hb dX8_item_38 rfl (lv_at hl 0 rfl) ?_
          refine va_get (D := G) (ci := 7) (v := .ref (q 6)) (C := RX8) (T := TX8) (N := 6) hx hb hts hi_X8 hown hK hP 0 rfl rfl 3 (by decide) f_33 (fun _ h9 => h9) rfl dX8_item_39 ?_
          refine lv_iload_n hx hb dX8_item_42 rfl (lv_at hl 1 rfl) ?_
          refine lv_iload_n hx hb dX8_item_43 rfl (lv_at hl 2 rfl) ?_
          refine lv_iload_n hx hb dX8_item_44 rfl (lv_at hl 3 rfl) ?_
          refine jI (va_runV (As := [.int x, .int y, .int z]) (rest := []) ⟨hx, hb, hml, hown, hts⟩ (c_X3_partOf l G ci cz cl q H.size x y z pc ic nu ad fi co it (by omega) (by omega) (by assumption)) (cwV 3 hts gX8_item2_X3_partOf rfl rfl rfl (by decide +kernel) ⟨(Nat.le_of_ble_eq_true rfl), (Nat.le_of_ble_eq_true rfl)⟩) (pV (wc := [(q 6, .inr (2, [.ref (q 7), .ref (q 8), .ref (q 9), .ref (q 10), .ref (q 11), .int (nI pc), .int (nI ic)])), aI ci (q 7) 12 nu, aI ci (q 8) 12 ad, aI ci (q 9) 12 fi, aI ci (q 10) 12 co, aI ci (q 11) 1400 it]) ok0 hK hP hD hS hA trivial [2, 3, 4, 5, 6, 7] rfl (by decide) 2 rfl rfl) rfl rfl hl.1 rfl (lv_room (Nat.le_of_ble_eq_true rfl)) dX8_item_45 ⟨show 0 + 0 ≤ 1 by omega, show 0 + 0 ≤ 6 by omega⟩) (wr := [(q 0, .inr (7, [.ref (q 1), .ref (q 3), .ref (q 5), .ref (q 6), .ref (q 12), .int wr])), (q 5, .inr (3, [.double fac]))]) hP hD hS hA [2, 3, 4, 5, 6, 7] [0, 1] rfl rfl (by decide) (by decide) (fun r_13 u H locs hw_13 hP hD hS => ?_)
          try dsimp only at hw_13
          have hP : va_P G vwCl [(q 0, .inr (7, [.ref (q 1), .ref (q 3), .ref (q 5), .ref (q 6), .ref (q 12), .int wr])), (q 5, .inr (3, [.double fac])), (q 6, .inr (2, [.ref (q 7), .ref (q 8), .ref (q 9), .ref (q 10), .ref (q 11), .int (nI pc), .int (nI ic)])), aI ci (q 7) 12 nu, aI ci (q 8) 12 ad, aI ci (q 9) 12 fi, aI ci (q 10) 12 co, aI ci (q 11) 1400 it] H := hP
          have hD : va_D A [(q 0, .inr (7, [.ref (q 1), .ref (q 3), .ref (q 5), .ref (q 6), .ref (q 12), .int wr])), (q 5, .inr (3, [.double fac])), (q 6, .inr (2, [.ref (q 7), .ref (q 8), .ref (q 9), .ref (q 10), .ref (q 11), .int (nI pc), .int (nI ic)])), aI ci (q 7) 12 nu, aI ci (q 8) 12 ad, aI ci (q 9) 12 fi, aI ci (q 10) 12 co, aI ci (q 11) 1400 it] := hD
          refine W.widen (k := 1) (n := 6) (by omega) (by omega) ?_
          refine vx_ret ?_
          exact rI (v := r_13) hx hb hr hlocks rfl hK hP hD hS [0, 1, 2, 3, 4, 5, 6, 7] () rfl (by decide) trivial dX8_item_48
      · skip
        have z_4 := mt (i_le z (nI 8)).mpr c_4
        rw [nI_toInt (n := 8) (by omega)] at z_4
        exact thrN hx hb hl0 hown (hts (.classLink RX8 96 sNSE) (by decide +kernel)) (hts (.initialized sNSE) (by decide +kernel)) s6 (fun w h => hts w (List.mem_cons_of_mem _ (List.mem_append_right _ h))) k4 d1 d2 d3 hU hN hS (by rw [hml]; exact hl.1) dX8_item_22 dX8_item_25 dX8_item_26 dX8_item_28 dX8_item_31 (fun x hx => (hnt x hx).elim) (Nat.le_of_ble_eq_true rfl) (Nat.le_of_ble_eq_true rfl) (Nat.le_of_ble_eq_true rfl) (Nat.le_of_ble_eq_true rfl) hlocks hK hP hD [0, 1, 2, 3, 4, 5, 6, 7] () rfl (by decide) ⟨rfl, trivial⟩ (Nat.le_of_ble_eq_true rfl) (Nat.le_of_ble_eq_true rfl)
