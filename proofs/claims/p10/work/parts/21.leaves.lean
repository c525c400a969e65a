set_option maxHeartbeats 4000000 in
set_option maxRecDepth 100000 in
theorem c_X7_fits (l : Launch) (G : va_G) (ci cz cl : ClassId) (q : Nat → Nat) (sz : Nat) (x : Int32) (y : Int32) : CtI l yX7_fits wsX7_fits ({ frames := 0, cells := 0, slots := 0, locals := 0 }) G (TY ci cz cl) O0 [.int x, .int y] [] sz (fun (r : Int32) (u : Nat) => r = nI u ∧ ((u = 1 ∧ 0 ≤ x.toInt ∧ x.toInt < 8 ∧ 0 ≤ y.toInt ∧ y.toInt < 128) ∨ (u = 0 ∧ ¬ (0 ≤ x.toInt ∧ x.toInt < 8 ∧ 0 ≤ y.toInt ∧ y.toInt < 128)))) (fun u : Nat => []) 0 0 := by
  refine Met.ofW (cc := cX7_fits) (maxL := 2) (ret := (some .boolean)) (by decide) rfl ?_
  intro p e s m args below meth c s₁ B hml hv
  obtain ⟨rfl, ⟨hsz, hP, hK, hD0⟩, hO⟩ := hv
  have hx := B.exec
  have hb := B.bytes
  have hr := B.returns
  have hts := atoms_spec (ws := wsX7_fits) B.pre
  have hown : s.vm.findClass RX7 = some m.cls := findClass_of_methodNamed B.named
  have hlocks := B.notSynchronized
  subst hsz
  have hD := hD0.self (sz := s.heap.size)
  generalize hAe : va_A [] s.heap.size = A at hD hO ⊢
  have hA : ∀ q : Nat, s.heap.size ≤ q → A q := fun q h => by rw [← hAe]; exact Or.inr h
  have ok := ok0
  refine startH (A := A) (fun H locs hP hS => ?_) hP
  have hl := lv_entry ([.int x, .int y]) (n := 2) (Nat.le_of_ble_eq_true rfl)
  rw [lg_entry_eq]
  generalize (lg_sl ([.int x, .int y]) ++ List.replicate (2 - (lg_sl ([.int x, .int y])).length) Slot.unset).toArray = ls at hl ⊢
  have hl : lv_has ls 2 [(0, .int x), (1, .int y)] := hl
  refine lv_iload_n hx hb dX7_fits_0 rfl (lv_at hl 0 rfl) ?_
  refine lv_if_lt (tgt := 25) hx hb dX7_fits_1 (by decide) (fun c_1 => ?_) (fun c_1 => ?_)
  · skip
    have z_1 := (i_lt x (nI 0)).mp c_1
    rw [nI_toInt (n := 0) (by omega)] at z_1
    refine lv_iconst (v := nI 0) hx hb dX7_fits_25 (by decide) ?_
    exact rI (v := nI 0) hx hb hr hlocks nb0 hK hP hD hS [] 0 rfl (by decide) ⟨rfl, by (try dsimp only); omega⟩ dX7_fits_26
  · skip
    have z_1 := mt (i_lt x (nI 0)).mpr c_1
    rw [nI_toInt (n := 0) (by omega)] at z_1
    refine lv_iload_n hx hb dX7_fits_4 rfl (lv_at hl 0 rfl) ?_
    refine lv_bipush (v := nI 8) hx hb dX7_fits_5 (by decide) ?_
    refine lv_icmp_ge (tgt := 25) hx hb dX7_fits_7 (by decide) (fun c_2 => ?_) (fun c_2 => ?_)
    · skip
      have z_2 := (i_le (nI 8) x).mp c_2
      rw [nI_toInt (n := 8) (by omega)] at z_2
      refine lv_iconst (v := nI 0) hx hb dX7_fits_25 (by decide) ?_
      exact rI (v := nI 0) hx hb hr hlocks nb0 hK hP hD hS [] 0 rfl (by decide) ⟨rfl, by (try dsimp only); omega⟩ dX7_fits_26
    · skip
      have z_2 := mt (i_le (nI 8) x).mpr c_2
      rw [nI_toInt (n := 8) (by omega)] at z_2
      refine lv_iload_n hx hb dX7_fits_10 rfl (lv_at hl 1 rfl) ?_
      refine lv_if_lt (tgt := 25) hx hb dX7_fits_11 (by decide) (fun c_3 => ?_) (fun c_3 => ?_)
      · skip
        have z_3 := (i_lt y (nI 0)).mp c_3
        rw [nI_toInt (n := 0) (by omega)] at z_3
        refine lv_iconst (v := nI 0) hx hb dX7_fits_25 (by decide) ?_
        exact rI (v := nI 0) hx hb hr hlocks nb0 hK hP hD hS [] 0 rfl (by decide) ⟨rfl, by (try dsimp only); omega⟩ dX7_fits_26
      · skip
        have z_3 := mt (i_lt y (nI 0)).mpr c_3
        rw [nI_toInt (n := 0) (by omega)] at z_3
        refine lv_iload_n hx hb dX7_fits_14 rfl (lv_at hl 1 rfl) ?_
        refine lv_sipush (v := nI 128) hx hb dX7_fits_15 (by decide) ?_
        refine lv_icmp_ge (tgt := 25) hx hb dX7_fits_18 (by decide) (fun c_4 => ?_) (fun c_4 => ?_)
        · skip
          have z_4 := (i_le (nI 128) y).mp c_4
          rw [nI_toInt (n := 128) (by omega)] at z_4
          refine lv_iconst (v := nI 0) hx hb dX7_fits_25 (by decide) ?_
          exact rI (v := nI 0) hx hb hr hlocks nb0 hK hP hD hS [] 0 rfl (by decide) ⟨rfl, by (try dsimp only); omega⟩ dX7_fits_26
        · skip
          have z_4 := mt (i_le (nI 128) y).mpr c_4
          rw [nI_toInt (n := 128) (by omega)] at z_4
          refine lv_iconst (v := nI 1) hx hb dX7_fits_21 (by decide) ?_
          refine lv_goto (tgt := 26) hx hb dX7_fits_22 (by decide) ?_
          exact rI (v := nI 1) hx hb hr hlocks nb1 hK hP hD hS [] 1 rfl (by decide) ⟨rfl, by (try dsimp only); omega⟩ dX7_fits_26
set_option maxHeartbeats 4000000 in
set_option maxRecDepth 100000 in
theorem c_X7_change (l : Launch) (G : va_G) (ci cz cl : ClassId) (q : Nat → Nat) (sz : Nat) (x : Int32) (y : Int32) (z : Int32) (wid : Nat → Int32) : CtI l yX7_change wsX7_change ({ frames := 1, cells := 0, slots := 0, locals := 21 }) G (TY ci cz cl) O0 [.ref (q 3), .int x, .int y, .int z] [(q 3, .inr (6, [.ref (q 4)])), aI ci (q 4) 1024 wid] sz (fun (r : Int32) (u : Nat × (Nat → Int32)) => r = nI u.1 ∧ ((u.1 = 1 ∧ ∃ a b : Nat, x = nI a ∧ y = nI b ∧ a < 8 ∧ b < 128 ∧ -30000 ≤ z.toInt ∧ z.toInt ≤ 30000 ∧ u.2 = upd wid (a * 128 + b) z) ∨ (u.1 = 0 ∧ u.2 = wid ∧ ¬ (0 ≤ x.toInt ∧ x.toInt < 8 ∧ 0 ≤ y.toInt ∧ y.toInt < 128 ∧ -30000 ≤ z.toInt ∧ z.toInt ≤ 30000)))) (fun u : Nat × (Nat → Int32) => [(q 3, .inr (6, [.ref (q 4)])), aI ci (q 4) 1024 u.2]) 0 0 := by
  refine Met.ofW (cc := cX7_change) (maxL := 4) (ret := (some .boolean)) (by decide) rfl ?_
  intro p e s m args below meth c s₁ B hml hv
  obtain ⟨rfl, ⟨hsz, hP, hK, hD0⟩, hO⟩ := hv
  have hx := B.exec
  have hb := B.bytes
  have hr := B.returns
  have hts := atoms_spec (ws := wsX7_change) B.pre
  have hown : s.vm.findClass RX7 = some m.cls := findClass_of_methodNamed B.named
  have hlocks := B.notSynchronized
  subst hsz
  have hD := hD0.self (sz := s.heap.size)
  generalize hAe : va_A [(q 3, .inr (6, [.ref (q 4)])), aI ci (q 4) 1024 wid] s.heap.size = A at hD hO ⊢
  have hA : ∀ q : Nat, s.heap.size ≤ q → A q := fun q h => by rw [← hAe]; exact Or.inr h
  have ok := ok0
  refine startH (A := A) (fun H locs hP hS => ?_) hP
  have hi_X7 := (by decide +kernel : ∀ w ∈ wsX70, w ∈ wsX7_change)
  have f_11 := hts (.fieldLink RX7 11 "PageReader$Widths" "row" "[I") (by decide +kernel)
  have hl := lv_entry ([.ref (q 3), .int x, .int y, .int z]) (n := 4) (Nat.le_of_ble_eq_true rfl)
  rw [lg_entry_eq]
  generalize (lg_sl ([.ref (q 3), .int x, .int y, .int z]) ++ List.replicate (4 - (lg_sl ([.ref (q 3), .int x, .int y, .int z])).length) Slot.unset).toArray = ls at hl ⊢
  have hl : lv_has ls 4 [(0, .ref (q 3)), (1, .int x), (2, .int y), (3, .int z)] := hl
  refine lv_iload_n hx hb dX7_change_0 rfl (lv_at hl 1 rfl) ?_
  refine lv_iload_n hx hb dX7_change_1 rfl (lv_at hl 2 rfl) ?_
  refine jI (va_runS (As := [.int x, .int y]) (rest := []) ⟨hx, hb, hml, hown, hts⟩ (c_X7_fits l G ci cz cl q H.size x y ) (va_cwS 2 hts gX7_change_X7_fits rfl rfl rfl (by decide +kernel) ⟨(Nat.le_of_ble_eq_true rfl), (Nat.le_of_ble_eq_true rfl)⟩) (pS (wc := []) ok hK hP hD hS hA hO [] rfl (by decide)) rfl rfl hl.1 rfl (lv_room (Nat.le_of_ble_eq_true rfl)) dX7_change_2 ⟨(Nat.le_of_ble_eq_true rfl), (Nat.le_of_ble_eq_true rfl)⟩) (wr := [(q 3, .inr (6, [.ref (q 4)])), aI ci (q 4) 1024 wid]) hP hD hS hA [] [0, 1] rfl rfl (by decide) (by decide) (fun r_1 u H locs hw_1 hP hD hS => ?_)
  obtain ⟨bo_1, rfl⟩ : ∃ z, z = u := ⟨_, rfl⟩
  try dsimp only at hw_1
  obtain ⟨rfl, h_1⟩ := hw_1
  have hP : va_P G vwCl [(q 3, .inr (6, [.ref (q 4)])), aI ci (q 4) 1024 wid] H := hP
  have hD : va_D A [(q 3, .inr (6, [.ref (q 4)])), aI ci (q 4) 1024 wid] := hD
  refine lv_if_eq (tgt := 22) hx hb dX7_change_5 (by decide) (fun c_2 => ?_) (fun c_2 => ?_)
  · skip
    have z_2 := (nI_eq (a := bo_1) (b := 0) (by omega) (by omega)).mp c_2
    refine lv_iconst (v := nI 0) hx hb dX7_change_22 (by decide) ?_
    exact rI (v := nI 0) hx hb hr hlocks nb0 hK hP hD hS [0, 1] (0, wid) rfl (by decide) ⟨rfl, Or.inr ⟨rfl, rfl, by (try dsimp only); omega⟩⟩ dX7_change_23
  · skip
    have z_2 := mt (nI_eq (a := bo_1) (b := 0) (by omega) (by omega)).mpr c_2
    refine lv_iload_n hx hb dX7_change_8 rfl (lv_at hl 3 rfl) ?_
    refine lv_sipush (v := (-30000)) hx hb dX7_change_9 (by decide) ?_
    refine lv_icmp_lt (tgt := 22) hx hb dX7_change_12 (by decide) (fun c_3 => ?_) (fun c_3 => ?_)
    · skip
      have z_3 := (i_lt z (-30000)).mp c_3
      rw [show ((-30000) : Int32).toInt = (-30000) from by decide] at z_3
      refine lv_iconst (v := nI 0) hx hb dX7_change_22 (by decide) ?_
      exact rI (v := nI 0) hx hb hr hlocks nb0 hK hP hD hS [0, 1] (0, wid) rfl (by decide) ⟨rfl, Or.inr ⟨rfl, rfl, by (try dsimp only); omega⟩⟩ dX7_change_23
    · skip
      have z_3 := mt (i_lt z (-30000)).mpr c_3
      rw [show ((-30000) : Int32).toInt = (-30000) from by decide] at z_3
      refine lv_iload_n hx hb dX7_change_15 rfl (lv_at hl 3 rfl) ?_
      refine lv_sipush (v := nI 30000) hx hb dX7_change_16 (by decide) ?_
      refine lv_icmp_le (tgt := 24) hx hb dX7_change_19 (by decide) (fun c_4 => ?_) (fun c_4 => ?_)
      · skip
        have z_4 := (i_le z (nI 30000)).mp c_4
        rw [nI_toInt (n := 30000) (by omega)] at z_4
        obtain ⟨x9, hx1, hx2, hx3⟩ := i_nonneg (x := x) (by omega)
        obtain ⟨y9, hy1, hy2, hy3⟩ := i_nonneg (x := y) (by omega)
        refine lv_aload_n hx hb dX7_change_24 rfl (lv_at hl 0 rfl) ?_
        refine va_get (D := G) (ci := 6) (v := .ref (q 4)) (C := RX7) (T := TX7) (N := 1) hx hb hts hi_X7 hown hK hP 0 rfl rfl 0 (by decide) f_11 (fun _ h9 => h9) rfl dX7_change_25 ?_
        refine lv_iload_n hx hb dX7_change_28 rfl (lv_at hl 1 rfl) ?_
        refine tp (y := nI x9) hx2 ?_
        refine lv_sipush (v := nI 128) hx hb dX7_change_29 (by decide) ?_
        refine lv_imul hx hb dX7_change_32 ?_
        refine tp (pk_mul _ _) ?_
        refine lv_iload_n hx hb dX7_change_33 rfl (lv_at hl 2 rfl) ?_
        refine tp (y := nI y9) hy2 ?_
        refine lv_iadd hx hb dX7_change_34 ?_
        refine tp (nI_add _ _) ?_
        refine lv_iload_n hx hb dX7_change_35 rfl (lv_at hl 3 rfl) ?_
        refine va_iast hx hb hK hP hD hS 1 0 rfl rfl (vp_in_nI (by omega) (by omega)) dX7_change_36 (fun H locs hP hD hS => ?_)
        rw [nI_clamp (by omega)] at hP hD
        have hP : va_P G vwCl [(q 3, .inr (6, [.ref (q 4)])), aI ci (q 4) 1024 (upd wid ((x9 * 128) + y9) z)] H := hP
        have hD : va_D A [(q 3, .inr (6, [.ref (q 4)])), aI ci (q 4) 1024 (upd wid ((x9 * 128) + y9) z)] := hD
        refine lv_iconst (v := nI 1) hx hb dX7_change_37 (by decide) ?_
        exact rI (v := nI 1) hx hb hr hlocks nb1 hK hP hD hS [0, 1] (1, upd wid ((x9 * 128) + y9) z) rfl (by decide) ⟨rfl, Or.inl ⟨rfl, x9, y9, hx2, hy2, by (try dsimp only); omega, by (try dsimp only); omega, by (try dsimp only); omega, by (try dsimp only); omega, rfl⟩⟩ dX7_change_38
      · skip
        have z_4 := mt (i_le z (nI 30000)).mpr c_4
        rw [nI_toInt (n := 30000) (by omega)] at z_4
        refine lv_iconst (v := nI 0) hx hb dX7_change_22 (by decide) ?_
        exact rI (v := nI 0) hx hb hr hlocks nb0 hK hP hD hS [0, 1] (0, wid) rfl (by decide) ⟨rfl, Or.inr ⟨rfl, rfl, by (try dsimp only); omega⟩⟩ dX7_change_23
set_option maxHeartbeats 4000000 in
set_option maxRecDepth 100000 in
theorem c_X7_of (l : Launch) (G : va_G) (ci cz cl : ClassId) (q : Nat → Nat) (sz : Nat) (k : Nat) (kk : Nat) (wid : Nat → Int32) (hk : k ≤ 7) (hkk : kk ≤ 127) : CtI l yX7_of wsX7_of ({ frames := 1, cells := 0, slots := 0, locals := 21 }) G (TY ci cz cl) O0 [.ref (q 3), .int (nI k), .int (nI kk)] [(q 3, .inr (6, [.ref (q 4)])), aI ci (q 4) 1024 wid] sz (fun (r : Int32) (u : Unit) => r = wid (k * 128 + kk)) (fun u : Unit => [(q 3, .inr (6, [.ref (q 4)])), aI ci (q 4) 1024 wid]) 0 0 := by
  refine Met.ofW (cc := cX7_of) (maxL := 3) (ret := (some .int)) (by decide) rfl ?_
  intro p e s m args below meth c s₁ B hml hv
  obtain ⟨rfl, ⟨hsz, hP, hK, hD0⟩, hO⟩ := hv
  have hx := B.exec
  have hb := B.bytes
  have hr := B.returns
  have hts := atoms_spec (ws := wsX7_of) B.pre
  have hown : s.vm.findClass RX7 = some m.cls := findClass_of_methodNamed B.named
  have hlocks := B.notSynchronized
  subst hsz
  have hD := hD0.self (sz := s.heap.size)
  generalize hAe : va_A [(q 3, .inr (6, [.ref (q 4)])), aI ci (q 4) 1024 wid] s.heap.size = A at hD hO ⊢
  have hA : ∀ q : Nat, s.heap.size ≤ q → A q := fun q h => by rw [← hAe]; exact Or.inr h
  have ok := ok0
  refine startH (A := A) (fun H locs hP hS => ?_) hP
  have hi_X7 := (by decide +kernel : ∀ w ∈ wsX70, w ∈ wsX7_of)
  have f_11 := hts (.fieldLink RX7 11 "PageReader$Widths" "row" "[I") (by decide +kernel)
  have hl := lv_entry ([.ref (q 3), .int (nI k), .int (nI kk)]) (n := 3) (Nat.le_of_ble_eq_true rfl)
  rw [lg_entry_eq]
  generalize (lg_sl ([.ref (q 3), .int (nI k), .int (nI kk)]) ++ List.replicate (3 - (lg_sl ([.ref (q 3), .int (nI k), .int (nI kk)])).length) Slot.unset).toArray = ls at hl ⊢
  have hl : lv_has ls 3 [(0, .ref (q 3)), (1, .int (nI k)), (2, .int (nI kk))] := hl
  have tx := nI_toInt (n := k) (by omega)
  have ty := nI_toInt (n := kk) (by omega)
  refine lv_iload_n hx hb dX7_of_0 rfl (lv_at hl 1 rfl) ?_
  refine lv_iload_n hx hb dX7_of_1 rfl (lv_at hl 2 rfl) ?_
  refine jI (va_runS (As := [.int (nI k), .int (nI kk)]) (rest := []) ⟨hx, hb, hml, hown, hts⟩ (c_X7_fits l G ci cz cl q H.size (nI k) (nI kk) ) (va_cwS 2 hts gX7_of_X7_fits rfl rfl rfl (by decide +kernel) ⟨(Nat.le_of_ble_eq_true rfl), (Nat.le_of_ble_eq_true rfl)⟩) (pS (wc := []) ok hK hP hD hS hA hO [] rfl (by decide)) rfl rfl hl.1 rfl (lv_room (Nat.le_of_ble_eq_true rfl)) dX7_of_2 ⟨(Nat.le_of_ble_eq_true rfl), (Nat.le_of_ble_eq_true rfl)⟩) (wr := [(q 3, .inr (6, [.ref (q 4)])), aI ci (q 4) 1024 wid]) hP hD hS hA [] [0, 1] rfl rfl (by decide) (by decide) (fun r_1 u H locs hw_1 hP hD hS => ?_)
  obtain ⟨bo_1, rfl⟩ : ∃ z, z = u := ⟨_, rfl⟩
  try dsimp only at hw_1
  obtain ⟨rfl, h_1⟩ := hw_1
  have hP : va_P G vwCl [(q 3, .inr (6, [.ref (q 4)])), aI ci (q 4) 1024 wid] H := hP
  have hD : va_D A [(q 3, .inr (6, [.ref (q 4)])), aI ci (q 4) 1024 wid] := hD
  refine lv_if_eq (tgt := 23) hx hb dX7_of_5 (by decide) (fun c_2 => ?_) (fun c_2 => ?_)
  · skip
    have z_2 := (nI_eq (a := bo_1) (b := 0) (by omega) (by omega)).mp c_2
    exfalso; omega
  · skip
    have z_2 := mt (nI_eq (a := bo_1) (b := 0) (by omega) (by omega)).mpr c_2
    refine lv_aload_n hx hb dX7_of_8 rfl (lv_at hl 0 rfl) ?_
    refine va_get (D := G) (ci := 6) (v := .ref (q 4)) (C := RX7) (T := TX7) (N := 1) hx hb hts hi_X7 hown hK hP 0 rfl rfl 0 (by decide) f_11 (fun _ h9 => h9) rfl dX7_of_9 ?_
    refine lv_iload_n hx hb dX7_of_12 rfl (lv_at hl 1 rfl) ?_
    refine lv_sipush (v := nI 128) hx hb dX7_of_13 (by decide) ?_
    refine lv_imul hx hb dX7_of_16 ?_
    refine tp (pk_mul _ _) ?_
    refine lv_iload_n hx hb dX7_of_17 rfl (lv_at hl 2 rfl) ?_
    refine lv_iadd hx hb dX7_of_18 ?_
    refine tp (nI_add _ _) ?_
    refine va_iald hx hb hK hP 1 0 rfl rfl (vp_in_nI (by omega) (by omega)) dX7_of_19 ?_
    refine tp (y := wid ((k * 128) + kk)) (congrArg wid (nI_clamp (by omega))) ?_
    refine lv_goto (tgt := 24) hx hb dX7_of_20 (by decide) ?_
    exact rI (v := wid ((k * 128) + kk)) hx hb hr hlocks rfl hK hP hD hS [0, 1] () rfl (by decide) rfl dX7_of_24
set_option maxHeartbeats 4000000 in
set_option maxRecDepth 100000 in
theorem c_X4_clear (l : Launch) (G : va_G) (ci cz cl : ClassId) (q : Nat → Nat) (sz : Nat) (fac : UInt64) : CtV l yX4_clear wsX4_clear ({ frames := 0, cells := 0, slots := 0, locals := 0 }) G (TY ci cz cl) O0 [.ref (q 5)] [(q 5, .inr (3, [.double fac]))] sz (fun (u : Unit) => True) (fun u : Unit => [(q 5, .inr (3, [.double FP.dconst0]))]) 0 0 := by
  refine Met.ofW (cc := cX4_clear) (maxL := 1) (ret := none) (by decide) rfl ?_
  intro p e s m args below meth c s₁ B hml hv
  obtain ⟨rfl, ⟨hsz, hP, hK, hD0⟩, hO⟩ := hv
  have hx := B.exec
  have hb := B.bytes
  have hr := B.returns
  have hts := atoms_spec (ws := wsX4_clear) B.pre
  have hown : s.vm.findClass RX4 = some m.cls := findClass_of_methodNamed B.named
  have hlocks := B.notSynchronized
  subst hsz
  have hD := hD0.self (sz := s.heap.size)
  generalize hAe : va_A [(q 5, .inr (3, [.double fac]))] s.heap.size = A at hD hO ⊢
  have hA : ∀ q : Nat, s.heap.size ≤ q → A q := fun q h => by rw [← hAe]; exact Or.inr h
  have ok := ok0
  refine startH (A := A) (fun H locs hP hS => ?_) hP
  have hi_X4 := (by decide +kernel : ∀ w ∈ wsX40, w ∈ wsX4_clear)
  have f_7 := hts (.fieldLink RX4 7 "PageReader$Pixels" "factor" "D") (by decide +kernel)
  have hl := lv_entry ([.ref (q 5)]) (n := 1) (Nat.le_of_ble_eq_true rfl)
  rw [lg_entry_eq]
  generalize (lg_sl ([.ref (q 5)]) ++ List.replicate (1 - (lg_sl ([.ref (q 5)])).length) Slot.unset).toArray = ls at hl ⊢
  have hl : lv_has ls 1 [(0, .ref (q 5))] := hl
  refine lv_aload_n hx hb dX4_clear_0 rfl (lv_at hl 0 rfl) ?_
  refine lv_dconst0 hx hb dX4_clear_1 ?_
  refine va_put (D := G) (ci := 3) (v := .double FP.dconst0) (ty := .double) (C := RX4) (T := TX4) (N := 1) hx hb hts hi_X4 tyX4 tyX4_ok nmX4 hown hK hP hD hS 0 rfl rfl 0 (by decide) f_7 (fun _ h9 => h9) rfl (by decide +kernel) rfl rfl (Nat.le_of_ble_eq_true rfl) dX4_clear_2 (fun H locs hP hD hS => ?_)
  have hP : va_P G vwCl [(q 5, .inr (3, [.double FP.dconst0]))] H := hP
  have hD : va_D A [(q 5, .inr (3, [.double FP.dconst0]))] := hD
  exact rV hx hb hr hlocks hK hP hD hS [0] () rfl (by decide) trivial dX4_clear_5
set_option maxHeartbeats 4000000 in
set_option maxRecDepth 100000 in
theorem c_X4_become (l : Launch) (G : va_G) (ci cz cl : ClassId) (q : Nat → Nat) (sz : Nat) (a1 : Nat) (a2 : Nat) (a3 : Nat) (fac : UInt64) (hf : Fn fac) (ha : a1 ≤ 16777215 ∧ a2 ≤ 16777215 ∧ a3 ≤ 16777215) : CtI l yX4_become wsX4_become ({ frames := 0, cells := 0, slots := 0, locals := 0 }) G (TY ci cz cl) O0 [.ref (q 5), .int (nI a1), .int (nI a2), .int (nI a3)] [(q 5, .inr (3, [.double fac]))] sz (fun (r : Int32) (u : Nat × UInt64) => r = nI u.1 ∧ ((u.1 = 1 ∧ cnv a1 a2 a3 = u.2 ∧ 1 ≤ a1 ∧ 1 ≤ a2 ∧ 1 ≤ a3) ∨ (u.1 = 0 ∧ fac = u.2 ∧ (a1 < 1 ∨ a2 < 1 ∨ a3 < 1))) ∧ Fn u.2) (fun u : Nat × UInt64 => [(q 5, .inr (3, [.double u.2]))]) 0 0 := by
  refine Met.ofW (cc := cX4_become) (maxL := 4) (ret := (some .boolean)) (by decide) rfl ?_
  intro p e s m args below meth c s₁ B hml hv
  obtain ⟨rfl, ⟨hsz, hP, hK, hD0⟩, hO⟩ := hv
  have hx := B.exec
  have hb := B.bytes
  have hr := B.returns
  have hts := atoms_spec (ws := wsX4_become) B.pre
  have hown : s.vm.findClass RX4 = some m.cls := findClass_of_methodNamed B.named
  have hlocks := B.notSynchronized
  subst hsz
  have hD := hD0.self (sz := s.heap.size)
  generalize hAe : va_A [(q 5, .inr (3, [.double fac]))] s.heap.size = A at hD hO ⊢
  have hA : ∀ q : Nat, s.heap.size ≤ q → A q := fun q h => by rw [← hAe]; exact Or.inr h
  have ok := ok0
  refine startH (A := A) (fun H locs hP hS => ?_) hP
  have k_13 := hts (.constantDouble RX4 13 (4652007308841189376)) (by decide +kernel)
  have hi_X4 := (by decide +kernel : ∀ w ∈ wsX40, w ∈ wsX4_become)
  have f_7 := hts (.fieldLink RX4 7 "PageReader$Pixels" "factor" "D") (by decide +kernel)
  have hl := lv_entry ([.ref (q 5), .int (nI a1), .int (nI a2), .int (nI a3)]) (n := 4) (Nat.le_of_ble_eq_true rfl)
  rw [lg_entry_eq]
  generalize (lg_sl ([.ref (q 5), .int (nI a1), .int (nI a2), .int (nI a3)]) ++ List.replicate (4 - (lg_sl ([.ref (q 5), .int (nI a1), .int (nI a2), .int (nI a3)])).length) Slot.unset).toArray = ls at hl ⊢
  have hl : lv_has ls 4 [(0, .ref (q 5)), (1, .int (nI a1)), (2, .int (nI a2)), (3, .int (nI a3))] := hl
  refine lv_iload_n hx hb dX4_become_0 rfl (lv_at hl 1 rfl) ?_
  refine lv_iconst (v := nI 1) hx hb dX4_become_1 (by decide) ?_
  refine lv_icmp_lt (tgt := 15) hx hb dX4_become_2 (by decide) (fun c_1 => ?_) (fun c_1 => ?_)
  · skip
    have z_1 := (nI_ltI (a := a1) (b := 1) (by omega) (by omega)).mp c_1
    refine lv_iconst (v := nI 0) hx hb dX4_become_15 (by decide) ?_
    exact rI (v := nI 0) hx hb hr hlocks nb0 hK hP hD hS [0] (0, fac) rfl (by decide) ⟨rfl, Or.inr ⟨rfl, rfl, by (try dsimp only); omega⟩, hf⟩ dX4_become_16
  · skip
    have z_1 := mt (nI_ltI (a := a1) (b := 1) (by omega) (by omega)).mpr c_1
    refine lv_iload_n hx hb dX4_become_5 rfl (lv_at hl 2 rfl) ?_
    refine lv_iconst (v := nI 1) hx hb dX4_become_6 (by decide) ?_
    refine lv_icmp_lt (tgt := 15) hx hb dX4_become_7 (by decide) (fun c_2 => ?_) (fun c_2 => ?_)
    · skip
      have z_2 := (nI_ltI (a := a2) (b := 1) (by omega) (by omega)).mp c_2
      refine lv_iconst (v := nI 0) hx hb dX4_become_15 (by decide) ?_
      exact rI (v := nI 0) hx hb hr hlocks nb0 hK hP hD hS [0] (0, fac) rfl (by decide) ⟨rfl, Or.inr ⟨rfl, rfl, by (try dsimp only); omega⟩, hf⟩ dX4_become_16
    · skip
      have z_2 := mt (nI_ltI (a := a2) (b := 1) (by omega) (by omega)).mpr c_2
      refine lv_iload_n hx hb dX4_become_10 rfl (lv_at hl 3 rfl) ?_
      refine lv_iconst (v := nI 1) hx hb dX4_become_11 (by decide) ?_
      refine lv_icmp_ge (tgt := 17) hx hb dX4_become_12 (by decide) (fun c_3 => ?_) (fun c_3 => ?_)
      · skip
        have z_3 := (nI_leI (a := 1) (b := a3) (by omega) (by omega)).mp c_3
        refine lv_aload_n hx hb dX4_become_17 rfl (lv_at hl 0 rfl) ?_
        refine lv_iload_n hx hb dX4_become_18 rfl (lv_at hl 1 rfl) ?_
        refine lv_i2d hx hb dX4_become_19 ?_
        refine lv_iload_n hx hb dX4_become_20 rfl (lv_at hl 2 rfl) ?_
        refine lv_i2d hx hb dX4_become_21 ?_
        refine lv_ddiv hx hb dX4_become_22 (ne_div (by rw [nI_toInt (by omega)]; omega) (by rw [nI_toInt (by omega)]; omega)) ?_
        refine lv_iload_n hx hb dX4_become_23 rfl (lv_at hl 3 rfl) ?_
        refine lv_i2d hx hb dX4_become_24 ?_
        refine lv_ldc2d hx hb hown k_13 dX4_become_25 ?_
        refine lv_ddiv hx hb dX4_become_28 (ne_divk (by rw [nI_toInt (by omega)]; omega)) ?_
        refine lv_dmul hx hb dX4_become_29 (ne_conv (by rw [nI_toInt (by omega)]; omega) (by rw [nI_toInt (by omega)]; omega) (by rw [nI_toInt (by omega)]; omega)) ?_
        refine va_put (D := G) (ci := 3) (v := .double (FP.dmul (FP.ddiv (FP.i2d (nI a1)) (FP.i2d (nI a2))) (FP.ddiv (FP.i2d (nI a3)) 4652007308841189376))) (ty := .double) (C := RX4) (T := TX4) (N := 1) hx hb hts hi_X4 tyX4 tyX4_ok nmX4 hown hK hP hD hS 0 rfl rfl 0 (by decide) f_7 (fun _ h9 => h9) rfl (by decide +kernel) rfl rfl (Nat.le_of_ble_eq_true rfl) dX4_become_30 (fun H locs hP hD hS => ?_)
        have hP : va_P G vwCl [(q 5, .inr (3, [.double (FP.dmul (FP.ddiv (FP.i2d (nI a1)) (FP.i2d (nI a2))) (FP.ddiv (FP.i2d (nI a3)) 4652007308841189376))]))] H := hP
        have hD : va_D A [(q 5, .inr (3, [.double (FP.dmul (FP.ddiv (FP.i2d (nI a1)) (FP.i2d (nI a2))) (FP.ddiv (FP.i2d (nI a3)) 4652007308841189376))]))] := hD
        refine lv_iconst (v := nI 1) hx hb dX4_become_33 (by decide) ?_
        exact rI (v := nI 1) hx hb hr hlocks nb1 hK hP hD hS [0] (1, FP.dmul (FP.ddiv (FP.i2d (nI a1)) (FP.i2d (nI a2))) (FP.ddiv (FP.i2d (nI a3)) 4652007308841189376)) rfl (by decide) ⟨rfl, Or.inl ⟨rfl, rfl, by (try dsimp only); omega, by (try dsimp only); omega, by (try dsimp only); omega⟩, fn_conv (by rw [nI_toInt (by (try dsimp only); omega)]; omega) (by rw [nI_toInt (by (try dsimp only); omega)]; omega) (by rw [nI_toInt (by (try dsimp only); omega)]; omega)⟩ dX4_become_34
      · skip
        have z_3 := mt (nI_leI (a := 1) (b := a3) (by omega) (by omega)).mpr c_3
        refine lv_iconst (v := nI 0) hx hb dX4_become_15 (by decide) ?_
        exact rI (v := nI 0) hx hb hr hlocks nb0 hK hP hD hS [0] (0, fac) rfl (by decide) ⟨rfl, Or.inr ⟨rfl, rfl, by (try dsimp only); omega⟩, hf⟩ dX4_become_16
set_option maxHeartbeats 4000000 in
set_option maxRecDepth 100000 in
theorem c_X4_factor (l : Launch) (G : va_G) (ci cz cl : ClassId) (q : Nat → Nat) (sz : Nat) (fac : UInt64) : CtD l yX4_factor wsX4_factor ({ frames := 0, cells := 0, slots := 0, locals := 0 }) G (TY ci cz cl) O0 [.ref (q 5)] [(q 5, .inr (3, [.double fac]))] sz (fun (r : UInt64) (u : Unit) => r = fac) (fun u : Unit => [(q 5, .inr (3, [.double fac]))]) 0 0 := by
  refine Met.ofW (cc := cX4_factor) (maxL := 1) (ret := (some .double)) (by decide) rfl ?_
  intro p e s m args below meth c s₁ B hml hv
  obtain ⟨rfl, ⟨hsz, hP, hK, hD0⟩, hO⟩ := hv
  have hx := B.exec
  have hb := B.bytes
  have hr := B.returns
  have hts := atoms_spec (ws := wsX4_factor) B.pre
  have hown : s.vm.findClass RX4 = some m.cls := findClass_of_methodNamed B.named
  have hlocks := B.notSynchronized
  subst hsz
  have hD := hD0.self (sz := s.heap.size)
  generalize hAe : va_A [(q 5, .inr (3, [.double fac]))] s.heap.size = A at hD hO ⊢
  have hA : ∀ q : Nat, s.heap.size ≤ q → A q := fun q h => by rw [← hAe]; exact Or.inr h
  have ok := ok0
  refine startH (A := A) (fun H locs hP hS => ?_) hP
  have hi_X4 := (by decide +kernel : ∀ w ∈ wsX40, w ∈ wsX4_factor)
  have f_7 := hts (.fieldLink RX4 7 "PageReader$Pixels" "factor" "D") (by decide +kernel)
  have hl := lv_entry ([.ref (q 5)]) (n := 1) (Nat.le_of_ble_eq_true rfl)
  rw [lg_entry_eq]
  generalize (lg_sl ([.ref (q 5)]) ++ List.replicate (1 - (lg_sl ([.ref (q 5)])).length) Slot.unset).toArray = ls at hl ⊢
  have hl : lv_has ls 1 [(0, .ref (q 5))] := hl
  refine lv_aload_n hx hb dX4_factor_0 rfl (lv_at hl 0 rfl) ?_
  refine va_get (D := G) (ci := 3) (v := .double fac) (C := RX4) (T := TX4) (N := 1) hx hb hts hi_X4 hown hK hP 0 rfl rfl 0 (by decide) f_7 (fun _ h9 => h9) rfl dX4_factor_1 ?_
  exact rD hx hb hr hlocks hK hP hD hS [0] () rfl (by decide) rfl dX4_factor_4
set_option maxHeartbeats 4000000 in
set_option maxRecDepth 100000 in
theorem c_X4_rounded (l : Launch) (G : va_G) (ci cz cl : ClassId) (q : Nat → Nat) (sz : Nat) (x : Int32) (fac : UInt64) (hf : Fn fac) : CtI l yX4_rounded wsX4_rounded ({ frames := 0, cells := 0, slots := 0, locals := 0 }) G (TY ci cz cl) O0 [.ref (q 5), .int x] [(q 5, .inr (3, [.double fac]))] sz (fun (r : Int32) (u : Unit) => True) (fun u : Unit => [(q 5, .inr (3, [.double fac]))]) 0 0 := by
  refine Met.ofW (cc := cX4_rounded) (maxL := 4) (ret := (some .int)) (by decide) rfl ?_
  intro p e s m args below meth c s₁ B hml hv
  obtain ⟨rfl, ⟨hsz, hP, hK, hD0⟩, hO⟩ := hv
  have hx := B.exec
  have hb := B.bytes
  have hr := B.returns
  have hts := atoms_spec (ws := wsX4_rounded) B.pre
  have hown : s.vm.findClass RX4 = some m.cls := findClass_of_methodNamed B.named
  have hlocks := B.notSynchronized
  subst hsz
  have hD := hD0.self (sz := s.heap.size)
  generalize hAe : va_A [(q 5, .inr (3, [.double fac]))] s.heap.size = A at hD hO ⊢
  have hA : ∀ q : Nat, s.heap.size ≤ q → A q := fun q h => by rw [← hAe]; exact Or.inr h
  have ok := ok0
  refine startH (A := A) (fun H locs hP hS => ?_) hP
  have hi_X4 := (by decide +kernel : ∀ w ∈ wsX40, w ∈ wsX4_rounded)
  have f_7 := hts (.fieldLink RX4 7 "PageReader$Pixels" "factor" "D") (by decide +kernel)
  have k_15 := hts (.constantDouble RX4 15 (4602678819172646912)) (by decide +kernel)
  have hl := lv_entry ([.ref (q 5), .int x]) (n := 4) (Nat.le_of_ble_eq_true rfl)
  rw [lg_entry_eq]
  generalize (lg_sl ([.ref (q 5), .int x]) ++ List.replicate (4 - (lg_sl ([.ref (q 5), .int x])).length) Slot.unset).toArray = ls at hl ⊢
  have hl : lv_has ls 4 [(0, .ref (q 5)), (1, .int x)] := hl
  refine lv_aload_n hx hb dX4_rounded_0 rfl (lv_at hl 0 rfl) ?_
  refine va_get (D := G) (ci := 3) (v := .double fac) (C := RX4) (T := TX4) (N := 1) hx hb hts hi_X4 hown hK hP 0 rfl rfl 0 (by decide) f_7 (fun _ h9 => h9) rfl dX4_rounded_1 ?_
  refine lv_iload_n hx hb dX4_rounded_4 rfl (lv_at hl 1 rfl) ?_
  refine lv_i2d hx hb dX4_rounded_5 ?_
  refine lv_dmul hx hb dX4_rounded_6 (ne_mulI hf x) ?_
  refine lv_dstore_n (lv' := [(2, .double (FP.dmul fac (FP.i2d x))), (0, .ref (q 5)), (1, .int x)]) hx hb dX4_rounded_7 rfl hl (by decide) rfl (fun ls hl => ?_)
  refine lv_dload_n hx hb dX4_rounded_8 rfl (lv_at hl 0 rfl) ?_
  refine lv_dconst0 hx hb dX4_rounded_9 ?_
  refine lv_dcmp hx hb dX4_rounded_10 ?_
  refine lv_if_lt (tgt := 23) hx hb dX4_rounded_11 (by decide) (fun c_1 => ?_) (fun c_1 => ?_)
  · skip
    refine lv_ldc2d hx hb hown k_15 dX4_rounded_23 ?_
    refine lv_dload_n hx hb dX4_rounded_26 rfl (lv_at hl 0 rfl) ?_
    refine lv_dsub hx hb dX4_rounded_27 (ne_sub (nn_mulI hf x)) ?_
    refine lv_d2i hx hb dX4_rounded_28 ?_
    refine lv_ineg hx hb dX4_rounded_29 ?_
    exact rI (v := -(FP.d2i (FP.dsub 4602678819172646912 (FP.dmul fac (FP.i2d x))))) hx hb hr hlocks rfl hK hP hD hS [0] () rfl (by decide) trivial dX4_rounded_30
  · skip
    refine lv_dload_n hx hb dX4_rounded_14 rfl (lv_at hl 0 rfl) ?_
    refine lv_ldc2d hx hb hown k_15 dX4_rounded_15 ?_
    refine lv_dadd hx hb dX4_rounded_18 (ne_add (nn_mulI hf x)) ?_
    refine lv_d2i hx hb dX4_rounded_19 ?_
    refine lv_goto (tgt := 30) hx hb dX4_rounded_20 (by decide) ?_
    exact rI (v := FP.d2i (FP.dadd (FP.dmul fac (FP.i2d x)) 4602678819172646912)) hx hb hr hlocks rfl hK hP hD hS [0] () rfl (by decide) trivial dX4_rounded_30
set_option maxHeartbeats 4000000 in
set_option maxRecDepth 100000 in
theorem c_X4_roundedUp (l : Launch) (G : va_G) (ci cz cl : ClassId) (q : Nat → Nat) (sz : Nat) (x : Int32) (fac : UInt64) (hf : Fn fac) : CtI l yX4_roundedUp wsX4_roundedUp ({ frames := 0, cells := 0, slots := 0, locals := 0 }) G (TY ci cz cl) O0 [.ref (q 5), .int x] [(q 5, .inr (3, [.double fac]))] sz (fun (r : Int32) (u : Unit) => True) (fun u : Unit => [(q 5, .inr (3, [.double fac]))]) 0 0 := by
  refine Met.ofW (cc := cX4_roundedUp) (maxL := 5) (ret := (some .int)) (by decide) rfl ?_
  intro p e s m args below meth c s₁ B hml hv
  obtain ⟨rfl, ⟨hsz, hP, hK, hD0⟩, hO⟩ := hv
  have hx := B.exec
  have hb := B.bytes
  have hr := B.returns
  have hts := atoms_spec (ws := wsX4_roundedUp) B.pre
  have hown : s.vm.findClass RX4 = some m.cls := findClass_of_methodNamed B.named
  have hlocks := B.notSynchronized
  subst hsz
  have hD := hD0.self (sz := s.heap.size)
  generalize hAe : va_A [(q 5, .inr (3, [.double fac]))] s.heap.size = A at hD hO ⊢
  have hA : ∀ q : Nat, s.heap.size ≤ q → A q := fun q h => by rw [← hAe]; exact Or.inr h
  have ok := ok0
  refine startH (A := A) (fun H locs hP hS => ?_) hP
  have hi_X4 := (by decide +kernel : ∀ w ∈ wsX40, w ∈ wsX4_roundedUp)
  have f_7 := hts (.fieldLink RX4 7 "PageReader$Pixels" "factor" "D") (by decide +kernel)
  have hl := lv_entry ([.ref (q 5), .int x]) (n := 5) (Nat.le_of_ble_eq_true rfl)
  rw [lg_entry_eq]
  generalize (lg_sl ([.ref (q 5), .int x]) ++ List.replicate (5 - (lg_sl ([.ref (q 5), .int x])).length) Slot.unset).toArray = ls at hl ⊢
  have hl : lv_has ls 5 [(0, .ref (q 5)), (1, .int x)] := hl
  refine lv_aload_n hx hb dX4_roundedUp_0 rfl (lv_at hl 0 rfl) ?_
  refine va_get (D := G) (ci := 3) (v := .double fac) (C := RX4) (T := TX4) (N := 1) hx hb hts hi_X4 hown hK hP 0 rfl rfl 0 (by decide) f_7 (fun _ h9 => h9) rfl dX4_roundedUp_1 ?_
  refine lv_iload_n hx hb dX4_roundedUp_4 rfl (lv_at hl 1 rfl) ?_
  refine lv_i2d hx hb dX4_roundedUp_5 ?_
  refine lv_dmul hx hb dX4_roundedUp_6 (ne_mulI hf x) ?_
  refine lv_dstore_n (lv' := [(2, .double (FP.dmul fac (FP.i2d x))), (0, .ref (q 5)), (1, .int x)]) hx hb dX4_roundedUp_7 rfl hl (by decide) rfl (fun ls hl => ?_)
  refine lv_dload_n hx hb dX4_roundedUp_8 rfl (lv_at hl 0 rfl) ?_
  refine lv_d2i hx hb dX4_roundedUp_9 ?_
  refine lv_istore (lv' := [(4, .int (FP.d2i (FP.dmul fac (FP.i2d x)))), (2, .double (FP.dmul fac (FP.i2d x))), (0, .ref (q 5)), (1, .int x)]) hx hb dX4_roundedUp_10 hl (by decide) rfl (fun ls hl => ?_)
  refine lv_iload hx hb dX4_roundedUp_12 (lv_at hl 0 rfl) ?_
  refine lv_i2d hx hb dX4_roundedUp_14 ?_
  refine lv_dload_n hx hb dX4_roundedUp_15 rfl (lv_at hl 1 rfl) ?_
  refine lv_dcmp hx hb dX4_roundedUp_16 ?_
  refine lv_if_ge (tgt := 27) hx hb dX4_roundedUp_17 (by decide) (fun c_1 => ?_) (fun c_1 => ?_)
  · skip
    refine lv_iload hx hb dX4_roundedUp_27 (lv_at hl 0 rfl) ?_
    exact rI (v := FP.d2i (FP.dmul fac (FP.i2d x))) hx hb hr hlocks rfl hK hP hD hS [0] () rfl (by decide) trivial dX4_roundedUp_29
  · skip
    refine lv_iload hx hb dX4_roundedUp_20 (lv_at hl 0 rfl) ?_
    refine lv_iconst (v := nI 1) hx hb dX4_roundedUp_22 (by decide) ?_
    refine lv_iadd hx hb dX4_roundedUp_23 ?_
    refine lv_goto (tgt := 29) hx hb dX4_roundedUp_24 (by decide) ?_
    exact rI (v := (FP.d2i (FP.dmul fac (FP.i2d x))) + (nI 1)) hx hb hr hlocks rfl hK hP hD hS [0] () rfl (by decide) trivial dX4_roundedUp_29
set_option maxHeartbeats 4000000 in
set_option maxRecDepth 100000 in
theorem c_X1_clear (l : Launch) (G : va_G) (ci cz cl : ClassId) (q : Nat → Nat) (sz : Nat) (st : Nat → Int32) (mk : Nat → Int32) (sc : Nat → Int32) : CtV l yX1_clear wsX1_clear ({ frames := 0, cells := 0, slots := 0, locals := 0 }) G (TY ci cz cl) O0 [.ref (q 13)] [(q 13, .inr (1, [.ref (q 14), .ref (q 15), .ref (q 16)])), aI ci (q 14) 8 st, aI ci (q 15) 8 mk, aI ci (q 16) 8 sc] sz (fun (u : Nat → Int32) => Zr 8 u) (fun u : Nat → Int32 => [(q 13, .inr (1, [.ref (q 14), .ref (q 15), .ref (q 16)])), aI ci (q 14) 8 u, aI ci (q 15) 8 mk, aI ci (q 16) 8 sc]) 0 0 := by
  refine Met.ofW (cc := cX1_clear) (maxL := 2) (ret := none) (by decide) rfl ?_
  intro p e s m args below meth c s₁ B hml hv
  obtain ⟨rfl, ⟨hsz, hP, hK, hD0⟩, hO⟩ := hv
  have hx := B.exec
  have hb := B.bytes
  have hr := B.returns
  have hts := atoms_spec (ws := wsX1_clear) B.pre
  have hown : s.vm.findClass RX1 = some m.cls := findClass_of_methodNamed B.named
  have hlocks := B.notSynchronized
  subst hsz
  have hD := hD0.self (sz := s.heap.size)
  generalize hAe : va_A [(q 13, .inr (1, [.ref (q 14), .ref (q 15), .ref (q 16)])), aI ci (q 14) 8 st, aI ci (q 15) 8 mk, aI ci (q 16) 8 sc] s.heap.size = A at hD hO ⊢
  have hA : ∀ q : Nat, s.heap.size ≤ q → A q := fun q h => by rw [← hAe]; exact Or.inr h
  have ok := ok0
  refine startH (A := A) (fun H locs hP hS => ?_) hP
  have hi_X1 := (by decide +kernel : ∀ w ∈ wsX10, w ∈ wsX1_clear)
  have f_9 := hts (.fieldLink RX1 9 "PageReader$Fonts" "states" "[I") (by decide +kernel)
  have hl := lv_entry ([.ref (q 13)]) (n := 2) (Nat.le_of_ble_eq_true rfl)
  rw [lg_entry_eq]
  generalize (lg_sl ([.ref (q 13)]) ++ List.replicate (2 - (lg_sl ([.ref (q 13)])).length) Slot.unset).toArray = ls at hl ⊢
  have hl : lv_has ls 2 [(0, .ref (q 13))] := hl
  refine lv_iconst (v := nI 0) hx hb dX1_clear_0 (by decide) ?_
  refine lv_istore_n (lv' := [(1, .int (nI 0)), (0, .ref (q 13))]) hx hb dX1_clear_1 rfl hl (by decide) rfl (fun ls hl => ?_)
  have loop_2 : ∀ (fuel : Nat) (i : Nat) (st1 : Nat → Int32) (H : Heap) (locs : List Loc), 8 - i < fuel → (i ≤ 8) → (Zr i st1) → va_P G vwCl [(q 13, .inr (1, [.ref (q 14), .ref (q 15), .ref (q 16)])), aI ci (q 14) 8 st1, aI ci (q 15) 8 mk, aI ci (q 16) 8 sc] H → va_D A [(q 13, .inr (1, [.ref (q 14), .ref (q 15), .ref (q 16)])), aI ci (q 14) 8 st1, aI ci (q 15) 8 mk, aI ci (q 16) 8 sc] → va_S A s.heap H locs → ∀ ls : Array Slot, lv_has ls 2 [(0, .ref (q 13)), (1, .int (nI i))] → W p l e (headSpec wsX1_clear ({ frames := 0, cells := 0, slots := 0, locals := 0 })).room s m ([.ref (q 13)] : List Value).toArray below meth c H locs 0 0 (MQ below (va_Qv (fun (u : Nat → Int32) => Zr 8 u) (fun u t => PQ G (TY ci cz cl) A [(q 13, .inr (1, [.ref (q 14), .ref (q 15), .ref (q 16)])), aI ci (q 14) 8 u, aI ci (q 15) 8 mk, aI ci (q 16) 8 sc] t) A) ([.ref (q 13)] : List Value).toArray s 0 0 A) (F0 m 2 ls []) := by
    intro fuel
    induction fuel with
    | zero => intro i st1 H locs hf; exact absurd hf (by omega)
    | succ fuel ih =>
      intro i st1 H locs hf hi hz hP hD hS ls hl
      refine lv_iload_n hx hb dX1_clear_2 rfl (lv_at hl 1 rfl) ?_
      refine lv_bipush (v := nI 8) hx hb dX1_clear_3 (by decide) ?_
      refine lv_icmp_ge (tgt := 21) hx hb dX1_clear_5 (by decide) (fun c_1 => ?_) (fun c_1 => ?_)
      · skip
        have z_1 := (nI_leI (a := 8) (b := i) (by omega) (by omega)).mp c_1
        exact rV hx hb hr hlocks hK hP hD hS [0, 1, 2, 3] st1 rfl (by decide) (Zr_c hz (by (try dsimp only); omega)) dX1_clear_21
      · skip
        have z_1 := mt (nI_leI (a := 8) (b := i) (by omega) (by omega)).mpr c_1
        refine lv_aload_n hx hb dX1_clear_8 rfl (lv_at hl 0 rfl) ?_
        refine va_get (D := G) (ci := 1) (v := .ref (q 14)) (C := RX1) (T := TX1) (N := 3) hx hb hts hi_X1 hown hK hP 0 rfl rfl 0 (by decide) f_9 (fun _ h9 => h9) rfl dX1_clear_9 ?_
        refine lv_iload_n hx hb dX1_clear_12 rfl (lv_at hl 1 rfl) ?_
        refine lv_iconst (v := nI 0) hx hb dX1_clear_13 (by decide) ?_
        refine va_iast hx hb hK hP hD hS 1 0 rfl rfl (vp_in_nI (by omega) (by omega)) dX1_clear_14 (fun H locs hP hD hS => ?_)
        rw [nI_clamp (by omega)] at hP hD
        have hP : va_P G vwCl [(q 13, .inr (1, [.ref (q 14), .ref (q 15), .ref (q 16)])), aI ci (q 14) 8 (upd st1 i (nI 0)), aI ci (q 15) 8 mk, aI ci (q 16) 8 sc] H := hP
        have hD : va_D A [(q 13, .inr (1, [.ref (q 14), .ref (q 15), .ref (q 16)])), aI ci (q 14) 8 (upd st1 i (nI 0)), aI ci (q 15) 8 mk, aI ci (q 16) 8 sc] := hD
        refine lv_iinc (v := nI (i + 1)) (lv' := [(1, .int (nI (i + 1))), (0, .ref (q 13))]) hx hb dX1_clear_15 hl (k := 1) rfl (nI_add _ _) (by decide) rfl (fun ls hl => ?_)
        refine lv_goto (tgt := 2) hx hb dX1_clear_18 (by decide) ?_
        exact ih (i + 1) (upd st1 i (nI 0)) H locs (by omega) (by omega) (Zr_s hz) (hP.sub [0, 1, 2, 3] rfl) (hD.sub [0, 1, 2, 3] (by decide) rfl) hS ls (lv_sub hl [1, 0] rfl)
  exact loop_2 (8 - 0 + 1) 0 st H locs (Nat.lt_succ_self _) (by omega) Zr_0 (hP.sub [0, 1, 2, 3] rfl) (hD.sub [0, 1, 2, 3] (by decide) rfl) hS ls (lv_sub hl [1, 0] rfl)
set_option maxHeartbeats 4000000 in
set_option maxRecDepth 100000 in
theorem c_X1_knows (l : Launch) (G : va_G) (ci cz cl : ClassId) (q : Nat → Nat) (sz : Nat) (k : Nat) (st : Nat → Int32) (mk : Nat → Int32) (sc : Nat → Int32) (hk : k ≤ 7) : CtI l yX1_knows wsX1_knows ({ frames := 0, cells := 0, slots := 0, locals := 0 }) G (TY ci cz cl) O0 [.ref (q 13), .int (nI k)] [(q 13, .inr (1, [.ref (q 14), .ref (q 15), .ref (q 16)])), aI ci (q 14) 8 st, aI ci (q 15) 8 mk, aI ci (q 16) 8 sc] sz (fun (r : Int32) (u : Nat) => r = nI u ∧ ((u = 1 ∧ ¬ st k = nI 0) ∨ (u = 0 ∧ st k = nI 0))) (fun u : Nat => [(q 13, .inr (1, [.ref (q 14), .ref (q 15), .ref (q 16)])), aI ci (q 14) 8 st, aI ci (q 15) 8 mk, aI ci (q 16) 8 sc]) 0 0 := by
  refine Met.ofW (cc := cX1_knows) (maxL := 2) (ret := (some .boolean)) (by decide) rfl ?_
  intro p e s m args below meth c s₁ B hml hv
  obtain ⟨rfl, ⟨hsz, hP, hK, hD0⟩, hO⟩ := hv
  have hx := B.exec
  have hb := B.bytes
  have hr := B.returns
  have hts := atoms_spec (ws := wsX1_knows) B.pre
  have hown : s.vm.findClass RX1 = some m.cls := findClass_of_methodNamed B.named
  have hlocks := B.notSynchronized
  subst hsz
  have hD := hD0.self (sz := s.heap.size)
  generalize hAe : va_A [(q 13, .inr (1, [.ref (q 14), .ref (q 15), .ref (q 16)])), aI ci (q 14) 8 st, aI ci (q 15) 8 mk, aI ci (q 16) 8 sc] s.heap.size = A at hD hO ⊢
  have hA : ∀ q : Nat, s.heap.size ≤ q → A q := fun q h => by rw [← hAe]; exact Or.inr h
  have ok := ok0
  refine startH (A := A) (fun H locs hP hS => ?_) hP
  have hi_X1 := (by decide +kernel : ∀ w ∈ wsX10, w ∈ wsX1_knows)
  have f_9 := hts (.fieldLink RX1 9 "PageReader$Fonts" "states" "[I") (by decide +kernel)
  have hl := lv_entry ([.ref (q 13), .int (nI k)]) (n := 2) (Nat.le_of_ble_eq_true rfl)
  rw [lg_entry_eq]
  generalize (lg_sl ([.ref (q 13), .int (nI k)]) ++ List.replicate (2 - (lg_sl ([.ref (q 13), .int (nI k)])).length) Slot.unset).toArray = ls at hl ⊢
  have hl : lv_has ls 2 [(0, .ref (q 13)), (1, .int (nI k))] := hl
  refine lv_iload_n hx hb dX1_knows_0 rfl (lv_at hl 1 rfl) ?_
  refine lv_if_lt (tgt := 23) hx hb dX1_knows_1 (by decide) (fun c_1 => ?_) (fun c_1 => ?_)
  · skip
    have z_1 := (nI_ltI (a := k) (b := 0) (by omega) (by omega)).mp c_1
    exfalso; omega
  · skip
    have z_1 := mt (nI_ltI (a := k) (b := 0) (by omega) (by omega)).mpr c_1
    refine lv_iload_n hx hb dX1_knows_4 rfl (lv_at hl 1 rfl) ?_
    refine lv_bipush (v := nI 8) hx hb dX1_knows_5 (by decide) ?_
    refine lv_icmp_ge (tgt := 23) hx hb dX1_knows_7 (by decide) (fun c_2 => ?_) (fun c_2 => ?_)
    · skip
      have z_2 := (nI_leI (a := 8) (b := k) (by omega) (by omega)).mp c_2
      exfalso; omega
    · skip
      have z_2 := mt (nI_leI (a := 8) (b := k) (by omega) (by omega)).mpr c_2
      refine lv_aload_n hx hb dX1_knows_10 rfl (lv_at hl 0 rfl) ?_
      refine va_get (D := G) (ci := 1) (v := .ref (q 14)) (C := RX1) (T := TX1) (N := 3) hx hb hts hi_X1 hown hK hP 0 rfl rfl 0 (by decide) f_9 (fun _ h9 => h9) rfl dX1_knows_11 ?_
      refine lv_iload_n hx hb dX1_knows_14 rfl (lv_at hl 1 rfl) ?_
      refine va_iald hx hb hK hP 1 0 rfl rfl (vp_in_nI (by omega) (by omega)) dX1_knows_15 ?_
      refine tp (y := st k) (congrArg st (nI_clamp (by omega))) ?_
      refine lv_if_eq (tgt := 23) hx hb dX1_knows_16 (by decide) (fun c_3 => ?_) (fun c_3 => ?_)
      · skip
        refine lv_iconst (v := nI 0) hx hb dX1_knows_23 (by decide) ?_
        exact rI (v := nI 0) hx hb hr hlocks nb0 hK hP hD hS [0, 1, 2, 3] 0 rfl (by decide) ⟨rfl, Or.inr ⟨rfl, c_3⟩⟩ dX1_knows_24
      · skip
        refine lv_iconst (v := nI 1) hx hb dX1_knows_19 (by decide) ?_
        refine lv_goto (tgt := 24) hx hb dX1_knows_20 (by decide) ?_
        exact rI (v := nI 1) hx hb hr hlocks nb1 hK hP hD hS [0, 1, 2, 3] 1 rfl (by decide) ⟨rfl, Or.inl ⟨rfl, c_3⟩⟩ dX1_knows_24
set_option maxHeartbeats 4000000 in
set_option maxRecDepth 100000 in
theorem c_X1_scaleOf (l : Launch) (G : va_G) (ci cz cl : ClassId) (q : Nat → Nat) (sz : Nat) (k : Nat) (st : Nat → Int32) (mk : Nat → Int32) (sc : Nat → Int32) (hk : k ≤ 7) : CtI l yX1_scaleOf wsX1_scaleOf ({ frames := 1, cells := 0, slots := 0, locals := 21 }) G (TY ci cz cl) O0 [.ref (q 13), .int (nI k)] [(q 13, .inr (1, [.ref (q 14), .ref (q 15), .ref (q 16)])), aI ci (q 14) 8 st, aI ci (q 15) 8 mk, aI ci (q 16) 8 sc] sz (fun (r : Int32) (u : Unit) => True) (fun u : Unit => [(q 13, .inr (1, [.ref (q 14), .ref (q 15), .ref (q 16)])), aI ci (q 14) 8 st, aI ci (q 15) 8 mk, aI ci (q 16) 8 sc]) 0 0 := by
  refine Met.ofW (cc := cX1_scaleOf) (maxL := 2) (ret := (some .int)) (by decide) rfl ?_
  intro p e s m args below meth c s₁ B hml hv
  obtain ⟨rfl, ⟨hsz, hP, hK, hD0⟩, hO⟩ := hv
  have hx := B.exec
  have hb := B.bytes
  have hr := B.returns
  have hts := atoms_spec (ws := wsX1_scaleOf) B.pre
  have hown : s.vm.findClass RX1 = some m.cls := findClass_of_methodNamed B.named
  have hlocks := B.notSynchronized
  subst hsz
  have hD := hD0.self (sz := s.heap.size)
  generalize hAe : va_A [(q 13, .inr (1, [.ref (q 14), .ref (q 15), .ref (q 16)])), aI ci (q 14) 8 st, aI ci (q 15) 8 mk, aI ci (q 16) 8 sc] s.heap.size = A at hD hO ⊢
  have hA : ∀ q : Nat, s.heap.size ≤ q → A q := fun q h => by rw [← hAe]; exact Or.inr h
  have ok := ok0
  refine startH (A := A) (fun H locs hP hS => ?_) hP
  have hi_X1 := (by decide +kernel : ∀ w ∈ wsX10, w ∈ wsX1_scaleOf)
  have f_16 := hts (.fieldLink RX1 16 "PageReader$Fonts" "scales" "[I") (by decide +kernel)
  have hl := lv_entry ([.ref (q 13), .int (nI k)]) (n := 2) (Nat.le_of_ble_eq_true rfl)
  rw [lg_entry_eq]
  generalize (lg_sl ([.ref (q 13), .int (nI k)]) ++ List.replicate (2 - (lg_sl ([.ref (q 13), .int (nI k)])).length) Slot.unset).toArray = ls at hl ⊢
  have hl : lv_has ls 2 [(0, .ref (q 13)), (1, .int (nI k))] := hl
  refine lv_aload_n hx hb dX1_scaleOf_0 rfl (lv_at hl 0 rfl) ?_
  refine lv_iload_n hx hb dX1_scaleOf_1 rfl (lv_at hl 1 rfl) ?_
  refine jI (va_runV (As := [.int (nI k)]) (rest := []) ⟨hx, hb, hml, hown, hts⟩ (c_X1_knows l G ci cz cl q H.size k st mk sc (by omega)) (cwV 1 hts gX1_scaleOf_X1_knows rfl rfl rfl (by decide +kernel) ⟨(Nat.le_of_ble_eq_true rfl), (Nat.le_of_ble_eq_true rfl)⟩) (pV (wc := [(q 13, .inr (1, [.ref (q 14), .ref (q 15), .ref (q 16)])), aI ci (q 14) 8 st, aI ci (q 15) 8 mk, aI ci (q 16) 8 sc]) ok hK hP hD hS hA hO [0, 1, 2, 3] rfl (by decide) 0 rfl rfl) rfl rfl hl.1 rfl (lv_room (Nat.le_of_ble_eq_true rfl)) dX1_scaleOf_2 ⟨(Nat.le_of_ble_eq_true rfl), (Nat.le_of_ble_eq_true rfl)⟩) (wr := []) hP hD hS hA [0, 1, 2, 3] [] rfl rfl (by decide) (by decide) (fun r_1 u H locs hw_1 hP hD hS => ?_)
  obtain ⟨bo_1, rfl⟩ : ∃ z, z = u := ⟨_, rfl⟩
  try dsimp only at hw_1
  obtain ⟨rfl, h_1⟩ := hw_1
  rcases h_1 with ⟨rfl, a_1⟩ | ⟨rfl, a_1⟩
  · skip
    have hP : va_P G vwCl [(q 13, .inr (1, [.ref (q 14), .ref (q 15), .ref (q 16)])), aI ci (q 14) 8 st, aI ci (q 15) 8 mk, aI ci (q 16) 8 sc] H := hP
    have hD : va_D A [(q 13, .inr (1, [.ref (q 14), .ref (q 15), .ref (q 16)])), aI ci (q 14) 8 st, aI ci (q 15) 8 mk, aI ci (q 16) 8 sc] := hD
    refine lv_if_eq (tgt := 17) hx hb dX1_scaleOf_5 (by decide) (fun c => absurd c (by decide)) (fun _ => ?_)
    refine lv_aload_n hx hb dX1_scaleOf_8 rfl (lv_at hl 0 rfl) ?_
    refine va_get (D := G) (ci := 1) (v := .ref (q 16)) (C := RX1) (T := TX1) (N := 3) hx hb hts hi_X1 hown hK hP 0 rfl rfl 2 (by decide) f_16 (fun _ h9 => h9) rfl dX1_scaleOf_9 ?_
    refine lv_iload_n hx hb dX1_scaleOf_12 rfl (lv_at hl 1 rfl) ?_
    refine va_iald hx hb hK hP 3 0 rfl rfl (vp_in_nI (by omega) (by omega)) dX1_scaleOf_13 ?_
    refine tp (y := sc k) (congrArg sc (nI_clamp (by omega))) ?_
    refine lv_goto (tgt := 18) hx hb dX1_scaleOf_14 (by decide) ?_
    exact rI (v := sc k) hx hb hr hlocks rfl hK hP hD hS [0, 1, 2, 3] () rfl (by decide) trivial dX1_scaleOf_18
  · skip
    have hP : va_P G vwCl [(q 13, .inr (1, [.ref (q 14), .ref (q 15), .ref (q 16)])), aI ci (q 14) 8 st, aI ci (q 15) 8 mk, aI ci (q 16) 8 sc] H := hP
    have hD : va_D A [(q 13, .inr (1, [.ref (q 14), .ref (q 15), .ref (q 16)])), aI ci (q 14) 8 st, aI ci (q 15) 8 mk, aI ci (q 16) 8 sc] := hD
    refine lv_if_eq (tgt := 17) hx hb dX1_scaleOf_5 (by decide) (fun _ => ?_) (fun c => absurd c (by decide))
    refine lv_iconst (v := nI 0) hx hb dX1_scaleOf_17 (by decide) ?_
    exact rI (v := nI 0) hx hb hr hlocks rfl hK hP hD hS [0, 1, 2, 3] () rfl (by decide) trivial dX1_scaleOf_18
set_option maxHeartbeats 4000000 in
set_option maxRecDepth 100000 in
theorem c_X1_defineAhead (l : Launch) (G : va_G) (ci cz cl : ClassId) (q : Nat → Nat) (sz : Nat) (k : Nat) (a1 : Nat) (a2 : Nat) (st : Nat → Int32) (mk : Nat → Int32) (sc : Nat → Int32) (hk : k ≤ 255 ∧ a1 ≤ 16777215 ∧ a2 ≤ 16777215) : CtI l yX1_defineAhead wsX1_defineAhead ({ frames := 0, cells := 0, slots := 0, locals := 0 }) G (TY ci cz cl) O0 [.ref (q 13), .int (nI k), .int (nI a1), .int (nI a2)] [(q 13, .inr (1, [.ref (q 14), .ref (q 15), .ref (q 16)])), aI ci (q 14) 8 st, aI ci (q 15) 8 mk, aI ci (q 16) 8 sc] sz (fun (r : Int32) (u : Nat × (Nat → Int32) × (Nat → Int32) × (Nat → Int32)) => r = nI u.1 ∧ u.1 ≤ 1 ∧ QAhead k a1 a2 st mk sc u.1 u.2.1 u.2.2.1 u.2.2.2) (fun u : Nat × (Nat → Int32) × (Nat → Int32) × (Nat → Int32) => [(q 13, .inr (1, [.ref (q 14), .ref (q 15), .ref (q 16)])), aI ci (q 14) 8 u.2.1, aI ci (q 15) 8 u.2.2.1, aI ci (q 16) 8 u.2.2.2]) 0 0 := by
  refine Met.ofW (cc := cX1_defineAhead) (maxL := 4) (ret := (some .boolean)) (by decide) rfl ?_
  intro p e s m args below meth c s₁ B hml hv
  obtain ⟨rfl, ⟨hsz, hP, hK, hD0⟩, hO⟩ := hv
  have hx := B.exec
  have hb := B.bytes
  have hr := B.returns
  have hts := atoms_spec (ws := wsX1_defineAhead) B.pre
  have hown : s.vm.findClass RX1 = some m.cls := findClass_of_methodNamed B.named
  have hlocks := B.notSynchronized
  subst hsz
  have hD := hD0.self (sz := s.heap.size)
  generalize hAe : va_A [(q 13, .inr (1, [.ref (q 14), .ref (q 15), .ref (q 16)])), aI ci (q 14) 8 st, aI ci (q 15) 8 mk, aI ci (q 16) 8 sc] s.heap.size = A at hD hO ⊢
  have hA : ∀ q : Nat, s.heap.size ≤ q → A q := fun q h => by rw [← hAe]; exact Or.inr h
  have ok := ok0
  refine startH (A := A) (fun H locs hP hS => ?_) hP
  have hi_X1 := (by decide +kernel : ∀ w ∈ wsX10, w ∈ wsX1_defineAhead)
  have f_9 := hts (.fieldLink RX1 9 "PageReader$Fonts" "states" "[I") (by decide +kernel)
  have f_13 := hts (.fieldLink RX1 13 "PageReader$Fonts" "marks" "[I") (by decide +kernel)
  have f_16 := hts (.fieldLink RX1 16 "PageReader$Fonts" "scales" "[I") (by decide +kernel)
  have hl := lv_entry ([.ref (q 13), .int (nI k), .int (nI a1), .int (nI a2)]) (n := 4) (Nat.le_of_ble_eq_true rfl)
  rw [lg_entry_eq]
  generalize (lg_sl ([.ref (q 13), .int (nI k), .int (nI a1), .int (nI a2)]) ++ List.replicate (4 - (lg_sl ([.ref (q 13), .int (nI k), .int (nI a1), .int (nI a2)])).length) Slot.unset).toArray = ls at hl ⊢
  have hl : lv_has ls 4 [(0, .ref (q 13)), (1, .int (nI k)), (2, .int (nI a1)), (3, .int (nI a2))] := hl
  refine lv_iload_n hx hb dX1_defineAhead_0 rfl (lv_at hl 1 rfl) ?_
  refine lv_if_lt (tgt := 19) hx hb dX1_defineAhead_1 (by decide) (fun c_1 => ?_) (fun c_1 => ?_)
  · skip
    have z_1 := (nI_ltI (a := k) (b := 0) (by omega) (by omega)).mp c_1
    exfalso; omega
  · skip
    have z_1 := mt (nI_ltI (a := k) (b := 0) (by omega) (by omega)).mpr c_1
    refine lv_iload_n hx hb dX1_defineAhead_4 rfl (lv_at hl 1 rfl) ?_
    refine lv_bipush (v := nI 8) hx hb dX1_defineAhead_5 (by decide) ?_
    refine lv_icmp_ge (tgt := 19) hx hb dX1_defineAhead_7 (by decide) (fun c_2 => ?_) (fun c_2 => ?_)
    · skip
      have z_2 := (nI_leI (a := 8) (b := k) (by omega) (by omega)).mp c_2
      refine lv_iconst (v := nI 0) hx hb dX1_defineAhead_19 (by decide) ?_
      exact rI (v := nI 0) hx hb hr hlocks nb0 hK hP hD hS [0, 1, 2, 3] (0, st, mk, sc) rfl (by decide) ⟨rfl, by (try dsimp only); omega, by first | exact Or.inr ⟨rfl, Or.inl (by (try dsimp only); omega)⟩ | exact Or.inr ⟨rfl, Or.inr c_3⟩⟩ dX1_defineAhead_20
    · skip
      have z_2 := mt (nI_leI (a := 8) (b := k) (by omega) (by omega)).mpr c_2
      refine lv_aload_n hx hb dX1_defineAhead_10 rfl (lv_at hl 0 rfl) ?_
      refine va_get (D := G) (ci := 1) (v := .ref (q 14)) (C := RX1) (T := TX1) (N := 3) hx hb hts hi_X1 hown hK hP 0 rfl rfl 0 (by decide) f_9 (fun _ h9 => h9) rfl dX1_defineAhead_11 ?_
      refine lv_iload_n hx hb dX1_defineAhead_14 rfl (lv_at hl 1 rfl) ?_
      refine va_iald hx hb hK hP 1 0 rfl rfl (vp_in_nI (by omega) (by omega)) dX1_defineAhead_15 ?_
      refine tp (y := st k) (congrArg st (nI_clamp (by omega))) ?_
      refine lv_if_eq (tgt := 21) hx hb dX1_defineAhead_16 (by decide) (fun c_3 => ?_) (fun c_3 => ?_)
      · skip
        refine lv_aload_n hx hb dX1_defineAhead_21 rfl (lv_at hl 0 rfl) ?_
        refine va_get (D := G) (ci := 1) (v := .ref (q 14)) (C := RX1) (T := TX1) (N := 3) hx hb hts hi_X1 hown hK hP 0 rfl rfl 0 (by decide) f_9 (fun _ h9 => h9) rfl dX1_defineAhead_22 ?_
        refine lv_iload_n hx hb dX1_defineAhead_25 rfl (lv_at hl 1 rfl) ?_
        refine lv_iconst (v := nI 1) hx hb dX1_defineAhead_26 (by decide) ?_
        refine va_iast hx hb hK hP hD hS 1 0 rfl rfl (vp_in_nI (by omega) (by omega)) dX1_defineAhead_27 (fun H locs hP hD hS => ?_)
        rw [nI_clamp (by omega)] at hP hD
        have hP : va_P G vwCl [(q 13, .inr (1, [.ref (q 14), .ref (q 15), .ref (q 16)])), aI ci (q 14) 8 (upd st k (nI 1)), aI ci (q 15) 8 mk, aI ci (q 16) 8 sc] H := hP
        have hD : va_D A [(q 13, .inr (1, [.ref (q 14), .ref (q 15), .ref (q 16)])), aI ci (q 14) 8 (upd st k (nI 1)), aI ci (q 15) 8 mk, aI ci (q 16) 8 sc] := hD
        refine lv_aload_n hx hb dX1_defineAhead_28 rfl (lv_at hl 0 rfl) ?_
        refine va_get (D := G) (ci := 1) (v := .ref (q 15)) (C := RX1) (T := TX1) (N := 3) hx hb hts hi_X1 hown hK hP 0 rfl rfl 1 (by decide) f_13 (fun _ h9 => h9) rfl dX1_defineAhead_29 ?_
        refine lv_iload_n hx hb dX1_defineAhead_32 rfl (lv_at hl 1 rfl) ?_
        refine lv_iload_n hx hb dX1_defineAhead_33 rfl (lv_at hl 2 rfl) ?_
        refine va_iast hx hb hK hP hD hS 2 0 rfl rfl (vp_in_nI (by omega) (by omega)) dX1_defineAhead_34 (fun H locs hP hD hS => ?_)
        rw [nI_clamp (by omega)] at hP hD
        have hP : va_P G vwCl [(q 13, .inr (1, [.ref (q 14), .ref (q 15), .ref (q 16)])), aI ci (q 14) 8 (upd st k (nI 1)), aI ci (q 15) 8 (upd mk k (nI a1)), aI ci (q 16) 8 sc] H := hP
        have hD : va_D A [(q 13, .inr (1, [.ref (q 14), .ref (q 15), .ref (q 16)])), aI ci (q 14) 8 (upd st k (nI 1)), aI ci (q 15) 8 (upd mk k (nI a1)), aI ci (q 16) 8 sc] := hD
        refine lv_aload_n hx hb dX1_defineAhead_35 rfl (lv_at hl 0 rfl) ?_
        refine va_get (D := G) (ci := 1) (v := .ref (q 16)) (C := RX1) (T := TX1) (N := 3) hx hb hts hi_X1 hown hK hP 0 rfl rfl 2 (by decide) f_16 (fun _ h9 => h9) rfl dX1_defineAhead_36 ?_
        refine lv_iload_n hx hb dX1_defineAhead_39 rfl (lv_at hl 1 rfl) ?_
        refine lv_iload_n hx hb dX1_defineAhead_40 rfl (lv_at hl 3 rfl) ?_
        refine va_iast hx hb hK hP hD hS 3 0 rfl rfl (vp_in_nI (by omega) (by omega)) dX1_defineAhead_41 (fun H locs hP hD hS => ?_)
        rw [nI_clamp (by omega)] at hP hD
        have hP : va_P G vwCl [(q 13, .inr (1, [.ref (q 14), .ref (q 15), .ref (q 16)])), aI ci (q 14) 8 (upd st k (nI 1)), aI ci (q 15) 8 (upd mk k (nI a1)), aI ci (q 16) 8 (upd sc k (nI a2))] H := hP
        have hD : va_D A [(q 13, .inr (1, [.ref (q 14), .ref (q 15), .ref (q 16)])), aI ci (q 14) 8 (upd st k (nI 1)), aI ci (q 15) 8 (upd mk k (nI a1)), aI ci (q 16) 8 (upd sc k (nI a2))] := hD
        refine lv_iconst (v := nI 1) hx hb dX1_defineAhead_42 (by decide) ?_
        exact rI (v := nI 1) hx hb hr hlocks nb1 hK hP hD hS [0, 1, 2, 3] (1, upd st k (nI 1), upd mk k (nI a1), upd sc k (nI a2)) rfl (by decide) ⟨rfl, by (try dsimp only); omega, Or.inl ⟨rfl, by (try dsimp only); omega, c_3, rfl, rfl, rfl⟩⟩ dX1_defineAhead_43
      · skip
        refine lv_iconst (v := nI 0) hx hb dX1_defineAhead_19 (by decide) ?_
        exact rI (v := nI 0) hx hb hr hlocks nb0 hK hP hD hS [0, 1, 2, 3] (0, st, mk, sc) rfl (by decide) ⟨rfl, by (try dsimp only); omega, by first | exact Or.inr ⟨rfl, Or.inl (by (try dsimp only); omega)⟩ | exact Or.inr ⟨rfl, Or.inr c_3⟩⟩ dX1_defineAhead_20
set_option maxHeartbeats 4000000 in
set_option maxRecDepth 100000 in
theorem c_X1_defineBehind (l : Launch) (G : va_G) (ci cz cl : ClassId) (q : Nat → Nat) (sz : Nat) (k : Nat) (a1 : Nat) (a2 : Nat) (st : Nat → Int32) (mk : Nat → Int32) (sc : Nat → Int32) (hk : k ≤ 255 ∧ a1 ≤ 16777215 ∧ a2 ≤ 16777215) : CtI l yX1_defineBehind wsX1_defineBehind ({ frames := 0, cells := 0, slots := 0, locals := 0 }) G (TY ci cz cl) O0 [.ref (q 13), .int (nI k), .int (nI a1), .int (nI a2)] [(q 13, .inr (1, [.ref (q 14), .ref (q 15), .ref (q 16)])), aI ci (q 14) 8 st, aI ci (q 15) 8 mk, aI ci (q 16) 8 sc] sz (fun (r : Int32) (u : Nat × (Nat → Int32)) => r = nI u.1 ∧ u.1 ≤ 1 ∧ QBehind k a1 a2 st mk sc u.1 u.2) (fun u : Nat × (Nat → Int32) => [(q 13, .inr (1, [.ref (q 14), .ref (q 15), .ref (q 16)])), aI ci (q 14) 8 u.2, aI ci (q 15) 8 mk, aI ci (q 16) 8 sc]) 0 0 := by
  refine Met.ofW (cc := cX1_defineBehind) (maxL := 4) (ret := (some .boolean)) (by decide) rfl ?_
  intro p e s m args below meth c s₁ B hml hv
  obtain ⟨rfl, ⟨hsz, hP, hK, hD0⟩, hO⟩ := hv
  have hx := B.exec
  have hb := B.bytes
  have hr := B.returns
  have hts := atoms_spec (ws := wsX1_defineBehind) B.pre
  have hown : s.vm.findClass RX1 = some m.cls := findClass_of_methodNamed B.named
  have hlocks := B.notSynchronized
  subst hsz
  have hD := hD0.self (sz := s.heap.size)
  generalize hAe : va_A [(q 13, .inr (1, [.ref (q 14), .ref (q 15), .ref (q 16)])), aI ci (q 14) 8 st, aI ci (q 15) 8 mk, aI ci (q 16) 8 sc] s.heap.size = A at hD hO ⊢
  have hA : ∀ q : Nat, s.heap.size ≤ q → A q := fun q h => by rw [← hAe]; exact Or.inr h
  have ok := ok0
  refine startH (A := A) (fun H locs hP hS => ?_) hP
  have hi_X1 := (by decide +kernel : ∀ w ∈ wsX10, w ∈ wsX1_defineBehind)
  have f_9 := hts (.fieldLink RX1 9 "PageReader$Fonts" "states" "[I") (by decide +kernel)
  have f_13 := hts (.fieldLink RX1 13 "PageReader$Fonts" "marks" "[I") (by decide +kernel)
  have f_16 := hts (.fieldLink RX1 16 "PageReader$Fonts" "scales" "[I") (by decide +kernel)
  have hl := lv_entry ([.ref (q 13), .int (nI k), .int (nI a1), .int (nI a2)]) (n := 4) (Nat.le_of_ble_eq_true rfl)
  rw [lg_entry_eq]
  generalize (lg_sl ([.ref (q 13), .int (nI k), .int (nI a1), .int (nI a2)]) ++ List.replicate (4 - (lg_sl ([.ref (q 13), .int (nI k), .int (nI a1), .int (nI a2)])).length) Slot.unset).toArray = ls at hl ⊢
  have hl : lv_has ls 4 [(0, .ref (q 13)), (1, .int (nI k)), (2, .int (nI a1)), (3, .int (nI a2))] := hl
  refine lv_iload_n hx hb dX1_defineBehind_0 rfl (lv_at hl 1 rfl) ?_
  refine lv_if_lt (tgt := 20) hx hb dX1_defineBehind_1 (by decide) (fun c_1 => ?_) (fun c_1 => ?_)
  · skip
    have z_1 := (nI_ltI (a := k) (b := 0) (by omega) (by omega)).mp c_1
    exfalso; omega
  · skip
    have z_1 := mt (nI_ltI (a := k) (b := 0) (by omega) (by omega)).mpr c_1
    refine lv_iload_n hx hb dX1_defineBehind_4 rfl (lv_at hl 1 rfl) ?_
    refine lv_bipush (v := nI 8) hx hb dX1_defineBehind_5 (by decide) ?_
    refine lv_icmp_ge (tgt := 20) hx hb dX1_defineBehind_7 (by decide) (fun c_2 => ?_) (fun c_2 => ?_)
    · skip
      have z_2 := (nI_leI (a := 8) (b := k) (by omega) (by omega)).mp c_2
      refine lv_iconst (v := nI 0) hx hb dX1_defineBehind_20 (by decide) ?_
      exact rI (v := nI 0) hx hb hr hlocks nb0 hK hP hD hS [0, 1, 2, 3] (0, st) rfl (by decide) ⟨rfl, by (try dsimp only); omega, by first | exact Or.inr ⟨rfl, Or.inl (by (try dsimp only); omega)⟩ | exact Or.inr ⟨rfl, Or.inr (Or.inl c_3)⟩⟩ dX1_defineBehind_21
    · skip
      have z_2 := mt (nI_leI (a := 8) (b := k) (by omega) (by omega)).mpr c_2
      refine lv_aload_n hx hb dX1_defineBehind_10 rfl (lv_at hl 0 rfl) ?_
      refine va_get (D := G) (ci := 1) (v := .ref (q 14)) (C := RX1) (T := TX1) (N := 3) hx hb hts hi_X1 hown hK hP 0 rfl rfl 0 (by decide) f_9 (fun _ h9 => h9) rfl dX1_defineBehind_11 ?_
      refine lv_iload_n hx hb dX1_defineBehind_14 rfl (lv_at hl 1 rfl) ?_
      refine va_iald hx hb hK hP 1 0 rfl rfl (vp_in_nI (by omega) (by omega)) dX1_defineBehind_15 ?_
      refine tp (y := st k) (congrArg st (nI_clamp (by omega))) ?_
      refine lv_iconst (v := nI 1) hx hb dX1_defineBehind_16 (by decide) ?_
      refine lv_icmp_eq (tgt := 22) hx hb dX1_defineBehind_17 (by decide) (fun c_3 => ?_) (fun c_3 => ?_)
      · skip
        refine lv_aload_n hx hb dX1_defineBehind_22 rfl (lv_at hl 0 rfl) ?_
        refine va_get (D := G) (ci := 1) (v := .ref (q 15)) (C := RX1) (T := TX1) (N := 3) hx hb hts hi_X1 hown hK hP 0 rfl rfl 1 (by decide) f_13 (fun _ h9 => h9) rfl dX1_defineBehind_23 ?_
        refine lv_iload_n hx hb dX1_defineBehind_26 rfl (lv_at hl 1 rfl) ?_
        refine va_iald hx hb hK hP 2 0 rfl rfl (vp_in_nI (by omega) (by omega)) dX1_defineBehind_27 ?_
        refine tp (y := mk k) (congrArg mk (nI_clamp (by omega))) ?_
        refine lv_iload_n hx hb dX1_defineBehind_28 rfl (lv_at hl 2 rfl) ?_
        refine lv_icmp_ne (tgt := 42) hx hb dX1_defineBehind_29 (by decide) (fun c_4 => ?_) (fun c_4 => ?_)
        · skip
          refine lv_iconst (v := nI 0) hx hb dX1_defineBehind_42 (by decide) ?_
          exact rI (v := nI 0) hx hb hr hlocks nb0 hK hP hD hS [0, 1, 2, 3] (0, st) rfl (by decide) ⟨rfl, by (try dsimp only); omega, by first | exact Or.inr ⟨rfl, Or.inr (Or.inr (Or.inl c_4))⟩ | exact Or.inr ⟨rfl, Or.inr (Or.inr (Or.inr c_5))⟩⟩ dX1_defineBehind_43
        · skip
          refine lv_aload_n hx hb dX1_defineBehind_32 rfl (lv_at hl 0 rfl) ?_
          refine va_get (D := G) (ci := 1) (v := .ref (q 16)) (C := RX1) (T := TX1) (N := 3) hx hb hts hi_X1 hown hK hP 0 rfl rfl 2 (by decide) f_16 (fun _ h9 => h9) rfl dX1_defineBehind_33 ?_
          refine lv_iload_n hx hb dX1_defineBehind_36 rfl (lv_at hl 1 rfl) ?_
          refine va_iald hx hb hK hP 3 0 rfl rfl (vp_in_nI (by omega) (by omega)) dX1_defineBehind_37 ?_
          refine tp (y := sc k) (congrArg sc (nI_clamp (by omega))) ?_
          refine lv_iload_n hx hb dX1_defineBehind_38 rfl (lv_at hl 3 rfl) ?_
          refine lv_icmp_eq (tgt := 44) hx hb dX1_defineBehind_39 (by decide) (fun c_5 => ?_) (fun c_5 => ?_)
          · skip
            refine lv_aload_n hx hb dX1_defineBehind_44 rfl (lv_at hl 0 rfl) ?_
            refine va_get (D := G) (ci := 1) (v := .ref (q 14)) (C := RX1) (T := TX1) (N := 3) hx hb hts hi_X1 hown hK hP 0 rfl rfl 0 (by decide) f_9 (fun _ h9 => h9) rfl dX1_defineBehind_45 ?_
            refine lv_iload_n hx hb dX1_defineBehind_48 rfl (lv_at hl 1 rfl) ?_
            refine lv_iconst (v := nI 2) hx hb dX1_defineBehind_49 (by decide) ?_
            refine va_iast hx hb hK hP hD hS 1 0 rfl rfl (vp_in_nI (by omega) (by omega)) dX1_defineBehind_50 (fun H locs hP hD hS => ?_)
            rw [nI_clamp (by omega)] at hP hD
            have hP : va_P G vwCl [(q 13, .inr (1, [.ref (q 14), .ref (q 15), .ref (q 16)])), aI ci (q 14) 8 (upd st k (nI 2)), aI ci (q 15) 8 mk, aI ci (q 16) 8 sc] H := hP
            have hD : va_D A [(q 13, .inr (1, [.ref (q 14), .ref (q 15), .ref (q 16)])), aI ci (q 14) 8 (upd st k (nI 2)), aI ci (q 15) 8 mk, aI ci (q 16) 8 sc] := hD
            refine lv_iconst (v := nI 1) hx hb dX1_defineBehind_51 (by decide) ?_
            exact rI (v := nI 1) hx hb hr hlocks nb1 hK hP hD hS [0, 1, 2, 3] (1, upd st k (nI 2)) rfl (by decide) ⟨rfl, by (try dsimp only); omega, Or.inl ⟨rfl, by (try dsimp only); omega, c_3, c_4, c_5, rfl⟩⟩ dX1_defineBehind_52
          · skip
            refine lv_iconst (v := nI 0) hx hb dX1_defineBehind_42 (by decide) ?_
            exact rI (v := nI 0) hx hb hr hlocks nb0 hK hP hD hS [0, 1, 2, 3] (0, st) rfl (by decide) ⟨rfl, by (try dsimp only); omega, by first | exact Or.inr ⟨rfl, Or.inr (Or.inr (Or.inl c_4))⟩ | exact Or.inr ⟨rfl, Or.inr (Or.inr (Or.inr c_5))⟩⟩ dX1_defineBehind_43
      · skip
        refine lv_iconst (v := nI 0) hx hb dX1_defineBehind_20 (by decide) ?_
        exact rI (v := nI 0) hx hb hr hlocks nb0 hK hP hD hS [0, 1, 2, 3] (0, st) rfl (by decide) ⟨rfl, by (try dsimp only); omega, by first | exact Or.inr ⟨rfl, Or.inl (by (try dsimp only); omega)⟩ | exact Or.inr ⟨rfl, Or.inr (Or.inl c_3)⟩⟩ dX1_defineBehind_21
set_option maxHeartbeats 4000000 in
set_option maxRecDepth 100000 in
theorem c_X1_allAreBehind (l : Launch) (G : va_G) (ci cz cl : ClassId) (q : Nat → Nat) (sz : Nat) (st : Nat → Int32) (mk : Nat → Int32) (sc : Nat → Int32) : CtI l yX1_allAreBehind wsX1_allAreBehind ({ frames := 0, cells := 0, slots := 0, locals := 0 }) G (TY ci cz cl) O0 [.ref (q 13)] [(q 13, .inr (1, [.ref (q 14), .ref (q 15), .ref (q 16)])), aI ci (q 14) 8 st, aI ci (q 15) 8 mk, aI ci (q 16) 8 sc] sz (fun (r : Int32) (u : Nat) => r = nI u ∧ ((u = 1 ∧ QAll st) ∨ (u = 0 ∧ ¬ QAll st))) (fun u : Nat => [(q 13, .inr (1, [.ref (q 14), .ref (q 15), .ref (q 16)])), aI ci (q 14) 8 st, aI ci (q 15) 8 mk, aI ci (q 16) 8 sc]) 0 0 := by
  refine Met.ofW (cc := cX1_allAreBehind) (maxL := 2) (ret := (some .boolean)) (by decide) rfl ?_
  intro p e s m args below meth c s₁ B hml hv
  obtain ⟨rfl, ⟨hsz, hP, hK, hD0⟩, hO⟩ := hv
  have hx := B.exec
  have hb := B.bytes
  have hr := B.returns
  have hts := atoms_spec (ws := wsX1_allAreBehind) B.pre
  have hown : s.vm.findClass RX1 = some m.cls := findClass_of_methodNamed B.named
  have hlocks := B.notSynchronized
  subst hsz
  have hD := hD0.self (sz := s.heap.size)
  generalize hAe : va_A [(q 13, .inr (1, [.ref (q 14), .ref (q 15), .ref (q 16)])), aI ci (q 14) 8 st, aI ci (q 15) 8 mk, aI ci (q 16) 8 sc] s.heap.size = A at hD hO ⊢
  have hA : ∀ q : Nat, s.heap.size ≤ q → A q := fun q h => by rw [← hAe]; exact Or.inr h
  have ok := ok0
  refine startH (A := A) (fun H locs hP hS => ?_) hP
  have hi_X1 := (by decide +kernel : ∀ w ∈ wsX10, w ∈ wsX1_allAreBehind)
  have f_9 := hts (.fieldLink RX1 9 "PageReader$Fonts" "states" "[I") (by decide +kernel)
  have hl := lv_entry ([.ref (q 13)]) (n := 2) (Nat.le_of_ble_eq_true rfl)
  rw [lg_entry_eq]
  generalize (lg_sl ([.ref (q 13)]) ++ List.replicate (2 - (lg_sl ([.ref (q 13)])).length) Slot.unset).toArray = ls at hl ⊢
  have hl : lv_has ls 2 [(0, .ref (q 13))] := hl
  refine lv_iconst (v := nI 0) hx hb dX1_allAreBehind_0 (by decide) ?_
  refine lv_istore_n (lv' := [(1, .int (nI 0)), (0, .ref (q 13))]) hx hb dX1_allAreBehind_1 rfl hl (by decide) rfl (fun ls hl => ?_)
  have loop_2 : ∀ (fuel : Nat) (i : Nat) (H : Heap) (locs : List Loc), 8 - i < fuel → (i ≤ 8) → (QAl st i) → va_P G vwCl [(q 13, .inr (1, [.ref (q 14), .ref (q 15), .ref (q 16)])), aI ci (q 14) 8 st, aI ci (q 15) 8 mk, aI ci (q 16) 8 sc] H → va_D A [(q 13, .inr (1, [.ref (q 14), .ref (q 15), .ref (q 16)])), aI ci (q 14) 8 st, aI ci (q 15) 8 mk, aI ci (q 16) 8 sc] → va_S A s.heap H locs → ∀ ls : Array Slot, lv_has ls 2 [(0, .ref (q 13)), (1, .int (nI i))] → W p l e (headSpec wsX1_allAreBehind ({ frames := 0, cells := 0, slots := 0, locals := 0 })).room s m ([.ref (q 13)] : List Value).toArray below meth c H locs 0 0 (MQ below (va_Qi (fun (r : Int32) (u : Nat) => r = nI u ∧ ((u = 1 ∧ QAll st) ∨ (u = 0 ∧ ¬ QAll st))) (fun u t => PQ G (TY ci cz cl) A [(q 13, .inr (1, [.ref (q 14), .ref (q 15), .ref (q 16)])), aI ci (q 14) 8 st, aI ci (q 15) 8 mk, aI ci (q 16) 8 sc] t) A) ([.ref (q 13)] : List Value).toArray s 0 0 A) (F0 m 2 ls []) := by
    intro fuel
    induction fuel with
    | zero => intro i H locs hf; exact absurd hf (by omega)
    | succ fuel ih =>
      intro i H locs hf hi hq hP hD hS ls hl
      refine lv_iload_n hx hb dX1_allAreBehind_2 rfl (lv_at hl 1 rfl) ?_
      refine lv_bipush (v := nI 8) hx hb dX1_allAreBehind_3 (by decide) ?_
      refine lv_icmp_ge (tgt := 26) hx hb dX1_allAreBehind_5 (by decide) (fun c_1 => ?_) (fun c_1 => ?_)
      · skip
        have z_1 := (nI_leI (a := 8) (b := i) (by omega) (by omega)).mp c_1
        refine lv_iconst (v := nI 1) hx hb dX1_allAreBehind_26 (by decide) ?_
        exact rI (v := nI 1) hx hb hr hlocks nb1 hK hP hD hS [0, 1, 2, 3] 1 rfl (by decide) ⟨rfl, Or.inl ⟨rfl, QAl_c hq (by (try dsimp only); omega)⟩⟩ dX1_allAreBehind_27
      · skip
        have z_1 := mt (nI_leI (a := 8) (b := i) (by omega) (by omega)).mpr c_1
        refine lv_aload_n hx hb dX1_allAreBehind_8 rfl (lv_at hl 0 rfl) ?_
        refine va_get (D := G) (ci := 1) (v := .ref (q 14)) (C := RX1) (T := TX1) (N := 3) hx hb hts hi_X1 hown hK hP 0 rfl rfl 0 (by decide) f_9 (fun _ h9 => h9) rfl dX1_allAreBehind_9 ?_
        refine lv_iload_n hx hb dX1_allAreBehind_12 rfl (lv_at hl 1 rfl) ?_
        refine va_iald hx hb hK hP 1 0 rfl rfl (vp_in_nI (by omega) (by omega)) dX1_allAreBehind_13 ?_
        refine tp (y := st i) (congrArg st (nI_clamp (by omega))) ?_
        refine lv_iconst (v := nI 1) hx hb dX1_allAreBehind_14 (by decide) ?_
        refine lv_icmp_ne (tgt := 20) hx hb dX1_allAreBehind_15 (by decide) (fun c_2 => ?_) (fun c_2 => ?_)
        · skip
          refine lv_iinc (v := nI (i + 1)) (lv' := [(1, .int (nI (i + 1))), (0, .ref (q 13))]) hx hb dX1_allAreBehind_20 hl (k := 1) rfl (nI_add _ _) (by decide) rfl (fun ls hl => ?_)
          refine lv_goto (tgt := 2) hx hb dX1_allAreBehind_23 (by decide) ?_
          exact ih (i + 1) H locs (by omega) (by omega) (QAl_s hq c_2) (hP.sub [0, 1, 2, 3] rfl) (hD.sub [0, 1, 2, 3] (by decide) rfl) hS ls (lv_sub hl [1, 0] rfl)
        · skip
          refine lv_iconst (v := nI 0) hx hb dX1_allAreBehind_18 (by decide) ?_
          exact rI (v := nI 0) hx hb hr hlocks nb0 hK hP hD hS [0, 1, 2, 3] 0 rfl (by decide) ⟨rfl, Or.inr ⟨rfl, QAl_n (i := i) (by (try dsimp only); omega) c_2⟩⟩ dX1_allAreBehind_19
  exact loop_2 (8 - 0 + 1) 0 H locs (Nat.lt_succ_self _) (by omega) QAl_0 (hP.sub [0, 1, 2, 3] rfl) (hD.sub [0, 1, 2, 3] (by decide) rfl) hS ls (lv_sub hl [1, 0] rfl)
