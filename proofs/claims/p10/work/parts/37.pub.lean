set_option maxHeartbeats 4000000 in
set_option maxRecDepth 100000 in
theorem c_X8_add (l : Launch) (G : va_G) (ci cz cl : ClassId) (q : Nat → Nat) (sz : Nat) (tb : Nat) (bl : Int64) (x : Int32) (wr : Int32) (n : Nat) (row : Nat → Int32) (hl0 : l.stackTraces = false) (hn : n ≤ 600) : CxI l yX8_add wsX8_add ({ frames := 6, cells := 1, slots := 6, locals := 90 }) G (TY ci cz cl) (OX tb) [.ref (q 0), .long bl, .int x] [(q 0, .inr (7, [.ref (q 1), .ref (q 3), .ref (q 5), .ref (q 6), .ref (q 12), .int wr])), (q 1, .inr (0, [.ref (q 2), .int (nI n)])), aI ci (q 2) 600 row] sz (fun (r : Int32) (u : Nat × (Nat → Int32)) => ∃ k : Nat, x = nI k ∧ 1 ≤ k ∧ k ≤ 8 ∧ n + k ≤ 600 ∧ u.1 = n + k ∧ u.2 = bApp row n bl k ∧ r = nI u.1) (fun u : Nat × (Nat → Int32) => [(q 0, .inr (7, [.ref (q 1), .ref (q 3), .ref (q 5), .ref (q 6), .ref (q 12), .int wr])), (q 1, .inr (0, [.ref (q 2), .int (nI u.1)])), aI ci (q 2) 600 u.2]) (fun (E : String) (u : Nat × (Nat → Int32)) => (E = sIAE ∧ (x.toInt < 1 ∨ 8 < x.toInt) ∧ u.1 = n ∧ u.2 = row) ∨ (E = sISE ∧ (∃ k : Nat, x = nI k ∧ 1 ≤ k ∧ k ≤ 8 ∧ 600 < n + k) ∧ u.1 = n ∧ u.2 = row)) (fun u : Nat × (Nat → Int32) => [(q 0, .inr (7, [.ref (q 1), .ref (q 3), .ref (q 5), .ref (q 6), .ref (q 12), .int wr])), (q 1, .inr (0, [.ref (q 2), .int (nI u.1)])), aI ci (q 2) 600 u.2]) 1 6 := by
  refine vx_ofW (cc := cX8_add) (maxL := 4) (ret := (some .int)) (by decide) rfl ?_
  intro p e s m args below meth c s₁ B hml hnt hv
  obtain ⟨rfl, ⟨hsz, hP, hK, hD0⟩, hO⟩ := hv
  have hx := B.exec
  have hb := B.bytes
  have hr := B.returns
  have hts := atoms_spec (ws := wsX8_add) B.pre
  have hown : s.vm.findClass RX8 = some m.cls := findClass_of_methodNamed B.named
  have hlocks := B.notSynchronized
  subst hsz
  have hD := hD0.self (sz := s.heap.size)
  generalize hAe : va_A [(q 0, .inr (7, [.ref (q 1), .ref (q 3), .ref (q 5), .ref (q 6), .ref (q 12), .int wr])), (q 1, .inr (0, [.ref (q 2), .int (nI n)])), aI ci (q 2) 600 row] s.heap.size = A at hD hO ⊢
  have hA : ∀ q : Nat, s.heap.size ≤ q → A q := fun q h => by rw [← hAe]; exact Or.inr h
  have ok := (okX tb)
  refine startH (A := A) (fun H locs hP hS => ?_) hP
  have hi_X8 := (by decide +kernel : ∀ w ∈ wsX80, w ∈ wsX8_add)
  have f_10 := hts (.fieldLink RX8 10 "PageReader" "file" "LPageReader$Bytes;") (by decide +kernel)
  have hl := lv_entry ([.ref (q 0), .long bl, .int x]) (n := 4) (Nat.le_of_ble_eq_true rfl)
  rw [lg_entry_eq]
  generalize (lg_sl ([.ref (q 0), .long bl, .int x]) ++ List.replicate (4 - (lg_sl ([.ref (q 0), .long bl, .int x])).length) Slot.unset).toArray = ls at hl ⊢
  have hl : lv_has ls 4 [(0, .ref (q 0)), (1, .long bl), (3, .int x)] := hl
  obtain ⟨hOB, ⟨hU, hN⟩, ⟨k1, k2, k3, k4, k5⟩, ⟨d1, d2, d3⟩, ⟨a1, s1⟩, ⟨a2, s2⟩, ⟨a3, s3⟩, ⟨a4, s4⟩, ⟨a5, s5⟩, ⟨a6, s6⟩⟩ := id hO
  refine lv_iload_n hx hb dX8_add_0 rfl (lv_at hl 2 rfl) ?_
  refine lv_iconst (v := nI 1) hx hb dX8_add_1 (by decide) ?_
  refine lv_icmp_lt (tgt := 11) hx hb dX8_add_2 (by decide) (fun c_1 => ?_) (fun c_1 => ?_)
  · skip
    have z_1 := (i_lt x (nI 1)).mp c_1
    rw [nI_toInt (n := 1) (by omega)] at z_1
    exact thr (cls := sIAE) hx hb hl0 hown (by decide) (hts (.classLink RX8 50 sIAE) (by decide +kernel)) (hts (.initialized sIAE) (by decide +kernel)) s1 (fun w h => hts w (List.mem_cons_of_mem _ (List.mem_append_left _ (List.mem_append_right _ h)))) (by decide +kernel) k1 d1 d2 d3 (by decide +kernel) hU hN hS (by rw [hml]; exact hl.1) dX8_add_11 dX8_add_14 dX8_add_15 dX8_add_17 dX8_add_20 (fun x hx => (hnt x hx).elim) (Nat.le_of_ble_eq_true rfl) (Nat.le_of_ble_eq_true rfl) (Nat.le_of_ble_eq_true rfl) (Nat.le_of_ble_eq_true rfl) hlocks hK hP hD [0, 1, 2] (n, row) rfl (by decide) (Or.inl ⟨rfl, by (try dsimp only); omega, rfl, rfl⟩) (Nat.le_of_ble_eq_true rfl) (Nat.le_of_ble_eq_true rfl)
  · skip
    have z_1 := mt (i_lt x (nI 1)).mpr c_1
    rw [nI_toInt (n := 1) (by omega)] at z_1
    refine lv_iload_n hx hb dX8_add_5 rfl (lv_at hl 2 rfl) ?_
    refine lv_bipush (v := nI 8) hx hb dX8_add_6 (by decide) ?_
    refine lv_icmp_le (tgt := 21) hx hb dX8_add_8 (by decide) (fun c_2 => ?_) (fun c_2 => ?_)
    · skip
      have z_2 := (i_le x (nI 8)).mp c_2
      rw [nI_toInt (n := 8) (by omega)] at z_2
      refine lv_aload_n hx hb dX8_add_21 rfl (lv_at hl 0 rfl) ?_
      refine va_get (D := G) (ci := 7) (v := .ref (q 1)) (C := RX8) (T := TX8) (N := 6) hx hb hts hi_X8 hown hK hP 0 rfl rfl 0 (by decide) f_10 (fun _ h9 => h9) rfl dX8_add_22 ?_
      obtain ⟨k, hk, ek, ek2⟩ := i_nonneg (x := x) (by omega)
      refine lv_lload_n hx hb dX8_add_25 rfl (lv_at hl 1 rfl) ?_
      refine lv_iload_n hx hb dX8_add_26 rfl (lv_at hl 2 rfl) ?_
      refine tp (y := nI k) ek ?_
      refine jI (va_runV (As := [.long bl, .int (nI k)]) (rest := []) ⟨hx, hb, hml, hown, hts⟩ (c_X0_append l G ci cz cl q H.size bl k n row (by omega) (by omega)) (cwV 2 hts gX8_add_X0_append rfl rfl rfl (by decide +kernel) ⟨(Nat.le_of_ble_eq_true rfl), (Nat.le_of_ble_eq_true rfl)⟩) (pV (wc := [(q 1, .inr (0, [.ref (q 2), .int (nI n)])), aI ci (q 2) 600 row]) ok0 hK hP hD hS hA trivial [1, 2] rfl (by decide) 1 rfl rfl) rfl rfl hl.1 rfl (lv_room (Nat.le_of_ble_eq_true rfl)) dX8_add_27 ⟨show 0 + 0 ≤ 1 by omega, show 0 + 0 ≤ 6 by omega⟩) (wr := [(q 0, .inr (7, [.ref (q 1), .ref (q 3), .ref (q 5), .ref (q 6), .ref (q 12), .int wr]))]) hP hD hS hA [1, 2] [0] rfl rfl (by decide) (by decide) (fun r_3 u H locs hw_3 hP hD hS => ?_)
      obtain ⟨bo_3, n2_3, row2_3⟩ := u
      try dsimp only at hw_3
      obtain ⟨rfl, h_3⟩ := hw_3
      have hP : va_P G vwCl [(q 0, .inr (7, [.ref (q 1), .ref (q 3), .ref (q 5), .ref (q 6), .ref (q 12), .int wr])), (q 1, .inr (0, [.ref (q 2), .int (nI n2_3)])), aI ci (q 2) 600 row2_3] H := hP
      have hD : va_D A [(q 0, .inr (7, [.ref (q 1), .ref (q 3), .ref (q 5), .ref (q 6), .ref (q 12), .int wr])), (q 1, .inr (0, [.ref (q 2), .int (nI n2_3)])), aI ci (q 2) 600 row2_3] := hD
      refine lv_if_ne (tgt := 43) hx hb dX8_add_30 (by decide) (fun c_4 => ?_) (fun c_4 => ?_)
      · skip
        have z_4 := mt (nI_eq (a := bo_3) (b := 0) (by omega) (by omega)).mpr c_4
        refine lv_aload_n hx hb dX8_add_43 rfl (lv_at hl 0 rfl) ?_
        refine va_get (D := G) (ci := 7) (v := .ref (q 1)) (C := RX8) (T := TX8) (N := 6) hx hb hts hi_X8 hown hK hP 0 rfl rfl 0 (by decide) f_10 (fun _ h9 => h9) rfl dX8_add_44 ?_
        refine jI (va_runV (As := []) (rest := []) ⟨hx, hb, hml, hown, hts⟩ (c_X0_count l G ci cz cl q H.size n2_3 row2_3 ) (cwV 0 hts gX8_add_X0_count rfl rfl rfl (by decide +kernel) ⟨(Nat.le_of_ble_eq_true rfl), (Nat.le_of_ble_eq_true rfl)⟩) (pV (wc := [(q 1, .inr (0, [.ref (q 2), .int (nI n2_3)])), aI ci (q 2) 600 row2_3]) ok0 hK hP hD hS hA trivial [1, 2] rfl (by decide) 1 rfl rfl) rfl rfl hl.1 rfl (lv_room (Nat.le_of_ble_eq_true rfl)) dX8_add_47 ⟨show 0 + 0 ≤ 1 by omega, show 0 + 0 ≤ 6 by omega⟩) (wr := [(q 0, .inr (7, [.ref (q 1), .ref (q 3), .ref (q 5), .ref (q 6), .ref (q 12), .int wr]))]) hP hD hS hA [1, 2] [0] rfl rfl (by decide) (by decide) (fun r_5 u H locs hw_5 hP hD hS => ?_)
        try dsimp only at hw_5
        subst r_5
        have hP : va_P G vwCl [(q 0, .inr (7, [.ref (q 1), .ref (q 3), .ref (q 5), .ref (q 6), .ref (q 12), .int wr])), (q 1, .inr (0, [.ref (q 2), .int (nI n2_3)])), aI ci (q 2) 600 row2_3] H := hP
        have hD : va_D A [(q 0, .inr (7, [.ref (q 1), .ref (q 3), .ref (q 5), .ref (q 6), .ref (q 12), .int wr])), (q 1, .inr (0, [.ref (q 2), .int (nI n2_3)])), aI ci (q 2) 600 row2_3] := hD
        refine W.widen (k := 1) (n := 6) (by omega) (by omega) ?_
        refine vx_ret ?_
        exact rI (v := nI n2_3) hx hb hr hlocks rfl hK hP hD hS [0, 1, 2] (n2_3, row2_3) rfl (by decide) ⟨k, ek, by (try dsimp only); omega, by (try dsimp only); omega, by (try dsimp only); omega, by (try dsimp only); omega, by rcases h_3 with h | h; exact h.2.2.2; exact absurd h.1 (by (try dsimp only); omega), rfl⟩ dX8_add_50
      · skip
        have z_4 := (nI_eq (a := bo_3) (b := 0) (by omega) (by omega)).mp c_4
        exact thr (cls := sISE) hx hb hl0 hown (by decide) (hts (.classLink RX8 61 sISE) (by decide +kernel)) (hts (.initialized sISE) (by decide +kernel)) s2 (fun w h => hts w (List.mem_cons_of_mem _ (List.mem_append_right _ h))) (by decide +kernel) k2 d1 d2 d3 (by decide +kernel) hU hN hS (by rw [hml]; exact hl.1) dX8_add_33 dX8_add_36 dX8_add_37 dX8_add_39 dX8_add_42 (fun x hx => (hnt x hx).elim) (Nat.le_of_ble_eq_true rfl) (Nat.le_of_ble_eq_true rfl) (Nat.le_of_ble_eq_true rfl) (Nat.le_of_ble_eq_true rfl) hlocks hK hP hD [0, 1, 2] (n2_3, row2_3) rfl (by decide) (Or.inr ⟨rfl, ⟨k, ek, by (try dsimp only); omega, by (try dsimp only); omega, by (try dsimp only); omega⟩, by (try dsimp only); omega, by rcases h_3 with h | h; exact absurd h.1 (by (try dsimp only); omega); exact h.2.2.2⟩) (Nat.le_of_ble_eq_true rfl) (Nat.le_of_ble_eq_true rfl)
    · skip
      have z_2 := mt (i_le x (nI 8)).mpr c_2
      rw [nI_toInt (n := 8) (by omega)] at z_2
      exact thr (cls := sIAE) hx hb hl0 hown (by decide) (hts (.classLink RX8 50 sIAE) (by decide +kernel)) (hts (.initialized sIAE) (by decide +kernel)) s1 (fun w h => hts w (List.mem_cons_of_mem _ (List.mem_append_left _ (List.mem_append_right _ h)))) (by decide +kernel) k1 d1 d2 d3 (by decide +kernel) hU hN hS (by rw [hml]; exact hl.1) dX8_add_11 dX8_add_14 dX8_add_15 dX8_add_17 dX8_add_20 (fun x hx => (hnt x hx).elim) (Nat.le_of_ble_eq_true rfl) (Nat.le_of_ble_eq_true rfl) (Nat.le_of_ble_eq_true rfl) (Nat.le_of_ble_eq_true rfl) hlocks hK hP hD [0, 1, 2] (n, row) rfl (by decide) (Or.inl ⟨rfl, by (try dsimp only); omega, rfl, rfl⟩) (Nat.le_of_ble_eq_true rfl) (Nat.le_of_ble_eq_true rfl)
set_option maxHeartbeats 4000000 in
set_option maxRecDepth 100000 in
theorem c_X8_cut (l : Launch) (G : va_G) (ci cz cl : ClassId) (q : Nat → Nat) (sz : Nat) (tb : Nat) (x : Int32) (wr : Int32) (n : Nat) (row : Nat → Int32) (hl0 : l.stackTraces = false) (hn : n ≤ 600) : CxI l yX8_cut wsX8_cut ({ frames := 6, cells := 1, slots := 6, locals := 90 }) G (TY ci cz cl) (OX tb) [.ref (q 0), .int x] [(q 0, .inr (7, [.ref (q 1), .ref (q 3), .ref (q 5), .ref (q 6), .ref (q 12), .int wr])), (q 1, .inr (0, [.ref (q 2), .int (nI n)])), aI ci (q 2) 600 row] sz (fun (r : Int32) (u : Nat) => ∃ k : Nat, x = nI k ∧ k ≤ n ∧ u = n - k ∧ r = nI u) (fun u : Nat => [(q 0, .inr (7, [.ref (q 1), .ref (q 3), .ref (q 5), .ref (q 6), .ref (q 12), .int wr])), (q 1, .inr (0, [.ref (q 2), .int (nI u)])), aI ci (q 2) 600 row]) (fun (E : String) (u : Nat) => E = sIAE ∧ ¬ (0 ≤ x.toInt ∧ x.toInt ≤ n) ∧ u = n) (fun u : Nat => [(q 0, .inr (7, [.ref (q 1), .ref (q 3), .ref (q 5), .ref (q 6), .ref (q 12), .int wr])), (q 1, .inr (0, [.ref (q 2), .int (nI u)])), aI ci (q 2) 600 row]) 1 6 := by
  refine vx_ofW (cc := cX8_cut) (maxL := 2) (ret := (some .int)) (by decide) rfl ?_
  intro p e s m args below meth c s₁ B hml hnt hv
  obtain ⟨rfl, ⟨hsz, hP, hK, hD0⟩, hO⟩ := hv
  have hx := B.exec
  have hb := B.bytes
  have hr := B.returns
  have hts := atoms_spec (ws := wsX8_cut) B.pre
  have hown : s.vm.findClass RX8 = some m.cls := findClass_of_methodNamed B.named
  have hlocks := B.notSynchronized
  subst hsz
  have hD := hD0.self (sz := s.heap.size)
  generalize hAe : va_A [(q 0, .inr (7, [.ref (q 1), .ref (q 3), .ref (q 5), .ref (q 6), .ref (q 12), .int wr])), (q 1, .inr (0, [.ref (q 2), .int (nI n)])), aI ci (q 2) 600 row] s.heap.size = A at hD hO ⊢
  have hA : ∀ q : Nat, s.heap.size ≤ q → A q := fun q h => by rw [← hAe]; exact Or.inr h
  have ok := (okX tb)
  refine startH (A := A) (fun H locs hP hS => ?_) hP
  have hi_X8 := (by decide +kernel : ∀ w ∈ wsX80, w ∈ wsX8_cut)
  have f_10 := hts (.fieldLink RX8 10 "PageReader" "file" "LPageReader$Bytes;") (by decide +kernel)
  have hl := lv_entry ([.ref (q 0), .int x]) (n := 2) (Nat.le_of_ble_eq_true rfl)
  rw [lg_entry_eq]
  generalize (lg_sl ([.ref (q 0), .int x]) ++ List.replicate (2 - (lg_sl ([.ref (q 0), .int x])).length) Slot.unset).toArray = ls at hl ⊢
  have hl : lv_has ls 2 [(0, .ref (q 0)), (1, .int x)] := hl
  obtain ⟨hOB, ⟨hU, hN⟩, ⟨k1, k2, k3, k4, k5⟩, ⟨d1, d2, d3⟩, ⟨a1, s1⟩, ⟨a2, s2⟩, ⟨a3, s3⟩, ⟨a4, s4⟩, ⟨a5, s5⟩, ⟨a6, s6⟩⟩ := id hO
  refine lv_aload_n hx hb dX8_cut_0 rfl (lv_at hl 0 rfl) ?_
  refine va_get (D := G) (ci := 7) (v := .ref (q 1)) (C := RX8) (T := TX8) (N := 6) hx hb hts hi_X8 hown hK hP 0 rfl rfl 0 (by decide) f_10 (fun _ h9 => h9) rfl dX8_cut_1 ?_
  refine lv_iload_n hx hb dX8_cut_4 rfl (lv_at hl 1 rfl) ?_
  refine jI (va_runV (As := [.int x]) (rest := []) ⟨hx, hb, hml, hown, hts⟩ (c_X0_drop l G ci cz cl q H.size x n row (by omega)) (cwV 1 hts gX8_cut_X0_drop rfl rfl rfl (by decide +kernel) ⟨(Nat.le_of_ble_eq_true rfl), (Nat.le_of_ble_eq_true rfl)⟩) (pV (wc := [(q 1, .inr (0, [.ref (q 2), .int (nI n)])), aI ci (q 2) 600 row]) ok0 hK hP hD hS hA trivial [1, 2] rfl (by decide) 1 rfl rfl) rfl rfl hl.1 rfl (lv_room (Nat.le_of_ble_eq_true rfl)) dX8_cut_5 ⟨show 0 + 0 ≤ 1 by omega, show 0 + 0 ≤ 6 by omega⟩) (wr := [(q 0, .inr (7, [.ref (q 1), .ref (q 3), .ref (q 5), .ref (q 6), .ref (q 12), .int wr]))]) hP hD hS hA [1, 2] [0] rfl rfl (by decide) (by decide) (fun r_1 u H locs hw_1 hP hD hS => ?_)
  obtain ⟨bo_1, n2_1⟩ := u
  try dsimp only at hw_1
  obtain ⟨rfl, h_1⟩ := hw_1
  have hP : va_P G vwCl [(q 0, .inr (7, [.ref (q 1), .ref (q 3), .ref (q 5), .ref (q 6), .ref (q 12), .int wr])), (q 1, .inr (0, [.ref (q 2), .int (nI n2_1)])), aI ci (q 2) 600 row] H := hP
  have hD : va_D A [(q 0, .inr (7, [.ref (q 1), .ref (q 3), .ref (q 5), .ref (q 6), .ref (q 12), .int wr])), (q 1, .inr (0, [.ref (q 2), .int (nI n2_1)])), aI ci (q 2) 600 row] := hD
  refine lv_if_ne (tgt := 21) hx hb dX8_cut_8 (by decide) (fun c_2 => ?_) (fun c_2 => ?_)
  · skip
    have z_2 := mt (nI_eq (a := bo_1) (b := 0) (by omega) (by omega)).mpr c_2
    refine lv_aload_n hx hb dX8_cut_21 rfl (lv_at hl 0 rfl) ?_
    refine va_get (D := G) (ci := 7) (v := .ref (q 1)) (C := RX8) (T := TX8) (N := 6) hx hb hts hi_X8 hown hK hP 0 rfl rfl 0 (by decide) f_10 (fun _ h9 => h9) rfl dX8_cut_22 ?_
    refine jI (va_runV (As := []) (rest := []) ⟨hx, hb, hml, hown, hts⟩ (c_X0_count l G ci cz cl q H.size n2_1 row ) (cwV 0 hts gX8_cut_X0_count rfl rfl rfl (by decide +kernel) ⟨(Nat.le_of_ble_eq_true rfl), (Nat.le_of_ble_eq_true rfl)⟩) (pV (wc := [(q 1, .inr (0, [.ref (q 2), .int (nI n2_1)])), aI ci (q 2) 600 row]) ok0 hK hP hD hS hA trivial [1, 2] rfl (by decide) 1 rfl rfl) rfl rfl hl.1 rfl (lv_room (Nat.le_of_ble_eq_true rfl)) dX8_cut_25 ⟨show 0 + 0 ≤ 1 by omega, show 0 + 0 ≤ 6 by omega⟩) (wr := [(q 0, .inr (7, [.ref (q 1), .ref (q 3), .ref (q 5), .ref (q 6), .ref (q 12), .int wr]))]) hP hD hS hA [1, 2] [0] rfl rfl (by decide) (by decide) (fun r_3 u H locs hw_3 hP hD hS => ?_)
    try dsimp only at hw_3
    subst r_3
    have hP : va_P G vwCl [(q 0, .inr (7, [.ref (q 1), .ref (q 3), .ref (q 5), .ref (q 6), .ref (q 12), .int wr])), (q 1, .inr (0, [.ref (q 2), .int (nI n2_1)])), aI ci (q 2) 600 row] H := hP
    have hD : va_D A [(q 0, .inr (7, [.ref (q 1), .ref (q 3), .ref (q 5), .ref (q 6), .ref (q 12), .int wr])), (q 1, .inr (0, [.ref (q 2), .int (nI n2_1)])), aI ci (q 2) 600 row] := hD
    refine W.widen (k := 1) (n := 6) (by omega) (by omega) ?_
    refine vx_ret ?_
    exact rI (v := nI n2_1) hx hb hr hlocks rfl hK hP hD hS [0, 1, 2] n2_1 rfl (by decide) (by rcases h_1 with h | h; obtain ⟨-, k, e1, e2, e3⟩ := h; exact ⟨k, e1, e2, e3, rfl⟩; exact absurd h.1 (by (try dsimp only); omega)) dX8_cut_28
  · skip
    have z_2 := (nI_eq (a := bo_1) (b := 0) (by omega) (by omega)).mp c_2
    exact thr (cls := sIAE) hx hb hl0 hown (by decide) (hts (.classLink RX8 50 sIAE) (by decide +kernel)) (hts (.initialized sIAE) (by decide +kernel)) s3 (fun w h => hts w (List.mem_cons_of_mem _ (List.mem_append_right _ h))) (by decide +kernel) k1 d1 d2 d3 (by decide +kernel) hU hN hS (by rw [hml]; exact hl.1) dX8_cut_11 dX8_cut_14 dX8_cut_15 dX8_cut_17 dX8_cut_20 (fun x hx => (hnt x hx).elim) (Nat.le_of_ble_eq_true rfl) (Nat.le_of_ble_eq_true rfl) (Nat.le_of_ble_eq_true rfl) (Nat.le_of_ble_eq_true rfl) hlocks hK hP hD [0, 1, 2] n2_1 rfl (by decide) (by rcases h_1 with h | h; exact absurd h.1 (by (try dsimp only); omega); exact ⟨rfl, h.2.1, h.2.2⟩) (Nat.le_of_ble_eq_true rfl) (Nat.le_of_ble_eq_true rfl)
set_option maxHeartbeats 4000000 in
set_option maxRecDepth 100000 in
theorem c_X8_width (l : Launch) (G : va_G) (ci cz cl : ClassId) (q : Nat → Nat) (sz : Nat) (x : Int32) (y : Int32) (z : Int32) (wr : Int32) (wid : Nat → Int32) : CtI l yX8_width wsX8_width ({ frames := 2, cells := 0, slots := 0, locals := 44 }) G (TY ci cz cl) O0 [.ref (q 0), .int x, .int y, .int z] [(q 0, .inr (7, [.ref (q 1), .ref (q 3), .ref (q 5), .ref (q 6), .ref (q 12), .int wr])), (q 3, .inr (6, [.ref (q 4)])), aI ci (q 4) 1024 wid] sz (fun (r : Int32) (u : Nat × (Nat → Int32)) => r = nI u.1 ∧ ((u.1 = 1 ∧ ∃ a b : Nat, x = nI a ∧ y = nI b ∧ a < 8 ∧ b < 128 ∧ -30000 ≤ z.toInt ∧ z.toInt ≤ 30000 ∧ u.2 = upd wid (a * 128 + b) z) ∨ (u.1 = 0 ∧ u.2 = wid ∧ ¬ (0 ≤ x.toInt ∧ x.toInt < 8 ∧ 0 ≤ y.toInt ∧ y.toInt < 128 ∧ -30000 ≤ z.toInt ∧ z.toInt ≤ 30000)))) (fun u : Nat × (Nat → Int32) => [(q 0, .inr (7, [.ref (q 1), .ref (q 3), .ref (q 5), .ref (q 6), .ref (q 12), .int wr])), (q 3, .inr (6, [.ref (q 4)])), aI ci (q 4) 1024 u.2]) 0 0 := by
  refine Met.ofW (cc := cX8_width) (maxL := 4) (ret := (some .boolean)) (by decide) rfl ?_
  intro p e s m args below meth c s₁ B hml hv
  obtain ⟨rfl, ⟨hsz, hP, hK, hD0⟩, hO⟩ := hv
  have hx := B.exec
  have hb := B.bytes
  have hr := B.returns
  have hts := atoms_spec (ws := wsX8_width) B.pre
  have hown : s.vm.findClass RX8 = some m.cls := findClass_of_methodNamed B.named
  have hlocks := B.notSynchronized
  subst hsz
  have hD := hD0.self (sz := s.heap.size)
  generalize hAe : va_A [(q 0, .inr (7, [.ref (q 1), .ref (q 3), .ref (q 5), .ref (q 6), .ref (q 12), .int wr])), (q 3, .inr (6, [.ref (q 4)])), aI ci (q 4) 1024 wid] s.heap.size = A at hD hO ⊢
  have hA : ∀ q : Nat, s.heap.size ≤ q → A q := fun q h => by rw [← hAe]; exact Or.inr h
  have ok := ok0
  refine startH (A := A) (fun H locs hP hS => ?_) hP
  have hi_X8 := (by decide +kernel : ∀ w ∈ wsX80, w ∈ wsX8_width)
  have f_19 := hts (.fieldLink RX8 19 "PageReader" "widths" "LPageReader$Widths;") (by decide +kernel)
  have hl := lv_entry ([.ref (q 0), .int x, .int y, .int z]) (n := 4) (Nat.le_of_ble_eq_true rfl)
  rw [lg_entry_eq]
  generalize (lg_sl ([.ref (q 0), .int x, .int y, .int z]) ++ List.replicate (4 - (lg_sl ([.ref (q 0), .int x, .int y, .int z])).length) Slot.unset).toArray = ls at hl ⊢
  have hl : lv_has ls 4 [(0, .ref (q 0)), (1, .int x), (2, .int y), (3, .int z)] := hl
  refine lv_aload_n hx hb dX8_width_0 rfl (lv_at hl 0 rfl) ?_
  refine va_get (D := G) (ci := 7) (v := .ref (q 3)) (C := RX8) (T := TX8) (N := 6) hx hb hts hi_X8 hown hK hP 0 rfl rfl 1 (by decide) f_19 (fun _ h9 => h9) rfl dX8_width_1 ?_
  refine lv_iload_n hx hb dX8_width_4 rfl (lv_at hl 1 rfl) ?_
  refine lv_iload_n hx hb dX8_width_5 rfl (lv_at hl 2 rfl) ?_
  refine lv_iload_n hx hb dX8_width_6 rfl (lv_at hl 3 rfl) ?_
  refine jI (va_runV (As := [.int x, .int y, .int z]) (rest := []) ⟨hx, hb, hml, hown, hts⟩ (c_X7_change l G ci cz cl q H.size x y z wid ) (cwV 3 hts gX8_width_X7_change rfl rfl rfl (by decide +kernel) ⟨(Nat.le_of_ble_eq_true rfl), (Nat.le_of_ble_eq_true rfl)⟩) (pV (wc := [(q 3, .inr (6, [.ref (q 4)])), aI ci (q 4) 1024 wid]) ok hK hP hD hS hA hO [1, 2] rfl (by decide) 1 rfl rfl) rfl rfl hl.1 rfl (lv_room (Nat.le_of_ble_eq_true rfl)) dX8_width_7 ⟨(Nat.le_of_ble_eq_true rfl), (Nat.le_of_ble_eq_true rfl)⟩) (wr := [(q 0, .inr (7, [.ref (q 1), .ref (q 3), .ref (q 5), .ref (q 6), .ref (q 12), .int wr]))]) hP hD hS hA [1, 2] [0] rfl rfl (by decide) (by decide) (fun r_1 u H locs hw_1 hP hD hS => ?_)
  obtain ⟨bo_1, wid2_1⟩ := u
  try dsimp only at hw_1
  obtain ⟨rfl, h_1⟩ := hw_1
  have hP : va_P G vwCl [(q 0, .inr (7, [.ref (q 1), .ref (q 3), .ref (q 5), .ref (q 6), .ref (q 12), .int wr])), (q 3, .inr (6, [.ref (q 4)])), aI ci (q 4) 1024 wid2_1] H := hP
  have hD : va_D A [(q 0, .inr (7, [.ref (q 1), .ref (q 3), .ref (q 5), .ref (q 6), .ref (q 12), .int wr])), (q 3, .inr (6, [.ref (q 4)])), aI ci (q 4) 1024 wid2_1] := hD
  exact rI (v := nI bo_1) hx hb hr hlocks (nbn (by omega)) hK hP hD hS [0, 1, 2] (bo_1, wid2_1) rfl (by decide) ⟨rfl, h_1⟩ dX8_width_10
set_option maxHeartbeats 4000000 in
set_option maxRecDepth 100000 in
theorem c_X8_wrong (l : Launch) (G : va_G) (ci cz cl : ClassId) (q : Nat → Nat) (sz : Nat) (wr : Int32) : CtI l yX8_wrong wsX8_wrong ({ frames := 0, cells := 0, slots := 0, locals := 0 }) G (TY ci cz cl) O0 [.ref (q 0)] [(q 0, .inr (7, [.ref (q 1), .ref (q 3), .ref (q 5), .ref (q 6), .ref (q 12), .int wr]))] sz (fun (r : Int32) (u : Unit) => r = wr) (fun u : Unit => [(q 0, .inr (7, [.ref (q 1), .ref (q 3), .ref (q 5), .ref (q 6), .ref (q 12), .int wr]))]) 0 0 := by
  refine Met.ofW (cc := cX8_wrong) (maxL := 1) (ret := (some .int)) (by decide) rfl ?_
  intro p e s m args below meth c s₁ B hml hv
  obtain ⟨rfl, ⟨hsz, hP, hK, hD0⟩, hO⟩ := hv
  have hx := B.exec
  have hb := B.bytes
  have hr := B.returns
  have hts := atoms_spec (ws := wsX8_wrong) B.pre
  have hown : s.vm.findClass RX8 = some m.cls := findClass_of_methodNamed B.named
  have hlocks := B.notSynchronized
  subst hsz
  have hD := hD0.self (sz := s.heap.size)
  generalize hAe : va_A [(q 0, .inr (7, [.ref (q 1), .ref (q 3), .ref (q 5), .ref (q 6), .ref (q 12), .int wr]))] s.heap.size = A at hD hO ⊢
  have hA : ∀ q : Nat, s.heap.size ≤ q → A q := fun q h => by rw [← hAe]; exact Or.inr h
  have ok := ok0
  refine startH (A := A) (fun H locs hP hS => ?_) hP
  have hi_X8 := (by decide +kernel : ∀ w ∈ wsX80, w ∈ wsX8_wrong)
  have f_46 := hts (.fieldLink RX8 46 "PageReader" "wrongAddress" "I") (by decide +kernel)
  have hl := lv_entry ([.ref (q 0)]) (n := 1) (Nat.le_of_ble_eq_true rfl)
  rw [lg_entry_eq]
  generalize (lg_sl ([.ref (q 0)]) ++ List.replicate (1 - (lg_sl ([.ref (q 0)])).length) Slot.unset).toArray = ls at hl ⊢
  have hl : lv_has ls 1 [(0, .ref (q 0))] := hl
  refine lv_aload_n hx hb dX8_wrong_0 rfl (lv_at hl 0 rfl) ?_
  refine va_get (D := G) (ci := 7) (v := .int wr) (C := RX8) (T := TX8) (N := 6) hx hb hts hi_X8 hown hK hP 0 rfl rfl 5 (by decide) f_46 (fun _ h9 => h9) rfl dX8_wrong_1 ?_
  exact rI (v := wr) hx hb hr hlocks rfl hK hP hD hS [0] () rfl (by decide) rfl dX8_wrong_4
set_option maxHeartbeats 4000000 in
set_option maxRecDepth 100000 in
theorem c_X8_conv (l : Launch) (G : va_G) (ci cz cl : ClassId) (q : Nat → Nat) (sz : Nat) (wr : Int32) (fac : UInt64) : CtD l yX8_conv wsX8_conv ({ frames := 1, cells := 0, slots := 0, locals := 20 }) G (TY ci cz cl) O0 [.ref (q 0)] [(q 0, .inr (7, [.ref (q 1), .ref (q 3), .ref (q 5), .ref (q 6), .ref (q 12), .int wr])), (q 5, .inr (3, [.double fac]))] sz (fun (r : UInt64) (u : Unit) => r = fac) (fun u : Unit => [(q 0, .inr (7, [.ref (q 1), .ref (q 3), .ref (q 5), .ref (q 6), .ref (q 12), .int wr])), (q 5, .inr (3, [.double fac]))]) 0 0 := by
  refine Met.ofW (cc := cX8_conv) (maxL := 1) (ret := (some .double)) (by decide) rfl ?_
  intro p e s m args below meth c s₁ B hml hv
  obtain ⟨rfl, ⟨hsz, hP, hK, hD0⟩, hO⟩ := hv
  have hx := B.exec
  have hb := B.bytes
  have hr := B.returns
  have hts := atoms_spec (ws := wsX8_conv) B.pre
  have hown : s.vm.findClass RX8 = some m.cls := findClass_of_methodNamed B.named
  have hlocks := B.notSynchronized
  subst hsz
  have hD := hD0.self (sz := s.heap.size)
  generalize hAe : va_A [(q 0, .inr (7, [.ref (q 1), .ref (q 3), .ref (q 5), .ref (q 6), .ref (q 12), .int wr])), (q 5, .inr (3, [.double fac]))] s.heap.size = A at hD hO ⊢
  have hA : ∀ q : Nat, s.heap.size ≤ q → A q := fun q h => by rw [← hAe]; exact Or.inr h
  have ok := ok0
  refine startH (A := A) (fun H locs hP hS => ?_) hP
  have hi_X8 := (by decide +kernel : ∀ w ∈ wsX80, w ∈ wsX8_conv)
  have f_26 := hts (.fieldLink RX8 26 "PageReader" "pixels" "LPageReader$Pixels;") (by decide +kernel)
  have hl := lv_entry ([.ref (q 0)]) (n := 1) (Nat.le_of_ble_eq_true rfl)
  rw [lg_entry_eq]
  generalize (lg_sl ([.ref (q 0)]) ++ List.replicate (1 - (lg_sl ([.ref (q 0)])).length) Slot.unset).toArray = ls at hl ⊢
  have hl : lv_has ls 1 [(0, .ref (q 0))] := hl
  refine lv_aload_n hx hb dX8_conv_0 rfl (lv_at hl 0 rfl) ?_
  refine va_get (D := G) (ci := 7) (v := .ref (q 5)) (C := RX8) (T := TX8) (N := 6) hx hb hts hi_X8 hown hK hP 0 rfl rfl 2 (by decide) f_26 (fun _ h9 => h9) rfl dX8_conv_1 ?_
  refine jD (va_runV (As := []) (rest := []) ⟨hx, hb, hml, hown, hts⟩ (c_X4_factor l G ci cz cl q H.size fac ) (cwV 0 hts gX8_conv_X4_factor rfl rfl rfl (by decide +kernel) ⟨(Nat.le_of_ble_eq_true rfl), (Nat.le_of_ble_eq_true rfl)⟩) (pV (wc := [(q 5, .inr (3, [.double fac]))]) ok hK hP hD hS hA hO [1] rfl (by decide) 1 rfl rfl) rfl rfl hl.1 rfl (lv_room (Nat.le_of_ble_eq_true rfl)) dX8_conv_4 ⟨(Nat.le_of_ble_eq_true rfl), (Nat.le_of_ble_eq_true rfl)⟩) (wr := [(q 0, .inr (7, [.ref (q 1), .ref (q 3), .ref (q 5), .ref (q 6), .ref (q 12), .int wr]))]) hP hD hS hA [1] [0] rfl rfl (by decide) (by decide) (fun r_1 u H locs hw_1 hP hD hS => ?_)
  try dsimp only at hw_1
  subst r_1
  have hP : va_P G vwCl [(q 0, .inr (7, [.ref (q 1), .ref (q 3), .ref (q 5), .ref (q 6), .ref (q 12), .int wr])), (q 5, .inr (3, [.double fac]))] H := hP
  have hD : va_D A [(q 0, .inr (7, [.ref (q 1), .ref (q 3), .ref (q 5), .ref (q 6), .ref (q 12), .int wr])), (q 5, .inr (3, [.double fac]))] := hD
  exact rD hx hb hr hlocks hK hP hD hS [0, 1] () rfl (by decide) rfl dX8_conv_7
set_option maxHeartbeats 4000000 in
set_option maxRecDepth 100000 in
theorem c_X8_most (l : Launch) (G : va_G) (ci cz cl : ClassId) (q : Nat → Nat) (sz : Nat) (x : Int32) (wr : Int32) (pc : Nat) (ic : Nat) (nu : Nat → Int32) (ad : Nat → Int32) (fi : Nat → Int32) (co : Nat → Int32) (it : Nat → Int32) (hic : ic ≤ 200) : CtI l yX8_most wsX8_most ({ frames := 3, cells := 0, slots := 0, locals := 66 }) G (TY ci cz cl) O0 [.ref (q 0), .int x] [(q 0, .inr (7, [.ref (q 1), .ref (q 3), .ref (q 5), .ref (q 6), .ref (q 12), .int wr])), (q 6, .inr (2, [.ref (q 7), .ref (q 8), .ref (q 9), .ref (q 10), .ref (q 11), .int (nI pc), .int (nI ic)])), aI ci (q 7) 12 nu, aI ci (q 8) 12 ad, aI ci (q 9) 12 fi, aI ci (q 10) 12 co, aI ci (q 11) 1400 it] sz (fun (r : Int32) (u : Unit) => MoC x r ic it) (fun u : Unit => [(q 0, .inr (7, [.ref (q 1), .ref (q 3), .ref (q 5), .ref (q 6), .ref (q 12), .int wr])), (q 6, .inr (2, [.ref (q 7), .ref (q 8), .ref (q 9), .ref (q 10), .ref (q 11), .int (nI pc), .int (nI ic)])), aI ci (q 7) 12 nu, aI ci (q 8) 12 ad, aI ci (q 9) 12 fi, aI ci (q 10) 12 co, aI ci (q 11) 1400 it]) 0 0 := by
  refine Met.ofW (cc := cX8_most) (maxL := 2) (ret := (some .int)) (by decide) rfl ?_
  intro p e s m args below meth c s₁ B hml hv
  obtain ⟨rfl, ⟨hsz, hP, hK, hD0⟩, hO⟩ := hv
  have hx := B.exec
  have hb := B.bytes
  have hr := B.returns
  have hts := atoms_spec (ws := wsX8_most) B.pre
  have hown : s.vm.findClass RX8 = some m.cls := findClass_of_methodNamed B.named
  have hlocks := B.notSynchronized
  subst hsz
  have hD := hD0.self (sz := s.heap.size)
  generalize hAe : va_A [(q 0, .inr (7, [.ref (q 1), .ref (q 3), .ref (q 5), .ref (q 6), .ref (q 12), .int wr])), (q 6, .inr (2, [.ref (q 7), .ref (q 8), .ref (q 9), .ref (q 10), .ref (q 11), .int (nI pc), .int (nI ic)])), aI ci (q 7) 12 nu, aI ci (q 8) 12 ad, aI ci (q 9) 12 fi, aI ci (q 10) 12 co, aI ci (q 11) 1400 it] s.heap.size = A at hD hO ⊢
  have hA : ∀ q : Nat, s.heap.size ≤ q → A q := fun q h => by rw [← hAe]; exact Or.inr h
  have ok := ok0
  refine startH (A := A) (fun H locs hP hS => ?_) hP
  have hi_X8 := (by decide +kernel : ∀ w ∈ wsX80, w ∈ wsX8_most)
  have f_33 := hts (.fieldLink RX8 33 "PageReader" "pages" "LPageReader$Pages;") (by decide +kernel)
  have hl := lv_entry ([.ref (q 0), .int x]) (n := 2) (Nat.le_of_ble_eq_true rfl)
  rw [lg_entry_eq]
  generalize (lg_sl ([.ref (q 0), .int x]) ++ List.replicate (2 - (lg_sl ([.ref (q 0), .int x])).length) Slot.unset).toArray = ls at hl ⊢
  have hl : lv_has ls 2 [(0, .ref (q 0)), (1, .int x)] := hl
  refine lv_iload_n hx hb dX8_most_0 rfl (lv_at hl 1 rfl) ?_
  by_cases sw_1_0 : x = nI 0
  · skip
    refine tp sw_1_0 ?_
    refine lv_tableIn (off := 31) (tgt := 32) hx hb dX8_most_1 (by decide) (by decide) (by decide) (by decide) ?_
    refine lv_aload_n hx hb dX8_most_32 rfl (lv_at hl 0 rfl) ?_
    refine va_get (D := G) (ci := 7) (v := .ref (q 6)) (C := RX8) (T := TX8) (N := 6) hx hb hts hi_X8 hown hK hP 0 rfl rfl 3 (by decide) f_33 (fun _ h9 => h9) rfl dX8_most_33 ?_
    refine lv_iconst (v := nI 2) hx hb dX8_most_36 (by decide) ?_
    refine jI (va_runV (As := [.int (nI 2)]) (rest := []) ⟨hx, hb, hml, hown, hts⟩ (c_X3_greatest l G ci cz cl q H.size 2 pc ic nu ad fi co it (by omega) (by omega)) (cwV 1 hts gX8_most_X3_greatest rfl rfl rfl (by decide +kernel) ⟨(Nat.le_of_ble_eq_true rfl), (Nat.le_of_ble_eq_true rfl)⟩) (pV (wc := [(q 6, .inr (2, [.ref (q 7), .ref (q 8), .ref (q 9), .ref (q 10), .ref (q 11), .int (nI pc), .int (nI ic)])), aI ci (q 7) 12 nu, aI ci (q 8) 12 ad, aI ci (q 9) 12 fi, aI ci (q 10) 12 co, aI ci (q 11) 1400 it]) ok hK hP hD hS hA hO [1, 2, 3, 4, 5, 6] rfl (by decide) 1 rfl rfl) rfl rfl hl.1 rfl (lv_room (Nat.le_of_ble_eq_true rfl)) dX8_most_37 ⟨(Nat.le_of_ble_eq_true rfl), (Nat.le_of_ble_eq_true rfl)⟩) (wr := [(q 0, .inr (7, [.ref (q 1), .ref (q 3), .ref (q 5), .ref (q 6), .ref (q 12), .int wr]))]) hP hD hS hA [1, 2, 3, 4, 5, 6] [0] rfl rfl (by decide) (by decide) (fun r_2 u H locs hw_2 hP hD hS => ?_)
    try dsimp only at hw_2
    have h_2 := hw_2
    have hP : va_P G vwCl [(q 0, .inr (7, [.ref (q 1), .ref (q 3), .ref (q 5), .ref (q 6), .ref (q 12), .int wr])), (q 6, .inr (2, [.ref (q 7), .ref (q 8), .ref (q 9), .ref (q 10), .ref (q 11), .int (nI pc), .int (nI ic)])), aI ci (q 7) 12 nu, aI ci (q 8) 12 ad, aI ci (q 9) 12 fi, aI ci (q 10) 12 co, aI ci (q 11) 1400 it] H := hP
    have hD : va_D A [(q 0, .inr (7, [.ref (q 1), .ref (q 3), .ref (q 5), .ref (q 6), .ref (q 12), .int wr])), (q 6, .inr (2, [.ref (q 7), .ref (q 8), .ref (q 9), .ref (q 10), .ref (q 11), .int (nI pc), .int (nI ic)])), aI ci (q 7) 12 nu, aI ci (q 8) 12 ad, aI ci (q 9) 12 fi, aI ci (q 10) 12 co, aI ci (q 11) 1400 it] := hD
    exact rI (v := r_2) hx hb hr hlocks rfl hK hP hD hS [0, 1, 2, 3, 4, 5, 6] () rfl (by decide) (MoC_0 (by assumption) h_2) dX8_most_40
  by_cases sw_1_1 : x = nI 1
  · skip
    refine tp sw_1_1 ?_
    refine lv_tableIn (off := 40) (tgt := 41) hx hb dX8_most_1 (by decide) (by decide) (by decide) (by decide) ?_
    refine lv_aload_n hx hb dX8_most_41 rfl (lv_at hl 0 rfl) ?_
    refine va_get (D := G) (ci := 7) (v := .ref (q 6)) (C := RX8) (T := TX8) (N := 6) hx hb hts hi_X8 hown hK hP 0 rfl rfl 3 (by decide) f_33 (fun _ h9 => h9) rfl dX8_most_42 ?_
    refine lv_iconst (v := nI 3) hx hb dX8_most_45 (by decide) ?_
    refine jI (va_runV (As := [.int (nI 3)]) (rest := []) ⟨hx, hb, hml, hown, hts⟩ (c_X3_greatest l G ci cz cl q H.size 3 pc ic nu ad fi co it (by omega) (by omega)) (cwV 1 hts gX8_most_X3_greatest rfl rfl rfl (by decide +kernel) ⟨(Nat.le_of_ble_eq_true rfl), (Nat.le_of_ble_eq_true rfl)⟩) (pV (wc := [(q 6, .inr (2, [.ref (q 7), .ref (q 8), .ref (q 9), .ref (q 10), .ref (q 11), .int (nI pc), .int (nI ic)])), aI ci (q 7) 12 nu, aI ci (q 8) 12 ad, aI ci (q 9) 12 fi, aI ci (q 10) 12 co, aI ci (q 11) 1400 it]) ok hK hP hD hS hA hO [1, 2, 3, 4, 5, 6] rfl (by decide) 1 rfl rfl) rfl rfl hl.1 rfl (lv_room (Nat.le_of_ble_eq_true rfl)) dX8_most_46 ⟨(Nat.le_of_ble_eq_true rfl), (Nat.le_of_ble_eq_true rfl)⟩) (wr := [(q 0, .inr (7, [.ref (q 1), .ref (q 3), .ref (q 5), .ref (q 6), .ref (q 12), .int wr]))]) hP hD hS hA [1, 2, 3, 4, 5, 6] [0] rfl rfl (by decide) (by decide) (fun r_3 u H locs hw_3 hP hD hS => ?_)
    try dsimp only at hw_3
    have h_3 := hw_3
    have hP : va_P G vwCl [(q 0, .inr (7, [.ref (q 1), .ref (q 3), .ref (q 5), .ref (q 6), .ref (q 12), .int wr])), (q 6, .inr (2, [.ref (q 7), .ref (q 8), .ref (q 9), .ref (q 10), .ref (q 11), .int (nI pc), .int (nI ic)])), aI ci (q 7) 12 nu, aI ci (q 8) 12 ad, aI ci (q 9) 12 fi, aI ci (q 10) 12 co, aI ci (q 11) 1400 it] H := hP
    have hD : va_D A [(q 0, .inr (7, [.ref (q 1), .ref (q 3), .ref (q 5), .ref (q 6), .ref (q 12), .int wr])), (q 6, .inr (2, [.ref (q 7), .ref (q 8), .ref (q 9), .ref (q 10), .ref (q 11), .int (nI pc), .int (nI ic)])), aI ci (q 7) 12 nu, aI ci (q 8) 12 ad, aI ci (q 9) 12 fi, aI ci (q 10) 12 co, aI ci (q 11) 1400 it] := hD
    exact rI (v := r_3) hx hb hr hlocks rfl hK hP hD hS [0, 1, 2, 3, 4, 5, 6] () rfl (by decide) (MoC_1 (by assumption) h_3) dX8_most_49
  by_cases sw_1_2 : x = nI 2
  · skip
    refine tp sw_1_2 ?_
    refine lv_tableIn (off := 49) (tgt := 50) hx hb dX8_most_1 (by decide) (by decide) (by decide) (by decide) ?_
    refine lv_aload_n hx hb dX8_most_50 rfl (lv_at hl 0 rfl) ?_
    refine va_get (D := G) (ci := 7) (v := .ref (q 6)) (C := RX8) (T := TX8) (N := 6) hx hb hts hi_X8 hown hK hP 0 rfl rfl 3 (by decide) f_33 (fun _ h9 => h9) rfl dX8_most_51 ?_
    refine lv_iconst (v := nI 2) hx hb dX8_most_54 (by decide) ?_
    refine jI (va_runV (As := [.int (nI 2)]) (rest := []) ⟨hx, hb, hml, hown, hts⟩ (c_X3_least l G ci cz cl q H.size 2 pc ic nu ad fi co it (by omega) (by omega)) (cwV 1 hts gX8_most_X3_least rfl rfl rfl (by decide +kernel) ⟨(Nat.le_of_ble_eq_true rfl), (Nat.le_of_ble_eq_true rfl)⟩) (pV (wc := [(q 6, .inr (2, [.ref (q 7), .ref (q 8), .ref (q 9), .ref (q 10), .ref (q 11), .int (nI pc), .int (nI ic)])), aI ci (q 7) 12 nu, aI ci (q 8) 12 ad, aI ci (q 9) 12 fi, aI ci (q 10) 12 co, aI ci (q 11) 1400 it]) ok hK hP hD hS hA hO [1, 2, 3, 4, 5, 6] rfl (by decide) 1 rfl rfl) rfl rfl hl.1 rfl (lv_room (Nat.le_of_ble_eq_true rfl)) dX8_most_55 ⟨(Nat.le_of_ble_eq_true rfl), (Nat.le_of_ble_eq_true rfl)⟩) (wr := [(q 0, .inr (7, [.ref (q 1), .ref (q 3), .ref (q 5), .ref (q 6), .ref (q 12), .int wr]))]) hP hD hS hA [1, 2, 3, 4, 5, 6] [0] rfl rfl (by decide) (by decide) (fun r_4 u H locs hw_4 hP hD hS => ?_)
    try dsimp only at hw_4
    have h_4 := hw_4
    have hP : va_P G vwCl [(q 0, .inr (7, [.ref (q 1), .ref (q 3), .ref (q 5), .ref (q 6), .ref (q 12), .int wr])), (q 6, .inr (2, [.ref (q 7), .ref (q 8), .ref (q 9), .ref (q 10), .ref (q 11), .int (nI pc), .int (nI ic)])), aI ci (q 7) 12 nu, aI ci (q 8) 12 ad, aI ci (q 9) 12 fi, aI ci (q 10) 12 co, aI ci (q 11) 1400 it] H := hP
    have hD : va_D A [(q 0, .inr (7, [.ref (q 1), .ref (q 3), .ref (q 5), .ref (q 6), .ref (q 12), .int wr])), (q 6, .inr (2, [.ref (q 7), .ref (q 8), .ref (q 9), .ref (q 10), .ref (q 11), .int (nI pc), .int (nI ic)])), aI ci (q 7) 12 nu, aI ci (q 8) 12 ad, aI ci (q 9) 12 fi, aI ci (q 10) 12 co, aI ci (q 11) 1400 it] := hD
    exact rI (v := r_4) hx hb hr hlocks rfl hK hP hD hS [0, 1, 2, 3, 4, 5, 6] () rfl (by decide) (MoC_2 (by assumption) h_4) dX8_most_58
  by_cases sw_1_3 : x = nI 3
  · skip
    refine tp sw_1_3 ?_
    refine lv_tableIn (off := 58) (tgt := 59) hx hb dX8_most_1 (by decide) (by decide) (by decide) (by decide) ?_
    refine lv_aload_n hx hb dX8_most_59 rfl (lv_at hl 0 rfl) ?_
    refine va_get (D := G) (ci := 7) (v := .ref (q 6)) (C := RX8) (T := TX8) (N := 6) hx hb hts hi_X8 hown hK hP 0 rfl rfl 3 (by decide) f_33 (fun _ h9 => h9) rfl dX8_most_60 ?_
    refine lv_iconst (v := nI 3) hx hb dX8_most_63 (by decide) ?_
    refine jI (va_runV (As := [.int (nI 3)]) (rest := []) ⟨hx, hb, hml, hown, hts⟩ (c_X3_least l G ci cz cl q H.size 3 pc ic nu ad fi co it (by omega) (by omega)) (cwV 1 hts gX8_most_X3_least rfl rfl rfl (by decide +kernel) ⟨(Nat.le_of_ble_eq_true rfl), (Nat.le_of_ble_eq_true rfl)⟩) (pV (wc := [(q 6, .inr (2, [.ref (q 7), .ref (q 8), .ref (q 9), .ref (q 10), .ref (q 11), .int (nI pc), .int (nI ic)])), aI ci (q 7) 12 nu, aI ci (q 8) 12 ad, aI ci (q 9) 12 fi, aI ci (q 10) 12 co, aI ci (q 11) 1400 it]) ok hK hP hD hS hA hO [1, 2, 3, 4, 5, 6] rfl (by decide) 1 rfl rfl) rfl rfl hl.1 rfl (lv_room (Nat.le_of_ble_eq_true rfl)) dX8_most_64 ⟨(Nat.le_of_ble_eq_true rfl), (Nat.le_of_ble_eq_true rfl)⟩) (wr := [(q 0, .inr (7, [.ref (q 1), .ref (q 3), .ref (q 5), .ref (q 6), .ref (q 12), .int wr]))]) hP hD hS hA [1, 2, 3, 4, 5, 6] [0] rfl rfl (by decide) (by decide) (fun r_5 u H locs hw_5 hP hD hS => ?_)
    try dsimp only at hw_5
    have h_5 := hw_5
    have hP : va_P G vwCl [(q 0, .inr (7, [.ref (q 1), .ref (q 3), .ref (q 5), .ref (q 6), .ref (q 12), .int wr])), (q 6, .inr (2, [.ref (q 7), .ref (q 8), .ref (q 9), .ref (q 10), .ref (q 11), .int (nI pc), .int (nI ic)])), aI ci (q 7) 12 nu, aI ci (q 8) 12 ad, aI ci (q 9) 12 fi, aI ci (q 10) 12 co, aI ci (q 11) 1400 it] H := hP
    have hD : va_D A [(q 0, .inr (7, [.ref (q 1), .ref (q 3), .ref (q 5), .ref (q 6), .ref (q 12), .int wr])), (q 6, .inr (2, [.ref (q 7), .ref (q 8), .ref (q 9), .ref (q 10), .ref (q 11), .int (nI pc), .int (nI ic)])), aI ci (q 7) 12 nu, aI ci (q 8) 12 ad, aI ci (q 9) 12 fi, aI ci (q 10) 12 co, aI ci (q 11) 1400 it] := hD
    exact rI (v := r_5) hx hb hr hlocks rfl hK hP hD hS [0, 1, 2, 3, 4, 5, 6] () rfl (by decide) (MoC_3 (by assumption) h_5) dX8_most_67
  have t_1_0 : ¬ (0 : Int) = (x).toInt := fun h => sw_1_0 (Int32.toInt_inj.mp (h.symm.trans (by decide)))
  have t_1_1 : ¬ (1 : Int) = (x).toInt := fun h => sw_1_1 (Int32.toInt_inj.mp (h.symm.trans (by decide)))
  have t_1_2 : ¬ (2 : Int) = (x).toInt := fun h => sw_1_2 (Int32.toInt_inj.mp (h.symm.trans (by decide)))
  have t_1_3 : ¬ (3 : Int) = (x).toInt := fun h => sw_1_3 (Int32.toInt_inj.mp (h.symm.trans (by decide)))
  refine lv_tableOut (tgt := 68) hx hb dX8_most_1 (by omega) (by decide) ?_
  refine lv_iconst (v := nI 0) hx hb dX8_most_68 (by decide) ?_
  exact rI (v := nI 0) hx hb hr hlocks rfl hK hP hD hS [0, 1, 2, 3, 4, 5, 6] () rfl (by decide) (Or.inl ⟨rfl, Or.inr (by (try dsimp only); omega)⟩) dX8_most_69
set_option maxHeartbeats 4000000 in
set_option maxRecDepth 100000 in
theorem c_X8_read (l : Launch) (G : va_G) (ci cz cl : ClassId) (q : Nat → Nat) (sz : Nat) (tb : Nat) (wr : Int32) (ph : Nat) (bA : Nat) (lA : Nat) (n : Nat) (row : Nat → Int32) (wid : Nat → Int32) (fac : UInt64) (pc : Nat) (ic : Nat) (nu : Nat → Int32) (ad : Nat → Int32) (fi : Nat → Int32) (co : Nat → Int32) (it : Nat → Int32) (st : Nat → Int32) (mk : Nat → Int32) (sc : Nat → Int32) (kc : Nat) (dp : Nat) (fo : Int32) (sl : Int32) (now : Nat → Int32) (kept : Nat → Int32) (hl0 : l.stackTraces = false) (hn : n ≤ 600) (hB : FB row) : CxI l yX8_read wsX8_read ({ frames := 6, cells := 1, slots := 6, locals := 140 }) G (TY ci cz cl) (OX tb) [.ref (q 0)] [(q 0, .inr (7, [.ref (q 1), .ref (q 3), .ref (q 5), .ref (q 6), .ref (q 12), .int wr])), (q 12, .inr (5, [.ref (q 1), .ref (q 3), .ref (q 5), .ref (q 6), .ref (q 13), .ref (q 17), .int (nI ph), .int (nI bA), .int (nI lA)])), (q 1, .inr (0, [.ref (q 2), .int (nI n)])), aI ci (q 2) 600 row, (q 3, .inr (6, [.ref (q 4)])), aI ci (q 4) 1024 wid, (q 5, .inr (3, [.double fac])), (q 6, .inr (2, [.ref (q 7), .ref (q 8), .ref (q 9), .ref (q 10), .ref (q 11), .int (nI pc), .int (nI ic)])), aI ci (q 7) 12 nu, aI ci (q 8) 12 ad, aI ci (q 9) 12 fi, aI ci (q 10) 12 co, aI ci (q 11) 1400 it, (q 13, .inr (1, [.ref (q 14), .ref (q 15), .ref (q 16)])), aI ci (q 14) 8 st, aI ci (q 15) 8 mk, aI ci (q 16) 8 sc, (q 17, .inr (4, [.ref (q 5), .ref (q 18), .ref (q 19), .int (nI kc), .int (nI dp), .int fo, .int sl])), aI ci (q 18) 8 now, aI ci (q 19) 160 kept] sz (fun (r : Int32) (u : Int32 × Nat × Nat × Nat × UInt64 × Nat × Nat × (Nat → Int32) × (Nat → Int32) × (Nat → Int32) × (Nat → Int32) × (Nat → Int32) × (Nat → Int32) × (Nat → Int32) × (Nat → Int32) × Nat × Nat × Int32 × Int32 × (Nat → Int32) × (Nat → Int32)) => u.1 = -1 ∧ r = nI u.2.2.2.2.2.1 ∧ GR row wid n (u.2.1, u.2.2.1, u.2.2.2.1, u.2.2.2.2.1, u.2.2.2.2.2.1, u.2.2.2.2.2.2.1, u.2.2.2.2.2.2.2.1, u.2.2.2.2.2.2.2.2.1, u.2.2.2.2.2.2.2.2.2.2.1, u.2.2.2.2.2.2.2.2.2.2.2.1, u.2.2.2.2.2.2.2.2.2.2.2.2.1, u.2.2.2.2.2.2.2.2.2.2.2.2.2.1, u.2.2.2.2.2.2.2.2.2.2.2.2.2.2.1, u.2.2.2.2.2.2.2.2.2.2.2.2.2.2.2.1, u.2.2.2.2.2.2.2.2.2.2.2.2.2.2.2.2.1, u.2.2.2.2.2.2.2.2.2.2.2.2.2.2.2.2.2.1, u.2.2.2.2.2.2.2.2.2.2.2.2.2.2.2.2.2.2.2.1, u.2.2.2.2.2.2.2.2.2.2.2.2.2.2.2.2.2.2.2.2) ∧ u.2.2.2.2.2.1 ≤ 12 ∧ u.2.2.2.2.2.2.1 ≤ 200 ∧ PI u.2.2.2.2.2.1 u.2.2.2.2.2.2.1 u.2.2.2.2.2.2.2.2.2.1 u.2.2.2.2.2.2.2.2.2.2.1 ∧ Fn u.2.2.2.2.1) (fun u : Int32 × Nat × Nat × Nat × UInt64 × Nat × Nat × (Nat → Int32) × (Nat → Int32) × (Nat → Int32) × (Nat → Int32) × (Nat → Int32) × (Nat → Int32) × (Nat → Int32) × (Nat → Int32) × Nat × Nat × Int32 × Int32 × (Nat → Int32) × (Nat → Int32) => [(q 0, .inr (7, [.ref (q 1), .ref (q 3), .ref (q 5), .ref (q 6), .ref (q 12), .int u.1])), (q 12, .inr (5, [.ref (q 1), .ref (q 3), .ref (q 5), .ref (q 6), .ref (q 13), .ref (q 17), .int (nI u.2.1), .int (nI u.2.2.1), .int (nI u.2.2.2.1)])), (q 1, .inr (0, [.ref (q 2), .int (nI n)])), aI ci (q 2) 600 row, (q 3, .inr (6, [.ref (q 4)])), aI ci (q 4) 1024 wid, (q 5, .inr (3, [.double u.2.2.2.2.1])), (q 6, .inr (2, [.ref (q 7), .ref (q 8), .ref (q 9), .ref (q 10), .ref (q 11), .int (nI u.2.2.2.2.2.1), .int (nI u.2.2.2.2.2.2.1)])), aI ci (q 7) 12 u.2.2.2.2.2.2.2.1, aI ci (q 8) 12 u.2.2.2.2.2.2.2.2.1, aI ci (q 9) 12 u.2.2.2.2.2.2.2.2.2.1, aI ci (q 10) 12 u.2.2.2.2.2.2.2.2.2.2.1, aI ci (q 11) 1400 u.2.2.2.2.2.2.2.2.2.2.2.1, (q 13, .inr (1, [.ref (q 14), .ref (q 15), .ref (q 16)])), aI ci (q 14) 8 u.2.2.2.2.2.2.2.2.2.2.2.2.1, aI ci (q 15) 8 u.2.2.2.2.2.2.2.2.2.2.2.2.2.1, aI ci (q 16) 8 u.2.2.2.2.2.2.2.2.2.2.2.2.2.2.1, (q 17, .inr (4, [.ref (q 5), .ref (q 18), .ref (q 19), .int (nI u.2.2.2.2.2.2.2.2.2.2.2.2.2.2.2.1), .int (nI u.2.2.2.2.2.2.2.2.2.2.2.2.2.2.2.2.1), .int u.2.2.2.2.2.2.2.2.2.2.2.2.2.2.2.2.2.1, .int u.2.2.2.2.2.2.2.2.2.2.2.2.2.2.2.2.2.2.1])), aI ci (q 18) 8 u.2.2.2.2.2.2.2.2.2.2.2.2.2.2.2.2.2.2.2.1, aI ci (q 19) 160 u.2.2.2.2.2.2.2.2.2.2.2.2.2.2.2.2.2.2.2.2]) (fun (E : String) (u : Int32 × Nat × Nat × Nat × UInt64 × Nat × Nat × (Nat → Int32) × (Nat → Int32) × (Nat → Int32) × (Nat → Int32) × (Nat → Int32) × (Nat → Int32) × (Nat → Int32) × (Nat → Int32) × Nat × Nat × Int32 × Int32 × (Nat → Int32) × (Nat → Int32)) => E = sUOE ∧ u.2.2.2.2.2.1 = 0 ∧ u.2.2.2.2.2.2.1 = 0 ∧ u.2.2.2.2.1 = FP.dconst0 ∧ BR row wid n u.1 ∧ PI u.2.2.2.2.2.1 u.2.2.2.2.2.2.1 u.2.2.2.2.2.2.2.2.2.1 u.2.2.2.2.2.2.2.2.2.2.1 ∧ Fn u.2.2.2.2.1) (fun u : Int32 × Nat × Nat × Nat × UInt64 × Nat × Nat × (Nat → Int32) × (Nat → Int32) × (Nat → Int32) × (Nat → Int32) × (Nat → Int32) × (Nat → Int32) × (Nat → Int32) × (Nat → Int32) × Nat × Nat × Int32 × Int32 × (Nat → Int32) × (Nat → Int32) => [(q 0, .inr (7, [.ref (q 1), .ref (q 3), .ref (q 5), .ref (q 6), .ref (q 12), .int u.1])), (q 12, .inr (5, [.ref (q 1), .ref (q 3), .ref (q 5), .ref (q 6), .ref (q 13), .ref (q 17), .int (nI u.2.1), .int (nI u.2.2.1), .int (nI u.2.2.2.1)])), (q 1, .inr (0, [.ref (q 2), .int (nI n)])), aI ci (q 2) 600 row, (q 3, .inr (6, [.ref (q 4)])), aI ci (q 4) 1024 wid, (q 5, .inr (3, [.double u.2.2.2.2.1])), (q 6, .inr (2, [.ref (q 7), .ref (q 8), .ref (q 9), .ref (q 10), .ref (q 11), .int (nI u.2.2.2.2.2.1), .int (nI u.2.2.2.2.2.2.1)])), aI ci (q 7) 12 u.2.2.2.2.2.2.2.1, aI ci (q 8) 12 u.2.2.2.2.2.2.2.2.1, aI ci (q 9) 12 u.2.2.2.2.2.2.2.2.2.1, aI ci (q 10) 12 u.2.2.2.2.2.2.2.2.2.2.1, aI ci (q 11) 1400 u.2.2.2.2.2.2.2.2.2.2.2.1, (q 13, .inr (1, [.ref (q 14), .ref (q 15), .ref (q 16)])), aI ci (q 14) 8 u.2.2.2.2.2.2.2.2.2.2.2.2.1, aI ci (q 15) 8 u.2.2.2.2.2.2.2.2.2.2.2.2.2.1, aI ci (q 16) 8 u.2.2.2.2.2.2.2.2.2.2.2.2.2.2.1, (q 17, .inr (4, [.ref (q 5), .ref (q 18), .ref (q 19), .int (nI u.2.2.2.2.2.2.2.2.2.2.2.2.2.2.2.1), .int (nI u.2.2.2.2.2.2.2.2.2.2.2.2.2.2.2.2.1), .int u.2.2.2.2.2.2.2.2.2.2.2.2.2.2.2.2.2.1, .int u.2.2.2.2.2.2.2.2.2.2.2.2.2.2.2.2.2.2.1])), aI ci (q 18) 8 u.2.2.2.2.2.2.2.2.2.2.2.2.2.2.2.2.2.2.2.1, aI ci (q 19) 160 u.2.2.2.2.2.2.2.2.2.2.2.2.2.2.2.2.2.2.2.2]) 1 6 := by
  refine vx_ofW (cc := cX8_read) (maxL := 1) (ret := (some .int)) (by decide) rfl ?_
  intro p e s m args below meth c s₁ B hml hnt hv
  obtain ⟨rfl, ⟨hsz, hP, hK, hD0⟩, hO⟩ := hv
  have hx := B.exec
  have hb := B.bytes
  have hr := B.returns
  have hts := atoms_spec (ws := wsX8_read) B.pre
  have hown : s.vm.findClass RX8 = some m.cls := findClass_of_methodNamed B.named
  have hlocks := B.notSynchronized
  subst hsz
  have hD := hD0.self (sz := s.heap.size)
  generalize hAe : va_A [(q 0, .inr (7, [.ref (q 1), .ref (q 3), .ref (q 5), .ref (q 6), .ref (q 12), .int wr])), (q 12, .inr (5, [.ref (q 1), .ref (q 3), .ref (q 5), .ref (q 6), .ref (q 13), .ref (q 17), .int (nI ph), .int (nI bA), .int (nI lA)])), (q 1, .inr (0, [.ref (q 2), .int (nI n)])), aI ci (q 2) 600 row, (q 3, .inr (6, [.ref (q 4)])), aI ci (q 4) 1024 wid, (q 5, .inr (3, [.double fac])), (q 6, .inr (2, [.ref (q 7), .ref (q 8), .ref (q 9), .ref (q 10), .ref (q 11), .int (nI pc), .int (nI ic)])), aI ci (q 7) 12 nu, aI ci (q 8) 12 ad, aI ci (q 9) 12 fi, aI ci (q 10) 12 co, aI ci (q 11) 1400 it, (q 13, .inr (1, [.ref (q 14), .ref (q 15), .ref (q 16)])), aI ci (q 14) 8 st, aI ci (q 15) 8 mk, aI ci (q 16) 8 sc, (q 17, .inr (4, [.ref (q 5), .ref (q 18), .ref (q 19), .int (nI kc), .int (nI dp), .int fo, .int sl])), aI ci (q 18) 8 now, aI ci (q 19) 160 kept] s.heap.size = A at hD hO ⊢
  have hA : ∀ q : Nat, s.heap.size ≤ q → A q := fun q h => by rw [← hAe]; exact Or.inr h
  have ok := (okX tb)
  refine startH (A := A) (fun H locs hP hS => ?_) hP
  have hi_X8 := (by decide +kernel : ∀ w ∈ wsX80, w ∈ wsX8_read)
  have f_42 := hts (.fieldLink RX8 42 "PageReader" "reading" "LPageReader$Reading;") (by decide +kernel)
  have f_46 := hts (.fieldLink RX8 46 "PageReader" "wrongAddress" "I") (by decide +kernel)
  have f_33 := hts (.fieldLink RX8 33 "PageReader" "pages" "LPageReader$Pages;") (by decide +kernel)
  have f_26 := hts (.fieldLink RX8 26 "PageReader" "pixels" "LPageReader$Pixels;") (by decide +kernel)
  have hl := lv_entry ([.ref (q 0)]) (n := 1) (Nat.le_of_ble_eq_true rfl)
  rw [lg_entry_eq]
  generalize (lg_sl ([.ref (q 0)]) ++ List.replicate (1 - (lg_sl ([.ref (q 0)])).length) Slot.unset).toArray = ls at hl ⊢
  have hl : lv_has ls 1 [(0, .ref (q 0))] := hl
  obtain ⟨hOB, ⟨hU, hN⟩, ⟨k1, k2, k3, k4, k5⟩, ⟨d1, d2, d3⟩, ⟨a1, s1⟩, ⟨a2, s2⟩, ⟨a3, s3⟩, ⟨a4, s4⟩, ⟨a5, s5⟩, ⟨a6, s6⟩⟩ := id hO
  refine lv_aload_n hx hb dX8_read_0 rfl (lv_at hl 0 rfl) ?_
  refine lv_aload_n hx hb dX8_read_1 rfl (lv_at hl 0 rfl) ?_
  refine va_get (D := G) (ci := 7) (v := .ref (q 12)) (C := RX8) (T := TX8) (N := 6) hx hb hts hi_X8 hown hK hP 0 rfl rfl 4 (by decide) f_42 (fun _ h9 => h9) rfl dX8_read_2 ?_
  refine jI (va_runV (As := []) (rest := [.ref (q 0)]) ⟨hx, hb, hml, hown, hts⟩ (c_X6_firstWrong l G ci cz cl q H.size tb ph bA lA n row wid fac pc ic nu ad fi co it st mk sc kc dp fo sl now kept (by omega) hB) (cwV 0 hts gX8_read_X6_firstWrong rfl rfl rfl (by decide +kernel) ⟨(Nat.le_of_ble_eq_true rfl), (Nat.le_of_ble_eq_true rfl)⟩) (pV (wc := [(q 12, .inr (5, [.ref (q 1), .ref (q 3), .ref (q 5), .ref (q 6), .ref (q 13), .ref (q 17), .int (nI ph), .int (nI bA), .int (nI lA)])), (q 1, .inr (0, [.ref (q 2), .int (nI n)])), aI ci (q 2) 600 row, (q 3, .inr (6, [.ref (q 4)])), aI ci (q 4) 1024 wid, (q 5, .inr (3, [.double fac])), (q 6, .inr (2, [.ref (q 7), .ref (q 8), .ref (q 9), .ref (q 10), .ref (q 11), .int (nI pc), .int (nI ic)])), aI ci (q 7) 12 nu, aI ci (q 8) 12 ad, aI ci (q 9) 12 fi, aI ci (q 10) 12 co, aI ci (q 11) 1400 it, (q 13, .inr (1, [.ref (q 14), .ref (q 15), .ref (q 16)])), aI ci (q 14) 8 st, aI ci (q 15) 8 mk, aI ci (q 16) 8 sc, (q 17, .inr (4, [.ref (q 5), .ref (q 18), .ref (q 19), .int (nI kc), .int (nI dp), .int fo, .int sl])), aI ci (q 18) 8 now, aI ci (q 19) 160 kept]) (okB tb) hK hP hD hS hA hOB [1, 2, 3, 4, 5, 6, 7, 8, 9, 10, 11, 12, 13, 14, 15, 16, 17, 18, 19] rfl (by decide) 1 rfl rfl) rfl rfl hl.1 rfl (lv_room (Nat.le_of_ble_eq_true rfl)) dX8_read_5 ⟨show 0 + 0 ≤ 1 by omega, show 0 + 0 ≤ 6 by omega⟩) (wr := [(q 0, .inr (7, [.ref (q 1), .ref (q 3), .ref (q 5), .ref (q 6), .ref (q 12), .int wr]))]) hP hD hS hA [1, 2, 3, 4, 5, 6, 7, 8, 9, 10, 11, 12, 13, 14, 15, 16, 17, 18, 19] [0] rfl rfl (by decide) (by decide) (fun r_1 u H locs hw_1 hP hD hS => ?_)
  obtain ⟨ph2_1, bA2_1, lA2_1, fac2_1, pc2_1, ic2_1, nu2_1, ad2_1, fi2_1, co2_1, it2_1, st2_1, mk2_1, sc2_1, kc2_1, dp2_1, fo2_1, sl2_1, now2_1, kept2_1⟩ := u
  try dsimp only at hw_1
  obtain ⟨h_1, k_1, p_1, i_1, ⟨b1_1, b2_1, b3_1, b4_1⟩, P_1, F_1, O_1⟩ := hw_1
  have hP : va_P G vwCl [(q 0, .inr (7, [.ref (q 1), .ref (q 3), .ref (q 5), .ref (q 6), .ref (q 12), .int wr])), (q 12, .inr (5, [.ref (q 1), .ref (q 3), .ref (q 5), .ref (q 6), .ref (q 13), .ref (q 17), .int (nI ph2_1), .int (nI bA2_1), .int (nI lA2_1)])), (q 1, .inr (0, [.ref (q 2), .int (nI n)])), aI ci (q 2) 600 row, (q 3, .inr (6, [.ref (q 4)])), aI ci (q 4) 1024 wid, (q 5, .inr (3, [.double fac2_1])), (q 6, .inr (2, [.ref (q 7), .ref (q 8), .ref (q 9), .ref (q 10), .ref (q 11), .int (nI pc2_1), .int (nI ic2_1)])), aI ci (q 7) 12 nu2_1, aI ci (q 8) 12 ad2_1, aI ci (q 9) 12 fi2_1, aI ci (q 10) 12 co2_1, aI ci (q 11) 1400 it2_1, (q 13, .inr (1, [.ref (q 14), .ref (q 15), .ref (q 16)])), aI ci (q 14) 8 st2_1, aI ci (q 15) 8 mk2_1, aI ci (q 16) 8 sc2_1, (q 17, .inr (4, [.ref (q 5), .ref (q 18), .ref (q 19), .int (nI kc2_1), .int (nI dp2_1), .int fo2_1, .int sl2_1])), aI ci (q 18) 8 now2_1, aI ci (q 19) 160 kept2_1] H := hP
  have hD : va_D A [(q 0, .inr (7, [.ref (q 1), .ref (q 3), .ref (q 5), .ref (q 6), .ref (q 12), .int wr])), (q 12, .inr (5, [.ref (q 1), .ref (q 3), .ref (q 5), .ref (q 6), .ref (q 13), .ref (q 17), .int (nI ph2_1), .int (nI bA2_1), .int (nI lA2_1)])), (q 1, .inr (0, [.ref (q 2), .int (nI n)])), aI ci (q 2) 600 row, (q 3, .inr (6, [.ref (q 4)])), aI ci (q 4) 1024 wid, (q 5, .inr (3, [.double fac2_1])), (q 6, .inr (2, [.ref (q 7), .ref (q 8), .ref (q 9), .ref (q 10), .ref (q 11), .int (nI pc2_1), .int (nI ic2_1)])), aI ci (q 7) 12 nu2_1, aI ci (q 8) 12 ad2_1, aI ci (q 9) 12 fi2_1, aI ci (q 10) 12 co2_1, aI ci (q 11) 1400 it2_1, (q 13, .inr (1, [.ref (q 14), .ref (q 15), .ref (q 16)])), aI ci (q 14) 8 st2_1, aI ci (q 15) 8 mk2_1, aI ci (q 16) 8 sc2_1, (q 17, .inr (4, [.ref (q 5), .ref (q 18), .ref (q 19), .int (nI kc2_1), .int (nI dp2_1), .int fo2_1, .int sl2_1])), aI ci (q 18) 8 now2_1, aI ci (q 19) 160 kept2_1] := hD
  refine va_put (D := G) (ci := 7) (v := .int r_1) (ty := .int) (C := RX8) (T := TX8) (N := 6) hx hb hts hi_X8 tyX8 tyX8_ok nmX8 hown hK hP hD hS 0 rfl rfl 5 (by decide) f_46 (fun _ h9 => h9) rfl (by decide +kernel) rfl rfl (Nat.le_of_ble_eq_true rfl) dX8_read_8 (fun H locs hP hD hS => ?_)
  have hP : va_P G vwCl [(q 0, .inr (7, [.ref (q 1), .ref (q 3), .ref (q 5), .ref (q 6), .ref (q 12), .int r_1])), (q 12, .inr (5, [.ref (q 1), .ref (q 3), .ref (q 5), .ref (q 6), .ref (q 13), .ref (q 17), .int (nI ph2_1), .int (nI bA2_1), .int (nI lA2_1)])), (q 1, .inr (0, [.ref (q 2), .int (nI n)])), aI ci (q 2) 600 row, (q 3, .inr (6, [.ref (q 4)])), aI ci (q 4) 1024 wid, (q 5, .inr (3, [.double fac2_1])), (q 6, .inr (2, [.ref (q 7), .ref (q 8), .ref (q 9), .ref (q 10), .ref (q 11), .int (nI pc2_1), .int (nI ic2_1)])), aI ci (q 7) 12 nu2_1, aI ci (q 8) 12 ad2_1, aI ci (q 9) 12 fi2_1, aI ci (q 10) 12 co2_1, aI ci (q 11) 1400 it2_1, (q 13, .inr (1, [.ref (q 14), .ref (q 15), .ref (q 16)])), aI ci (q 14) 8 st2_1, aI ci (q 15) 8 mk2_1, aI ci (q 16) 8 sc2_1, (q 17, .inr (4, [.ref (q 5), .ref (q 18), .ref (q 19), .int (nI kc2_1), .int (nI dp2_1), .int fo2_1, .int sl2_1])), aI ci (q 18) 8 now2_1, aI ci (q 19) 160 kept2_1] H := hP
  have hD : va_D A [(q 0, .inr (7, [.ref (q 1), .ref (q 3), .ref (q 5), .ref (q 6), .ref (q 12), .int r_1])), (q 12, .inr (5, [.ref (q 1), .ref (q 3), .ref (q 5), .ref (q 6), .ref (q 13), .ref (q 17), .int (nI ph2_1), .int (nI bA2_1), .int (nI lA2_1)])), (q 1, .inr (0, [.ref (q 2), .int (nI n)])), aI ci (q 2) 600 row, (q 3, .inr (6, [.ref (q 4)])), aI ci (q 4) 1024 wid, (q 5, .inr (3, [.double fac2_1])), (q 6, .inr (2, [.ref (q 7), .ref (q 8), .ref (q 9), .ref (q 10), .ref (q 11), .int (nI pc2_1), .int (nI ic2_1)])), aI ci (q 7) 12 nu2_1, aI ci (q 8) 12 ad2_1, aI ci (q 9) 12 fi2_1, aI ci (q 10) 12 co2_1, aI ci (q 11) 1400 it2_1, (q 13, .inr (1, [.ref (q 14), .ref (q 15), .ref (q 16)])), aI ci (q 14) 8 st2_1, aI ci (q 15) 8 mk2_1, aI ci (q 16) 8 sc2_1, (q 17, .inr (4, [.ref (q 5), .ref (q 18), .ref (q 19), .int (nI kc2_1), .int (nI dp2_1), .int fo2_1, .int sl2_1])), aI ci (q 18) 8 now2_1, aI ci (q 19) 160 kept2_1] := hD
  refine lv_aload_n hx hb dX8_read_11 rfl (lv_at hl 0 rfl) ?_
  refine va_get (D := G) (ci := 7) (v := .int r_1) (C := RX8) (T := TX8) (N := 6) hx hb hts hi_X8 hown hK hP 0 rfl rfl 5 (by decide) f_46 (fun _ h9 => h9) rfl dX8_read_12 ?_
  refine lv_iconst (v := (-1)) hx hb dX8_read_15 (by decide) ?_
  refine lv_icmp_eq (tgt := 43) hx hb dX8_read_16 (by decide) (fun c_2 => ?_) (fun c_2 => ?_)
  · skip
    refine lv_aload_n hx hb dX8_read_43 rfl (lv_at hl 0 rfl) ?_
    refine va_get (D := G) (ci := 7) (v := .ref (q 6)) (C := RX8) (T := TX8) (N := 6) hx hb hts hi_X8 hown hK hP 0 rfl rfl 3 (by decide) f_33 (fun _ h9 => h9) rfl dX8_read_44 ?_
    refine jI (va_runV (As := []) (rest := []) ⟨hx, hb, hml, hown, hts⟩ (c_X3_count l G ci cz cl q H.size pc2_1 ic2_1 nu2_1 ad2_1 fi2_1 co2_1 it2_1 ) (cwV 0 hts gX8_read_X3_count rfl rfl rfl (by decide +kernel) ⟨(Nat.le_of_ble_eq_true rfl), (Nat.le_of_ble_eq_true rfl)⟩) (pV (wc := [(q 6, .inr (2, [.ref (q 7), .ref (q 8), .ref (q 9), .ref (q 10), .ref (q 11), .int (nI pc2_1), .int (nI ic2_1)])), aI ci (q 7) 12 nu2_1, aI ci (q 8) 12 ad2_1, aI ci (q 9) 12 fi2_1, aI ci (q 10) 12 co2_1, aI ci (q 11) 1400 it2_1]) ok0 hK hP hD hS hA trivial [7, 8, 9, 10, 11, 12] rfl (by decide) 7 rfl rfl) rfl rfl hl.1 rfl (lv_room (Nat.le_of_ble_eq_true rfl)) dX8_read_47 ⟨show 0 + 0 ≤ 1 by omega, show 0 + 0 ≤ 6 by omega⟩) (wr := [(q 0, .inr (7, [.ref (q 1), .ref (q 3), .ref (q 5), .ref (q 6), .ref (q 12), .int r_1])), (q 12, .inr (5, [.ref (q 1), .ref (q 3), .ref (q 5), .ref (q 6), .ref (q 13), .ref (q 17), .int (nI ph2_1), .int (nI bA2_1), .int (nI lA2_1)])), (q 1, .inr (0, [.ref (q 2), .int (nI n)])), aI ci (q 2) 600 row, (q 3, .inr (6, [.ref (q 4)])), aI ci (q 4) 1024 wid, (q 5, .inr (3, [.double fac2_1])), (q 13, .inr (1, [.ref (q 14), .ref (q 15), .ref (q 16)])), aI ci (q 14) 8 st2_1, aI ci (q 15) 8 mk2_1, aI ci (q 16) 8 sc2_1, (q 17, .inr (4, [.ref (q 5), .ref (q 18), .ref (q 19), .int (nI kc2_1), .int (nI dp2_1), .int fo2_1, .int sl2_1])), aI ci (q 18) 8 now2_1, aI ci (q 19) 160 kept2_1]) hP hD hS hA [7, 8, 9, 10, 11, 12] [0, 1, 2, 3, 4, 5, 6, 13, 14, 15, 16, 17, 18, 19] rfl rfl (by decide) (by decide) (fun r_3 u H locs hw_3 hP hD hS => ?_)
    try dsimp only at hw_3
    subst r_3
    have hP : va_P G vwCl [(q 0, .inr (7, [.ref (q 1), .ref (q 3), .ref (q 5), .ref (q 6), .ref (q 12), .int r_1])), (q 12, .inr (5, [.ref (q 1), .ref (q 3), .ref (q 5), .ref (q 6), .ref (q 13), .ref (q 17), .int (nI ph2_1), .int (nI bA2_1), .int (nI lA2_1)])), (q 1, .inr (0, [.ref (q 2), .int (nI n)])), aI ci (q 2) 600 row, (q 3, .inr (6, [.ref (q 4)])), aI ci (q 4) 1024 wid, (q 5, .inr (3, [.double fac2_1])), (q 13, .inr (1, [.ref (q 14), .ref (q 15), .ref (q 16)])), aI ci (q 14) 8 st2_1, aI ci (q 15) 8 mk2_1, aI ci (q 16) 8 sc2_1, (q 17, .inr (4, [.ref (q 5), .ref (q 18), .ref (q 19), .int (nI kc2_1), .int (nI dp2_1), .int fo2_1, .int sl2_1])), aI ci (q 18) 8 now2_1, aI ci (q 19) 160 kept2_1, (q 6, .inr (2, [.ref (q 7), .ref (q 8), .ref (q 9), .ref (q 10), .ref (q 11), .int (nI pc2_1), .int (nI ic2_1)])), aI ci (q 7) 12 nu2_1, aI ci (q 8) 12 ad2_1, aI ci (q 9) 12 fi2_1, aI ci (q 10) 12 co2_1, aI ci (q 11) 1400 it2_1] H := hP
    have hD : va_D A [(q 0, .inr (7, [.ref (q 1), .ref (q 3), .ref (q 5), .ref (q 6), .ref (q 12), .int r_1])), (q 12, .inr (5, [.ref (q 1), .ref (q 3), .ref (q 5), .ref (q 6), .ref (q 13), .ref (q 17), .int (nI ph2_1), .int (nI bA2_1), .int (nI lA2_1)])), (q 1, .inr (0, [.ref (q 2), .int (nI n)])), aI ci (q 2) 600 row, (q 3, .inr (6, [.ref (q 4)])), aI ci (q 4) 1024 wid, (q 5, .inr (3, [.double fac2_1])), (q 13, .inr (1, [.ref (q 14), .ref (q 15), .ref (q 16)])), aI ci (q 14) 8 st2_1, aI ci (q 15) 8 mk2_1, aI ci (q 16) 8 sc2_1, (q 17, .inr (4, [.ref (q 5), .ref (q 18), .ref (q 19), .int (nI kc2_1), .int (nI dp2_1), .int fo2_1, .int sl2_1])), aI ci (q 18) 8 now2_1, aI ci (q 19) 160 kept2_1, (q 6, .inr (2, [.ref (q 7), .ref (q 8), .ref (q 9), .ref (q 10), .ref (q 11), .int (nI pc2_1), .int (nI ic2_1)])), aI ci (q 7) 12 nu2_1, aI ci (q 8) 12 ad2_1, aI ci (q 9) 12 fi2_1, aI ci (q 10) 12 co2_1, aI ci (q 11) 1400 it2_1] := hD
    refine W.widen (k := 1) (n := 6) (by omega) (by omega) ?_
    refine vx_ret ?_
    exact rI (v := nI pc2_1) hx hb hr hlocks rfl hK hP hD hS [0, 1, 2, 3, 4, 5, 6, 14, 15, 16, 17, 18, 19, 7, 8, 9, 10, 11, 12, 13] (r_1, ph2_1, bA2_1, lA2_1, fac2_1, pc2_1, ic2_1, nu2_1, ad2_1, fi2_1, co2_1, it2_1, st2_1, mk2_1, sc2_1, kc2_1, dp2_1, fo2_1, sl2_1, now2_1, kept2_1) rfl (by decide) ⟨by assumption, rfl, FW_good hn h_1 (by assumption), by (try dsimp only); omega, by (try dsimp only); omega, by assumption, by assumption⟩ dX8_read_50
  · skip
    refine lv_aload_n hx hb dX8_read_19 rfl (lv_at hl 0 rfl) ?_
    refine va_get (D := G) (ci := 7) (v := .ref (q 6)) (C := RX8) (T := TX8) (N := 6) hx hb hts hi_X8 hown hK hP 0 rfl rfl 3 (by decide) f_33 (fun _ h9 => h9) rfl dX8_read_20 ?_
    refine jV (va_runV (As := []) (rest := []) ⟨hx, hb, hml, hown, hts⟩ (c_X3_clear l G ci cz cl q H.size pc2_1 ic2_1 nu2_1 ad2_1 fi2_1 co2_1 it2_1 ) (cwV 0 hts gX8_read_X3_clear rfl rfl rfl (by decide +kernel) ⟨(Nat.le_of_ble_eq_true rfl), (Nat.le_of_ble_eq_true rfl)⟩) (pV (wc := [(q 6, .inr (2, [.ref (q 7), .ref (q 8), .ref (q 9), .ref (q 10), .ref (q 11), .int (nI pc2_1), .int (nI ic2_1)])), aI ci (q 7) 12 nu2_1, aI ci (q 8) 12 ad2_1, aI ci (q 9) 12 fi2_1, aI ci (q 10) 12 co2_1, aI ci (q 11) 1400 it2_1]) ok0 hK hP hD hS hA trivial [7, 8, 9, 10, 11, 12] rfl (by decide) 7 rfl rfl) rfl rfl hl.1 rfl (lv_room (Nat.le_of_ble_eq_true rfl)) dX8_read_23 ⟨show 0 + 0 ≤ 1 by omega, show 0 + 0 ≤ 6 by omega⟩) (wr := [(q 0, .inr (7, [.ref (q 1), .ref (q 3), .ref (q 5), .ref (q 6), .ref (q 12), .int r_1])), (q 12, .inr (5, [.ref (q 1), .ref (q 3), .ref (q 5), .ref (q 6), .ref (q 13), .ref (q 17), .int (nI ph2_1), .int (nI bA2_1), .int (nI lA2_1)])), (q 1, .inr (0, [.ref (q 2), .int (nI n)])), aI ci (q 2) 600 row, (q 3, .inr (6, [.ref (q 4)])), aI ci (q 4) 1024 wid, (q 5, .inr (3, [.double fac2_1])), (q 13, .inr (1, [.ref (q 14), .ref (q 15), .ref (q 16)])), aI ci (q 14) 8 st2_1, aI ci (q 15) 8 mk2_1, aI ci (q 16) 8 sc2_1, (q 17, .inr (4, [.ref (q 5), .ref (q 18), .ref (q 19), .int (nI kc2_1), .int (nI dp2_1), .int fo2_1, .int sl2_1])), aI ci (q 18) 8 now2_1, aI ci (q 19) 160 kept2_1]) hP hD hS hA [7, 8, 9, 10, 11, 12] [0, 1, 2, 3, 4, 5, 6, 13, 14, 15, 16, 17, 18, 19] rfl rfl (by decide) (by decide) (fun u H locs hw_4 hP hD hS => ?_)
    try dsimp only at hw_4
    have hP : va_P G vwCl [(q 0, .inr (7, [.ref (q 1), .ref (q 3), .ref (q 5), .ref (q 6), .ref (q 12), .int r_1])), (q 12, .inr (5, [.ref (q 1), .ref (q 3), .ref (q 5), .ref (q 6), .ref (q 13), .ref (q 17), .int (nI ph2_1), .int (nI bA2_1), .int (nI lA2_1)])), (q 1, .inr (0, [.ref (q 2), .int (nI n)])), aI ci (q 2) 600 row, (q 3, .inr (6, [.ref (q 4)])), aI ci (q 4) 1024 wid, (q 5, .inr (3, [.double fac2_1])), (q 13, .inr (1, [.ref (q 14), .ref (q 15), .ref (q 16)])), aI ci (q 14) 8 st2_1, aI ci (q 15) 8 mk2_1, aI ci (q 16) 8 sc2_1, (q 17, .inr (4, [.ref (q 5), .ref (q 18), .ref (q 19), .int (nI kc2_1), .int (nI dp2_1), .int fo2_1, .int sl2_1])), aI ci (q 18) 8 now2_1, aI ci (q 19) 160 kept2_1, (q 6, .inr (2, [.ref (q 7), .ref (q 8), .ref (q 9), .ref (q 10), .ref (q 11), .int (nI 0), .int (nI 0)])), aI ci (q 7) 12 nu2_1, aI ci (q 8) 12 ad2_1, aI ci (q 9) 12 fi2_1, aI ci (q 10) 12 co2_1, aI ci (q 11) 1400 it2_1] H := hP
    have hD : va_D A [(q 0, .inr (7, [.ref (q 1), .ref (q 3), .ref (q 5), .ref (q 6), .ref (q 12), .int r_1])), (q 12, .inr (5, [.ref (q 1), .ref (q 3), .ref (q 5), .ref (q 6), .ref (q 13), .ref (q 17), .int (nI ph2_1), .int (nI bA2_1), .int (nI lA2_1)])), (q 1, .inr (0, [.ref (q 2), .int (nI n)])), aI ci (q 2) 600 row, (q 3, .inr (6, [.ref (q 4)])), aI ci (q 4) 1024 wid, (q 5, .inr (3, [.double fac2_1])), (q 13, .inr (1, [.ref (q 14), .ref (q 15), .ref (q 16)])), aI ci (q 14) 8 st2_1, aI ci (q 15) 8 mk2_1, aI ci (q 16) 8 sc2_1, (q 17, .inr (4, [.ref (q 5), .ref (q 18), .ref (q 19), .int (nI kc2_1), .int (nI dp2_1), .int fo2_1, .int sl2_1])), aI ci (q 18) 8 now2_1, aI ci (q 19) 160 kept2_1, (q 6, .inr (2, [.ref (q 7), .ref (q 8), .ref (q 9), .ref (q 10), .ref (q 11), .int (nI 0), .int (nI 0)])), aI ci (q 7) 12 nu2_1, aI ci (q 8) 12 ad2_1, aI ci (q 9) 12 fi2_1, aI ci (q 10) 12 co2_1, aI ci (q 11) 1400 it2_1] := hD
    refine lv_aload_n hx hb dX8_read_26 rfl (lv_at hl 0 rfl) ?_
    refine va_get (D := G) (ci := 7) (v := .ref (q 5)) (C := RX8) (T := TX8) (N := 6) hx hb hts hi_X8 hown hK hP 0 rfl rfl 2 (by decide) f_26 (fun _ h9 => h9) rfl dX8_read_27 ?_
    refine jV (va_runV (As := []) (rest := []) ⟨hx, hb, hml, hown, hts⟩ (c_X4_clear l G ci cz cl q H.size fac2_1 ) (cwV 0 hts gX8_read_X4_clear rfl rfl rfl (by decide +kernel) ⟨(Nat.le_of_ble_eq_true rfl), (Nat.le_of_ble_eq_true rfl)⟩) (pV (wc := [(q 5, .inr (3, [.double fac2_1]))]) ok0 hK hP hD hS hA trivial [6] rfl (by decide) 6 rfl rfl) rfl rfl hl.1 rfl (lv_room (Nat.le_of_ble_eq_true rfl)) dX8_read_30 ⟨show 0 + 0 ≤ 1 by omega, show 0 + 0 ≤ 6 by omega⟩) (wr := [(q 0, .inr (7, [.ref (q 1), .ref (q 3), .ref (q 5), .ref (q 6), .ref (q 12), .int r_1])), (q 12, .inr (5, [.ref (q 1), .ref (q 3), .ref (q 5), .ref (q 6), .ref (q 13), .ref (q 17), .int (nI ph2_1), .int (nI bA2_1), .int (nI lA2_1)])), (q 1, .inr (0, [.ref (q 2), .int (nI n)])), aI ci (q 2) 600 row, (q 3, .inr (6, [.ref (q 4)])), aI ci (q 4) 1024 wid, (q 13, .inr (1, [.ref (q 14), .ref (q 15), .ref (q 16)])), aI ci (q 14) 8 st2_1, aI ci (q 15) 8 mk2_1, aI ci (q 16) 8 sc2_1, (q 17, .inr (4, [.ref (q 5), .ref (q 18), .ref (q 19), .int (nI kc2_1), .int (nI dp2_1), .int fo2_1, .int sl2_1])), aI ci (q 18) 8 now2_1, aI ci (q 19) 160 kept2_1, (q 6, .inr (2, [.ref (q 7), .ref (q 8), .ref (q 9), .ref (q 10), .ref (q 11), .int (nI 0), .int (nI 0)])), aI ci (q 7) 12 nu2_1, aI ci (q 8) 12 ad2_1, aI ci (q 9) 12 fi2_1, aI ci (q 10) 12 co2_1, aI ci (q 11) 1400 it2_1]) hP hD hS hA [6] [0, 1, 2, 3, 4, 5, 7, 8, 9, 10, 11, 12, 13, 14, 15, 16, 17, 18, 19] rfl rfl (by decide) (by decide) (fun u H locs hw_5 hP hD hS => ?_)
    try dsimp only at hw_5
    have hP : va_P G vwCl [(q 0, .inr (7, [.ref (q 1), .ref (q 3), .ref (q 5), .ref (q 6), .ref (q 12), .int r_1])), (q 12, .inr (5, [.ref (q 1), .ref (q 3), .ref (q 5), .ref (q 6), .ref (q 13), .ref (q 17), .int (nI ph2_1), .int (nI bA2_1), .int (nI lA2_1)])), (q 1, .inr (0, [.ref (q 2), .int (nI n)])), aI ci (q 2) 600 row, (q 3, .inr (6, [.ref (q 4)])), aI ci (q 4) 1024 wid, (q 13, .inr (1, [.ref (q 14), .ref (q 15), .ref (q 16)])), aI ci (q 14) 8 st2_1, aI ci (q 15) 8 mk2_1, aI ci (q 16) 8 sc2_1, (q 17, .inr (4, [.ref (q 5), .ref (q 18), .ref (q 19), .int (nI kc2_1), .int (nI dp2_1), .int fo2_1, .int sl2_1])), aI ci (q 18) 8 now2_1, aI ci (q 19) 160 kept2_1, (q 6, .inr (2, [.ref (q 7), .ref (q 8), .ref (q 9), .ref (q 10), .ref (q 11), .int (nI 0), .int (nI 0)])), aI ci (q 7) 12 nu2_1, aI ci (q 8) 12 ad2_1, aI ci (q 9) 12 fi2_1, aI ci (q 10) 12 co2_1, aI ci (q 11) 1400 it2_1, (q 5, .inr (3, [.double FP.dconst0]))] H := hP
    have hD : va_D A [(q 0, .inr (7, [.ref (q 1), .ref (q 3), .ref (q 5), .ref (q 6), .ref (q 12), .int r_1])), (q 12, .inr (5, [.ref (q 1), .ref (q 3), .ref (q 5), .ref (q 6), .ref (q 13), .ref (q 17), .int (nI ph2_1), .int (nI bA2_1), .int (nI lA2_1)])), (q 1, .inr (0, [.ref (q 2), .int (nI n)])), aI ci (q 2) 600 row, (q 3, .inr (6, [.ref (q 4)])), aI ci (q 4) 1024 wid, (q 13, .inr (1, [.ref (q 14), .ref (q 15), .ref (q 16)])), aI ci (q 14) 8 st2_1, aI ci (q 15) 8 mk2_1, aI ci (q 16) 8 sc2_1, (q 17, .inr (4, [.ref (q 5), .ref (q 18), .ref (q 19), .int (nI kc2_1), .int (nI dp2_1), .int fo2_1, .int sl2_1])), aI ci (q 18) 8 now2_1, aI ci (q 19) 160 kept2_1, (q 6, .inr (2, [.ref (q 7), .ref (q 8), .ref (q 9), .ref (q 10), .ref (q 11), .int (nI 0), .int (nI 0)])), aI ci (q 7) 12 nu2_1, aI ci (q 8) 12 ad2_1, aI ci (q 9) 12 fi2_1, aI ci (q 10) 12 co2_1, aI ci (q 11) 1400 it2_1, (q 5, .inr (3, [.double FP.dconst0]))] := hD
    exact thr (cls := sUOE) hx hb hl0 hown (by decide) (hts (.classLink RX8 87 sUOE) (by decide +kernel)) (hts (.initialized sUOE) (by decide +kernel)) s4 (fun w h => hts w (List.mem_cons_of_mem _ (List.mem_append_right _ h))) (by decide +kernel) k3 d1 d2 d3 (by decide +kernel) hU hN hS (by rw [hml]; exact hl.1) dX8_read_33 dX8_read_36 dX8_read_37 dX8_read_39 dX8_read_42 (fun x hx => (hnt x hx).elim) (Nat.le_of_ble_eq_true rfl) (Nat.le_of_ble_eq_true rfl) (Nat.le_of_ble_eq_true rfl) (Nat.le_of_ble_eq_true rfl) hlocks hK hP hD [0, 1, 2, 3, 4, 5, 19, 13, 14, 15, 16, 17, 18, 6, 7, 8, 9, 10, 11, 12] (r_1, ph2_1, bA2_1, lA2_1, FP.dconst0, 0, 0, nu2_1, ad2_1, fi2_1, co2_1, it2_1, st2_1, mk2_1, sc2_1, kc2_1, dp2_1, fo2_1, sl2_1, now2_1, kept2_1) rfl (by decide) ⟨rfl, rfl, rfl, rfl, FW_bad h_1 (by assumption), PI_0, fn_0⟩ (Nat.le_of_ble_eq_true rfl) (Nat.le_of_ble_eq_true rfl)
