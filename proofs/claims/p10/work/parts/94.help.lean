set_option maxHeartbeats 4000000 in
set_option maxRecDepth 100000 in
theorem c_L_add (l : Launch) (G : va_G) (ci cz cl : ClassId) (q : Nat → Nat) (sz : Nat) (tb : Nat) (o : Nat) (bl : Int64) (x : Int32) (wr : Int32) (n : Nat) (row : Nat → Int32) (ov : Nat → Int64) (hl0 : l.stackTraces = false) (hn : n ≤ 600) : CtI l yL_add wsL_add ({ frames := 7, cells := 1, slots := 6, locals := 113 }) G (TY ci cz cl) (OX tb) [.ref (q 0), .long bl, .int x, .ref o] [(q 0, .inr (7, [.ref (q 1), .ref (q 3), .ref (q 5), .ref (q 6), .ref (q 12), .int wr])), (q 1, .inr (0, [.ref (q 2), .int (nI n)])), aI ci (q 2) 600 row, aL cl o 1 ov] sz (fun (r : Int32) (u : Nat × (Nat → Int32) × (Nat → Int64)) => (∃ k : Nat, x = nI k ∧ 1 ≤ k ∧ k ≤ 8 ∧ n + k ≤ 600 ∧ u.1 = n + k ∧ u.2.1 = bApp row n bl k ∧ r = nI 0 ∧ u.2.2 0 = (nI u.1).toInt64) ∨ ((x.toInt < 1 ∨ 8 < x.toInt) ∧ u.1 = n ∧ u.2.1 = row ∧ r = nI 1) ∨ (∃ k : Nat, x = nI k ∧ 1 ≤ k ∧ k ≤ 8 ∧ 600 < n + k ∧ u.1 = n ∧ u.2.1 = row ∧ r = nI 2)) (fun u : Nat × (Nat → Int32) × (Nat → Int64) => [(q 0, .inr (7, [.ref (q 1), .ref (q 3), .ref (q 5), .ref (q 6), .ref (q 12), .int wr])), (q 1, .inr (0, [.ref (q 2), .int (nI u.1)])), aI ci (q 2) 600 u.2.1, aL cl o 1 u.2.2]) 1 6 := by
  refine va_MetW (cc := cL_add) (maxL := 6) (ret := (some .int)) (by decide) rfl ?_
  intro p e s m args below meth c s₁ B hml hv
  obtain ⟨rfl, ⟨hsz, hP, hK, hD0⟩, hO⟩ := hv
  have hx := B.exec
  have hb := B.bytes
  have hr := B.returns
  have hts := atoms_spec (ws := wsL_add) B.pre
  have hown : s.vm.findClass RL = some m.cls := findClass_of_methodNamed B.named
  have hlocks := B.notSynchronized
  have hxt := vx_table (x := yL_add) B (hts _ List.mem_cons_self)
  subst hsz
  have hD := hD0.self (sz := s.heap.size)
  generalize hAe : va_A [(q 0, .inr (7, [.ref (q 1), .ref (q 3), .ref (q 5), .ref (q 6), .ref (q 12), .int wr])), (q 1, .inr (0, [.ref (q 2), .int (nI n)])), aI ci (q 2) 600 row, aL cl o 1 ov] s.heap.size = A at hD hO ⊢
  have hA : ∀ q : Nat, s.heap.size ≤ q → A q := fun q h => by rw [← hAe]; exact Or.inr h
  have ok := (okX tb)
  refine startH (A := A) (fun H locs hP hS => ?_) hP
  have hl := lv_entry ([.ref (q 0), .long bl, .int x, .ref o]) (n := 6) (Nat.le_of_ble_eq_true rfl)
  rw [lg_entry_eq]
  generalize (lg_sl ([.ref (q 0), .long bl, .int x, .ref o]) ++ List.replicate (6 - (lg_sl ([.ref (q 0), .long bl, .int x, .ref o])).length) Slot.unset).toArray = ls at hl ⊢
  have hl : lv_has ls 6 [(0, .ref (q 0)), (1, .long bl), (3, .int x), (4, .ref o)] := hl
  obtain ⟨hOB, ⟨hU, hN⟩, ⟨k1, k2, k3, k4, k5⟩, ⟨d1, d2, d3⟩, ⟨a1, s1⟩, ⟨a2, s2⟩, ⟨a3, s3⟩, ⟨a4, s4⟩, ⟨a5, s5⟩, ⟨a6, s6⟩⟩ := id hO
  refine lv_aload hx hb dL_add_0 (lv_at hl 3 rfl) ?_
  refine lv_iconst (v := nI 0) hx hb dL_add_2 (by decide) ?_
  refine lv_aload_n hx hb dL_add_3 rfl (lv_at hl 0 rfl) ?_
  refine lv_lload_n hx hb dL_add_4 rfl (lv_at hl 1 rfl) ?_
  refine lv_iload_n hx hb dL_add_5 rfl (lv_at hl 2 rfl) ?_
  refine jX (vx_runV (As := [.long bl, .int x]) (rest := [.int (nI 0), .ref o]) ⟨hx, hb, hml, hown, hts⟩ (c_X8_add l G ci cz cl q H.size tb bl x wr n row hl0 (by omega)) (cwV 2 hts gL_add_X8_add rfl rfl rfl (by decide +kernel) ⟨(Nat.le_of_ble_eq_true rfl), (Nat.le_of_ble_eq_true rfl)⟩) (pV (wc := [(q 0, .inr (7, [.ref (q 1), .ref (q 3), .ref (q 5), .ref (q 6), .ref (q 12), .int wr])), (q 1, .inr (0, [.ref (q 2), .int (nI n)])), aI ci (q 2) 600 row]) ok hK hP hD hS hA hO [0, 1, 2] rfl (by decide) 0 rfl rfl) rfl rfl hl.1 rfl (lv_room (Nat.le_of_ble_eq_true rfl)) dL_add_6 ⟨show 0 + 1 ≤ 1 by omega, show 0 + 6 ≤ 6 by omega⟩) (wr := [aL cl o 1 ov]) hP hD hS hA [0, 1, 2] [3] rfl rfl (by decide) (by decide) (fun E ce q9 u H locs hw_1 hP hD hS hce hcv hcl => ?_) (fun r_1 u H locs hw_1 hP hD hS => ?_)
  · skip
    obtain ⟨n2_1, row2_1⟩ := u
    try dsimp only at hw_1
    have hP : va_P G vwCl [aL cl o 1 ov, (q 0, .inr (7, [.ref (q 1), .ref (q 3), .ref (q 5), .ref (q 6), .ref (q 12), .int wr])), (q 1, .inr (0, [.ref (q 2), .int (nI n2_1)])), aI ci (q 2) 600 row2_1] H := hP
    have hD : va_D A [aL cl o 1 ov, (q 0, .inr (7, [.ref (q 1), .ref (q 3), .ref (q 5), .ref (q 6), .ref (q 12), .int wr])), (q 1, .inr (0, [.ref (q 2), .int (nI n2_1)])), aI ci (q 2) 600 row2_1] := hD
    rcases hw_1 with ⟨rfl, e_1, f_1, g_1⟩ | ⟨rfl, ⟨kk_1, e_1, ea_1, eb_1, ec_1⟩, f_1, g_1⟩
    · skip
      refine vx_widen (k := 1) (n := 6) (by omega) (by omega) ?_
      refine vx_catch (name := sIAE) hown [] ⟨0, 11, 14, 13⟩ [⟨0, 11, 18, 15⟩] hxt (fun z hz => by cases hz) (by decide) (by decide) (hts (.classLink RL 13 sIAE) (by decide +kernel)) (va_Nw.use rfl k1) hce hcv hcl ?_
      refine lv_astore (lv' := [(5, .ref q9), (0, .ref (q 0)), (1, .long bl), (3, .int x), (4, .ref o)]) hx hb dL_add_14 hl (by decide) rfl (fun ls hl => ?_)
      refine lv_iconst (v := nI 1) hx hb dL_add_16 (by decide) ?_
      exact rI (v := nI 1) hx hb hr hlocks rfl hK hP hD hS [1, 2, 3, 0] (n2_1, row2_1, ov) rfl (by decide) (Or.inr (Or.inl ⟨e_1, f_1, g_1, rfl⟩)) dL_add_17
    · skip
      refine vx_widen (k := 1) (n := 6) (by omega) (by omega) ?_
      refine vx_catch (name := sISE) hown [⟨0, 11, 14, 13⟩] ⟨0, 11, 18, 15⟩ [] hxt (fun z hz => by rcases List.mem_singleton.mp hz with rfl; exact Or.inr ⟨by decide, sIAE, hts (.classLink RL 13 sIAE) (by decide +kernel), k5⟩) (by decide) (by decide) (hts (.classLink RL 15 sISE) (by decide +kernel)) (va_Nw.use rfl k2) hce hcv hcl ?_
      refine lv_astore (lv' := [(5, .ref q9), (0, .ref (q 0)), (1, .long bl), (3, .int x), (4, .ref o)]) hx hb dL_add_18 hl (by decide) rfl (fun ls hl => ?_)
      refine lv_iconst (v := nI 2) hx hb dL_add_20 (by decide) ?_
      exact rI (v := nI 2) hx hb hr hlocks rfl hK hP hD hS [1, 2, 3, 0] (n2_1, row2_1, ov) rfl (by decide) (Or.inr (Or.inr ⟨kk_1, e_1, ea_1, eb_1, ec_1, f_1, g_1, rfl⟩)) dL_add_21
  · skip
    obtain ⟨n2_1, row2_1⟩ := u
    try dsimp only at hw_1
    obtain ⟨kk_1, e_1, f_1, g_1, h_1, i_1, j_1, rfl⟩ := hw_1
    have hP : va_P G vwCl [aL cl o 1 ov, (q 0, .inr (7, [.ref (q 1), .ref (q 3), .ref (q 5), .ref (q 6), .ref (q 12), .int wr])), (q 1, .inr (0, [.ref (q 2), .int (nI n2_1)])), aI ci (q 2) 600 row2_1] H := hP
    have hD : va_D A [aL cl o 1 ov, (q 0, .inr (7, [.ref (q 1), .ref (q 3), .ref (q 5), .ref (q 6), .ref (q 12), .int wr])), (q 1, .inr (0, [.ref (q 2), .int (nI n2_1)])), aI ci (q 2) 600 row2_1] := hD
    refine W.widen (k := 1) (n := 6) (by omega) (by omega) ?_
    refine lv_i2l hx hb dL_add_9 rfl ?_
    refine va_last hx hb hK hP hD hS 0 2 rfl rfl (vp_in_nI (by omega) (by omega)) dL_add_10 (fun H locs hP hD hS => ?_)
    rw [nI_clamp (by omega)] at hP hD
    have hP : va_P G vwCl [aL cl o 1 (vp_updL ov 0 ((nI n2_1).toInt64)), (q 0, .inr (7, [.ref (q 1), .ref (q 3), .ref (q 5), .ref (q 6), .ref (q 12), .int wr])), (q 1, .inr (0, [.ref (q 2), .int (nI n2_1)])), aI ci (q 2) 600 row2_1] H := hP
    have hD : va_D A [aL cl o 1 (vp_updL ov 0 ((nI n2_1).toInt64)), (q 0, .inr (7, [.ref (q 1), .ref (q 3), .ref (q 5), .ref (q 6), .ref (q 12), .int wr])), (q 1, .inr (0, [.ref (q 2), .int (nI n2_1)])), aI ci (q 2) 600 row2_1] := hD
    refine lv_goto (tgt := 22) hx hb dL_add_11 (by decide) ?_
    refine lv_iconst (v := nI 0) hx hb dL_add_22 (by decide) ?_
    exact rI (v := nI 0) hx hb hr hlocks rfl hK hP hD hS [1, 2, 3, 0] (n2_1, row2_1, vp_updL ov 0 ((nI n2_1).toInt64)) rfl (by decide) (Or.inl ⟨kk_1, e_1, f_1, g_1, h_1, i_1, j_1, rfl, (by dsimp only; exact pk_uLs)⟩) dL_add_23
set_option maxHeartbeats 4000000 in
set_option maxRecDepth 100000 in
theorem c_L_cut (l : Launch) (G : va_G) (ci cz cl : ClassId) (q : Nat → Nat) (sz : Nat) (tb : Nat) (o : Nat) (x : Int32) (wr : Int32) (n : Nat) (row : Nat → Int32) (ov : Nat → Int64) (hl0 : l.stackTraces = false) (hn : n ≤ 600) : CtI l yL_cut wsL_cut ({ frames := 7, cells := 1, slots := 6, locals := 111 }) G (TY ci cz cl) (OX tb) [.ref (q 0), .int x, .ref o] [(q 0, .inr (7, [.ref (q 1), .ref (q 3), .ref (q 5), .ref (q 6), .ref (q 12), .int wr])), (q 1, .inr (0, [.ref (q 2), .int (nI n)])), aI ci (q 2) 600 row, aL cl o 1 ov] sz (fun (r : Int32) (u : Nat × (Nat → Int64)) => (∃ k : Nat, x = nI k ∧ k ≤ n ∧ u.1 = n - k ∧ r = nI 0 ∧ u.2 0 = (nI u.1).toInt64) ∨ (¬ (0 ≤ x.toInt ∧ x.toInt ≤ n) ∧ u.1 = n ∧ r = nI 1)) (fun u : Nat × (Nat → Int64) => [(q 0, .inr (7, [.ref (q 1), .ref (q 3), .ref (q 5), .ref (q 6), .ref (q 12), .int wr])), (q 1, .inr (0, [.ref (q 2), .int (nI u.1)])), aI ci (q 2) 600 row, aL cl o 1 u.2]) 1 6 := by
  refine va_MetW (cc := cL_cut) (maxL := 4) (ret := (some .int)) (by decide) rfl ?_
  intro p e s m args below meth c s₁ B hml hv
  obtain ⟨rfl, ⟨hsz, hP, hK, hD0⟩, hO⟩ := hv
  have hx := B.exec
  have hb := B.bytes
  have hr := B.returns
  have hts := atoms_spec (ws := wsL_cut) B.pre
  have hown : s.vm.findClass RL = some m.cls := findClass_of_methodNamed B.named
  have hlocks := B.notSynchronized
  have hxt := vx_table (x := yL_cut) B (hts _ List.mem_cons_self)
  subst hsz
  have hD := hD0.self (sz := s.heap.size)
  generalize hAe : va_A [(q 0, .inr (7, [.ref (q 1), .ref (q 3), .ref (q 5), .ref (q 6), .ref (q 12), .int wr])), (q 1, .inr (0, [.ref (q 2), .int (nI n)])), aI ci (q 2) 600 row, aL cl o 1 ov] s.heap.size = A at hD hO ⊢
  have hA : ∀ q : Nat, s.heap.size ≤ q → A q := fun q h => by rw [← hAe]; exact Or.inr h
  have ok := (okX tb)
  refine startH (A := A) (fun H locs hP hS => ?_) hP
  have hl := lv_entry ([.ref (q 0), .int x, .ref o]) (n := 4) (Nat.le_of_ble_eq_true rfl)
  rw [lg_entry_eq]
  generalize (lg_sl ([.ref (q 0), .int x, .ref o]) ++ List.replicate (4 - (lg_sl ([.ref (q 0), .int x, .ref o])).length) Slot.unset).toArray = ls at hl ⊢
  have hl : lv_has ls 4 [(0, .ref (q 0)), (1, .int x), (2, .ref o)] := hl
  obtain ⟨hOB, ⟨hU, hN⟩, ⟨k1, k2, k3, k4, k5⟩, ⟨d1, d2, d3⟩, ⟨a1, s1⟩, ⟨a2, s2⟩, ⟨a3, s3⟩, ⟨a4, s4⟩, ⟨a5, s5⟩, ⟨a6, s6⟩⟩ := id hO
  refine lv_aload_n hx hb dL_cut_0 rfl (lv_at hl 2 rfl) ?_
  refine lv_iconst (v := nI 0) hx hb dL_cut_1 (by decide) ?_
  refine lv_aload_n hx hb dL_cut_2 rfl (lv_at hl 0 rfl) ?_
  refine lv_iload_n hx hb dL_cut_3 rfl (lv_at hl 1 rfl) ?_
  refine jX (vx_runV (As := [.int x]) (rest := [.int (nI 0), .ref o]) ⟨hx, hb, hml, hown, hts⟩ (c_X8_cut l G ci cz cl q H.size tb x wr n row hl0 (by omega)) (cwV 1 hts gL_cut_X8_cut rfl rfl rfl (by decide +kernel) ⟨(Nat.le_of_ble_eq_true rfl), (Nat.le_of_ble_eq_true rfl)⟩) (pV (wc := [(q 0, .inr (7, [.ref (q 1), .ref (q 3), .ref (q 5), .ref (q 6), .ref (q 12), .int wr])), (q 1, .inr (0, [.ref (q 2), .int (nI n)])), aI ci (q 2) 600 row]) ok hK hP hD hS hA hO [0, 1, 2] rfl (by decide) 0 rfl rfl) rfl rfl hl.1 rfl (lv_room (Nat.le_of_ble_eq_true rfl)) dL_cut_4 ⟨show 0 + 1 ≤ 1 by omega, show 0 + 6 ≤ 6 by omega⟩) (wr := [aL cl o 1 ov]) hP hD hS hA [0, 1, 2] [3] rfl rfl (by decide) (by decide) (fun E ce q9 u H locs hw_1 hP hD hS hce hcv hcl => ?_) (fun r_1 u H locs hw_1 hP hD hS => ?_)
  · skip
    obtain ⟨n2_1, rfl⟩ : ∃ z, z = u := ⟨_, rfl⟩
    try dsimp only at hw_1
    have hP : va_P G vwCl [aL cl o 1 ov, (q 0, .inr (7, [.ref (q 1), .ref (q 3), .ref (q 5), .ref (q 6), .ref (q 12), .int wr])), (q 1, .inr (0, [.ref (q 2), .int (nI n2_1)])), aI ci (q 2) 600 row] H := hP
    have hD : va_D A [aL cl o 1 ov, (q 0, .inr (7, [.ref (q 1), .ref (q 3), .ref (q 5), .ref (q 6), .ref (q 12), .int wr])), (q 1, .inr (0, [.ref (q 2), .int (nI n2_1)])), aI ci (q 2) 600 row] := hD
    rcases hw_1 with ⟨rfl, e_1, f_1⟩
    · skip
      refine vx_widen (k := 1) (n := 6) (by omega) (by omega) ?_
      refine vx_catch (name := sIAE) hown [] ⟨0, 9, 12, 13⟩ [] hxt (fun z hz => by cases hz) (by decide) (by decide) (hts (.classLink RL 13 sIAE) (by decide +kernel)) (va_Nw.use rfl k1) hce hcv hcl ?_
      refine lv_astore_n (lv' := [(3, .ref q9), (0, .ref (q 0)), (1, .int x), (2, .ref o)]) hx hb dL_cut_12 rfl hl (by decide) rfl (fun ls hl => ?_)
      refine lv_iconst (v := nI 1) hx hb dL_cut_13 (by decide) ?_
      exact rI (v := nI 1) hx hb hr hlocks rfl hK hP hD hS [1, 2, 3, 0] (n2_1, ov) rfl (by decide) (Or.inr ⟨e_1, f_1, rfl⟩) dL_cut_14
  · skip
    obtain ⟨n2_1, rfl⟩ : ∃ z, z = u := ⟨_, rfl⟩
    try dsimp only at hw_1
    obtain ⟨kk_1, e_1, f_1, g_1, rfl⟩ := hw_1
    have hP : va_P G vwCl [aL cl o 1 ov, (q 0, .inr (7, [.ref (q 1), .ref (q 3), .ref (q 5), .ref (q 6), .ref (q 12), .int wr])), (q 1, .inr (0, [.ref (q 2), .int (nI n2_1)])), aI ci (q 2) 600 row] H := hP
    have hD : va_D A [aL cl o 1 ov, (q 0, .inr (7, [.ref (q 1), .ref (q 3), .ref (q 5), .ref (q 6), .ref (q 12), .int wr])), (q 1, .inr (0, [.ref (q 2), .int (nI n2_1)])), aI ci (q 2) 600 row] := hD
    refine W.widen (k := 1) (n := 6) (by omega) (by omega) ?_
    refine lv_i2l hx hb dL_cut_7 rfl ?_
    refine va_last hx hb hK hP hD hS 0 2 rfl rfl (vp_in_nI (by omega) (by omega)) dL_cut_8 (fun H locs hP hD hS => ?_)
    rw [nI_clamp (by omega)] at hP hD
    have hP : va_P G vwCl [aL cl o 1 (vp_updL ov 0 ((nI n2_1).toInt64)), (q 0, .inr (7, [.ref (q 1), .ref (q 3), .ref (q 5), .ref (q 6), .ref (q 12), .int wr])), (q 1, .inr (0, [.ref (q 2), .int (nI n2_1)])), aI ci (q 2) 600 row] H := hP
    have hD : va_D A [aL cl o 1 (vp_updL ov 0 ((nI n2_1).toInt64)), (q 0, .inr (7, [.ref (q 1), .ref (q 3), .ref (q 5), .ref (q 6), .ref (q 12), .int wr])), (q 1, .inr (0, [.ref (q 2), .int (nI n2_1)])), aI ci (q 2) 600 row] := hD
    refine lv_goto (tgt := 15) hx hb dL_cut_9 (by decide) ?_
    refine lv_iconst (v := nI 0) hx hb dL_cut_15 (by decide) ?_
    exact rI (v := nI 0) hx hb hr hlocks rfl hK hP hD hS [1, 2, 3, 0] (n2_1, vp_updL ov 0 ((nI n2_1).toInt64)) rfl (by decide) (Or.inl ⟨kk_1, e_1, f_1, g_1, rfl, (by dsimp only; exact pk_uLs)⟩) dL_cut_16
set_option maxHeartbeats 4000000 in
set_option maxRecDepth 100000 in
theorem c_L_read (l : Launch) (G : va_G) (ci cz cl : ClassId) (q : Nat → Nat) (sz : Nat) (tb : Nat) (o : Nat) (wr : Int32) (ph : Nat) (bA : Nat) (lA : Nat) (n : Nat) (row : Nat → Int32) (wid : Nat → Int32) (fac : UInt64) (pc : Nat) (ic : Nat) (nu : Nat → Int32) (ad : Nat → Int32) (fi : Nat → Int32) (co : Nat → Int32) (it : Nat → Int32) (st : Nat → Int32) (mk : Nat → Int32) (sc : Nat → Int32) (kc : Nat) (dp : Nat) (fo : Int32) (sl : Int32) (now : Nat → Int32) (kept : Nat → Int32) (ov : Nat → Int64) (hl0 : l.stackTraces = false) (hn : n ≤ 600) (hB : FB row) : CtI l yL_read wsL_read ({ frames := 7, cells := 1, slots := 6, locals := 160 }) G (TY ci cz cl) (OX tb) [.ref (q 0), .ref o] [(q 0, .inr (7, [.ref (q 1), .ref (q 3), .ref (q 5), .ref (q 6), .ref (q 12), .int wr])), (q 12, .inr (5, [.ref (q 1), .ref (q 3), .ref (q 5), .ref (q 6), .ref (q 13), .ref (q 17), .int (nI ph), .int (nI bA), .int (nI lA)])), (q 1, .inr (0, [.ref (q 2), .int (nI n)])), aI ci (q 2) 600 row, (q 3, .inr (6, [.ref (q 4)])), aI ci (q 4) 1024 wid, (q 5, .inr (3, [.double fac])), (q 6, .inr (2, [.ref (q 7), .ref (q 8), .ref (q 9), .ref (q 10), .ref (q 11), .int (nI pc), .int (nI ic)])), aI ci (q 7) 12 nu, aI ci (q 8) 12 ad, aI ci (q 9) 12 fi, aI ci (q 10) 12 co, aI ci (q 11) 1400 it, (q 13, .inr (1, [.ref (q 14), .ref (q 15), .ref (q 16)])), aI ci (q 14) 8 st, aI ci (q 15) 8 mk, aI ci (q 16) 8 sc, (q 17, .inr (4, [.ref (q 5), .ref (q 18), .ref (q 19), .int (nI kc), .int (nI dp), .int fo, .int sl])), aI ci (q 18) 8 now, aI ci (q 19) 160 kept, aL cl o 1 ov] sz (fun (r : Int32) (u : Int32 × Nat × Nat × Nat × UInt64 × Nat × Nat × (Nat → Int32) × (Nat → Int32) × (Nat → Int32) × (Nat → Int32) × (Nat → Int32) × (Nat → Int32) × (Nat → Int32) × (Nat → Int32) × Nat × Nat × Int32 × Int32 × (Nat → Int32) × (Nat → Int32) × (Nat → Int64)) => RdC row wid n r (u.2.2.2.2.2.2.2.2.2.2.2.2.2.2.2.2.2.2.2.2.2 0) u.1 u.2.2.2.2.2.1 u.2.2.2.2.2.2.1 u.2.2.2.2.1 (u.2.1, u.2.2.1, u.2.2.2.1, u.2.2.2.2.1, u.2.2.2.2.2.1, u.2.2.2.2.2.2.1, u.2.2.2.2.2.2.2.1, u.2.2.2.2.2.2.2.2.1, u.2.2.2.2.2.2.2.2.2.2.1, u.2.2.2.2.2.2.2.2.2.2.2.1, u.2.2.2.2.2.2.2.2.2.2.2.2.1, u.2.2.2.2.2.2.2.2.2.2.2.2.2.1, u.2.2.2.2.2.2.2.2.2.2.2.2.2.2.1, u.2.2.2.2.2.2.2.2.2.2.2.2.2.2.2.1, u.2.2.2.2.2.2.2.2.2.2.2.2.2.2.2.2.1, u.2.2.2.2.2.2.2.2.2.2.2.2.2.2.2.2.2.1, u.2.2.2.2.2.2.2.2.2.2.2.2.2.2.2.2.2.2.2.1, u.2.2.2.2.2.2.2.2.2.2.2.2.2.2.2.2.2.2.2.2.1) ∧ u.2.2.2.2.2.1 ≤ 12 ∧ u.2.2.2.2.2.2.1 ≤ 200 ∧ PI u.2.2.2.2.2.1 u.2.2.2.2.2.2.1 u.2.2.2.2.2.2.2.2.2.1 u.2.2.2.2.2.2.2.2.2.2.1 ∧ Fn u.2.2.2.2.1) (fun u : Int32 × Nat × Nat × Nat × UInt64 × Nat × Nat × (Nat → Int32) × (Nat → Int32) × (Nat → Int32) × (Nat → Int32) × (Nat → Int32) × (Nat → Int32) × (Nat → Int32) × (Nat → Int32) × Nat × Nat × Int32 × Int32 × (Nat → Int32) × (Nat → Int32) × (Nat → Int64) => [(q 0, .inr (7, [.ref (q 1), .ref (q 3), .ref (q 5), .ref (q 6), .ref (q 12), .int u.1])), (q 12, .inr (5, [.ref (q 1), .ref (q 3), .ref (q 5), .ref (q 6), .ref (q 13), .ref (q 17), .int (nI u.2.1), .int (nI u.2.2.1), .int (nI u.2.2.2.1)])), (q 1, .inr (0, [.ref (q 2), .int (nI n)])), aI ci (q 2) 600 row, (q 3, .inr (6, [.ref (q 4)])), aI ci (q 4) 1024 wid, (q 5, .inr (3, [.double u.2.2.2.2.1])), (q 6, .inr (2, [.ref (q 7), .ref (q 8), .ref (q 9), .ref (q 10), .ref (q 11), .int (nI u.2.2.2.2.2.1), .int (nI u.2.2.2.2.2.2.1)])), aI ci (q 7) 12 u.2.2.2.2.2.2.2.1, aI ci (q 8) 12 u.2.2.2.2.2.2.2.2.1, aI ci (q 9) 12 u.2.2.2.2.2.2.2.2.2.1, aI ci (q 10) 12 u.2.2.2.2.2.2.2.2.2.2.1, aI ci (q 11) 1400 u.2.2.2.2.2.2.2.2.2.2.2.1, (q 13, .inr (1, [.ref (q 14), .ref (q 15), .ref (q 16)])), aI ci (q 14) 8 u.2.2.2.2.2.2.2.2.2.2.2.2.1, aI ci (q 15) 8 u.2.2.2.2.2.2.2.2.2.2.2.2.2.1, aI ci (q 16) 8 u.2.2.2.2.2.2.2.2.2.2.2.2.2.2.1, (q 17, .inr (4, [.ref (q 5), .ref (q 18), .ref (q 19), .int (nI u.2.2.2.2.2.2.2.2.2.2.2.2.2.2.2.1), .int (nI u.2.2.2.2.2.2.2.2.2.2.2.2.2.2.2.2.1), .int u.2.2.2.2.2.2.2.2.2.2.2.2.2.2.2.2.2.1, .int u.2.2.2.2.2.2.2.2.2.2.2.2.2.2.2.2.2.2.1])), aI ci (q 18) 8 u.2.2.2.2.2.2.2.2.2.2.2.2.2.2.2.2.2.2.2.1, aI ci (q 19) 160 u.2.2.2.2.2.2.2.2.2.2.2.2.2.2.2.2.2.2.2.2.1, aL cl o 1 u.2.2.2.2.2.2.2.2.2.2.2.2.2.2.2.2.2.2.2.2.2]) 1 6 := by
  refine va_MetW (cc := cL_read) (maxL := 3) (ret := (some .int)) (by decide) rfl ?_
  intro p e s m args below meth c s₁ B hml hv
  obtain ⟨rfl, ⟨hsz, hP, hK, hD0⟩, hO⟩ := hv
  have hx := B.exec
  have hb := B.bytes
  have hr := B.returns
  have hts := atoms_spec (ws := wsL_read) B.pre
  have hown : s.vm.findClass RL = some m.cls := findClass_of_methodNamed B.named
  have hlocks := B.notSynchronized
  have hxt := vx_table (x := yL_read) B (hts _ List.mem_cons_self)
  subst hsz
  have hD := hD0.self (sz := s.heap.size)
  generalize hAe : va_A [(q 0, .inr (7, [.ref (q 1), .ref (q 3), .ref (q 5), .ref (q 6), .ref (q 12), .int wr])), (q 12, .inr (5, [.ref (q 1), .ref (q 3), .ref (q 5), .ref (q 6), .ref (q 13), .ref (q 17), .int (nI ph), .int (nI bA), .int (nI lA)])), (q 1, .inr (0, [.ref (q 2), .int (nI n)])), aI ci (q 2) 600 row, (q 3, .inr (6, [.ref (q 4)])), aI ci (q 4) 1024 wid, (q 5, .inr (3, [.double fac])), (q 6, .inr (2, [.ref (q 7), .ref (q 8), .ref (q 9), .ref (q 10), .ref (q 11), .int (nI pc), .int (nI ic)])), aI ci (q 7) 12 nu, aI ci (q 8) 12 ad, aI ci (q 9) 12 fi, aI ci (q 10) 12 co, aI ci (q 11) 1400 it, (q 13, .inr (1, [.ref (q 14), .ref (q 15), .ref (q 16)])), aI ci (q 14) 8 st, aI ci (q 15) 8 mk, aI ci (q 16) 8 sc, (q 17, .inr (4, [.ref (q 5), .ref (q 18), .ref (q 19), .int (nI kc), .int (nI dp), .int fo, .int sl])), aI ci (q 18) 8 now, aI ci (q 19) 160 kept, aL cl o 1 ov] s.heap.size = A at hD hO ⊢
  have hA : ∀ q : Nat, s.heap.size ≤ q → A q := fun q h => by rw [← hAe]; exact Or.inr h
  have ok := (okX tb)
  refine startH (A := A) (fun H locs hP hS => ?_) hP
  have hl := lv_entry ([.ref (q 0), .ref o]) (n := 3) (Nat.le_of_ble_eq_true rfl)
  rw [lg_entry_eq]
  generalize (lg_sl ([.ref (q 0), .ref o]) ++ List.replicate (3 - (lg_sl ([.ref (q 0), .ref o])).length) Slot.unset).toArray = ls at hl ⊢
  have hl : lv_has ls 3 [(0, .ref (q 0)), (1, .ref o)] := hl
  obtain ⟨hOB, ⟨hU, hN⟩, ⟨k1, k2, k3, k4, k5⟩, ⟨d1, d2, d3⟩, ⟨a1, s1⟩, ⟨a2, s2⟩, ⟨a3, s3⟩, ⟨a4, s4⟩, ⟨a5, s5⟩, ⟨a6, s6⟩⟩ := id hO
  refine lv_aload_n hx hb dL_read_0 rfl (lv_at hl 1 rfl) ?_
  refine lv_iconst (v := nI 0) hx hb dL_read_1 (by decide) ?_
  refine lv_aload_n hx hb dL_read_2 rfl (lv_at hl 0 rfl) ?_
  refine jX (vx_runV (As := []) (rest := [.int (nI 0), .ref o]) ⟨hx, hb, hml, hown, hts⟩ (c_X8_read l G ci cz cl q H.size tb wr ph bA lA n row wid fac pc ic nu ad fi co it st mk sc kc dp fo sl now kept hl0 (by omega) hB) (cwV 0 hts gL_read_X8_read rfl rfl rfl (by decide +kernel) ⟨(Nat.le_of_ble_eq_true rfl), (Nat.le_of_ble_eq_true rfl)⟩) (pV (wc := [(q 0, .inr (7, [.ref (q 1), .ref (q 3), .ref (q 5), .ref (q 6), .ref (q 12), .int wr])), (q 12, .inr (5, [.ref (q 1), .ref (q 3), .ref (q 5), .ref (q 6), .ref (q 13), .ref (q 17), .int (nI ph), .int (nI bA), .int (nI lA)])), (q 1, .inr (0, [.ref (q 2), .int (nI n)])), aI ci (q 2) 600 row, (q 3, .inr (6, [.ref (q 4)])), aI ci (q 4) 1024 wid, (q 5, .inr (3, [.double fac])), (q 6, .inr (2, [.ref (q 7), .ref (q 8), .ref (q 9), .ref (q 10), .ref (q 11), .int (nI pc), .int (nI ic)])), aI ci (q 7) 12 nu, aI ci (q 8) 12 ad, aI ci (q 9) 12 fi, aI ci (q 10) 12 co, aI ci (q 11) 1400 it, (q 13, .inr (1, [.ref (q 14), .ref (q 15), .ref (q 16)])), aI ci (q 14) 8 st, aI ci (q 15) 8 mk, aI ci (q 16) 8 sc, (q 17, .inr (4, [.ref (q 5), .ref (q 18), .ref (q 19), .int (nI kc), .int (nI dp), .int fo, .int sl])), aI ci (q 18) 8 now, aI ci (q 19) 160 kept]) ok hK hP hD hS hA hO [0, 1, 2, 3, 4, 5, 6, 7, 8, 9, 10, 11, 12, 13, 14, 15, 16, 17, 18, 19] rfl (by decide) 0 rfl rfl) rfl rfl hl.1 rfl (lv_room (Nat.le_of_ble_eq_true rfl)) dL_read_3 ⟨show 0 + 1 ≤ 1 by omega, show 0 + 6 ≤ 6 by omega⟩) (wr := [aL cl o 1 ov]) hP hD hS hA [0, 1, 2, 3, 4, 5, 6, 7, 8, 9, 10, 11, 12, 13, 14, 15, 16, 17, 18, 19] [20] rfl rfl (by decide) (by decide) (fun E ce q9 u H locs hw_1 hP hD hS hce hcv hcl => ?_) (fun r_1 u H locs hw_1 hP hD hS => ?_)
  · skip
    obtain ⟨wr2_1, ph2_1, bA2_1, lA2_1, fac2_1, pc2_1, ic2_1, nu2_1, ad2_1, fi2_1, co2_1, it2_1, st2_1, mk2_1, sc2_1, kc2_1, dp2_1, fo2_1, sl2_1, now2_1, kept2_1⟩ := u
    try dsimp only at hw_1
    have hP : va_P G vwCl [aL cl o 1 ov, (q 0, .inr (7, [.ref (q 1), .ref (q 3), .ref (q 5), .ref (q 6), .ref (q 12), .int wr2_1])), (q 12, .inr (5, [.ref (q 1), .ref (q 3), .ref (q 5), .ref (q 6), .ref (q 13), .ref (q 17), .int (nI ph2_1), .int (nI bA2_1), .int (nI lA2_1)])), (q 1, .inr (0, [.ref (q 2), .int (nI n)])), aI ci (q 2) 600 row, (q 3, .inr (6, [.ref (q 4)])), aI ci (q 4) 1024 wid, (q 5, .inr (3, [.double fac2_1])), (q 6, .inr (2, [.ref (q 7), .ref (q 8), .ref (q 9), .ref (q 10), .ref (q 11), .int (nI pc2_1), .int (nI ic2_1)])), aI ci (q 7) 12 nu2_1, aI ci (q 8) 12 ad2_1, aI ci (q 9) 12 fi2_1, aI ci (q 10) 12 co2_1, aI ci (q 11) 1400 it2_1, (q 13, .inr (1, [.ref (q 14), .ref (q 15), .ref (q 16)])), aI ci (q 14) 8 st2_1, aI ci (q 15) 8 mk2_1, aI ci (q 16) 8 sc2_1, (q 17, .inr (4, [.ref (q 5), .ref (q 18), .ref (q 19), .int (nI kc2_1), .int (nI dp2_1), .int fo2_1, .int sl2_1])), aI ci (q 18) 8 now2_1, aI ci (q 19) 160 kept2_1] H := hP
    have hD : va_D A [aL cl o 1 ov, (q 0, .inr (7, [.ref (q 1), .ref (q 3), .ref (q 5), .ref (q 6), .ref (q 12), .int wr2_1])), (q 12, .inr (5, [.ref (q 1), .ref (q 3), .ref (q 5), .ref (q 6), .ref (q 13), .ref (q 17), .int (nI ph2_1), .int (nI bA2_1), .int (nI lA2_1)])), (q 1, .inr (0, [.ref (q 2), .int (nI n)])), aI ci (q 2) 600 row, (q 3, .inr (6, [.ref (q 4)])), aI ci (q 4) 1024 wid, (q 5, .inr (3, [.double fac2_1])), (q 6, .inr (2, [.ref (q 7), .ref (q 8), .ref (q 9), .ref (q 10), .ref (q 11), .int (nI pc2_1), .int (nI ic2_1)])), aI ci (q 7) 12 nu2_1, aI ci (q 8) 12 ad2_1, aI ci (q 9) 12 fi2_1, aI ci (q 10) 12 co2_1, aI ci (q 11) 1400 it2_1, (q 13, .inr (1, [.ref (q 14), .ref (q 15), .ref (q 16)])), aI ci (q 14) 8 st2_1, aI ci (q 15) 8 mk2_1, aI ci (q 16) 8 sc2_1, (q 17, .inr (4, [.ref (q 5), .ref (q 18), .ref (q 19), .int (nI kc2_1), .int (nI dp2_1), .int fo2_1, .int sl2_1])), aI ci (q 18) 8 now2_1, aI ci (q 19) 160 kept2_1] := hD
    rcases hw_1 with ⟨rfl, e_1, f_1, g_1, h_1, P_1, F_1⟩
    · skip
      refine vx_widen (k := 1) (n := 6) (by omega) (by omega) ?_
      refine vx_catch (name := sUOE) hown [] ⟨0, 8, 11, 25⟩ [] hxt (fun z hz => by cases hz) (by decide) (by decide) (hts (.classLink RL 25 sUOE) (by decide +kernel)) (va_Nw.use rfl k3) hce hcv hcl ?_
      refine lv_astore_n (lv' := [(2, .ref q9), (0, .ref (q 0)), (1, .ref o)]) hx hb dL_read_11 rfl hl (by decide) rfl (fun ls hl => ?_)
      refine lv_iconst (v := nI 1) hx hb dL_read_12 (by decide) ?_
      exact rI (v := nI 1) hx hb hr hlocks rfl hK hP hD hS [1, 2, 3, 4, 5, 6, 7, 8, 9, 10, 11, 12, 13, 14, 15, 16, 17, 18, 19, 20, 0] (wr2_1, ph2_1, bA2_1, lA2_1, fac2_1, pc2_1, ic2_1, nu2_1, ad2_1, fi2_1, co2_1, it2_1, st2_1, mk2_1, sc2_1, kc2_1, dp2_1, fo2_1, sl2_1, now2_1, kept2_1, ov) rfl (by decide) ⟨Or.inr ⟨rfl, e_1, f_1, g_1, h_1⟩, by (try dsimp only); omega, by (try dsimp only); omega, by assumption, by assumption⟩ dL_read_13
  · skip
    obtain ⟨wr2_1, ph2_1, bA2_1, lA2_1, fac2_1, pc2_1, ic2_1, nu2_1, ad2_1, fi2_1, co2_1, it2_1, st2_1, mk2_1, sc2_1, kc2_1, dp2_1, fo2_1, sl2_1, now2_1, kept2_1⟩ := u
    try dsimp only at hw_1
    obtain ⟨e_1, rfl, g_1, p_1, i_1, P_1, F_1⟩ := hw_1
    have hP : va_P G vwCl [aL cl o 1 ov, (q 0, .inr (7, [.ref (q 1), .ref (q 3), .ref (q 5), .ref (q 6), .ref (q 12), .int wr2_1])), (q 12, .inr (5, [.ref (q 1), .ref (q 3), .ref (q 5), .ref (q 6), .ref (q 13), .ref (q 17), .int (nI ph2_1), .int (nI bA2_1), .int (nI lA2_1)])), (q 1, .inr (0, [.ref (q 2), .int (nI n)])), aI ci (q 2) 600 row, (q 3, .inr (6, [.ref (q 4)])), aI ci (q 4) 1024 wid, (q 5, .inr (3, [.double fac2_1])), (q 6, .inr (2, [.ref (q 7), .ref (q 8), .ref (q 9), .ref (q 10), .ref (q 11), .int (nI pc2_1), .int (nI ic2_1)])), aI ci (q 7) 12 nu2_1, aI ci (q 8) 12 ad2_1, aI ci (q 9) 12 fi2_1, aI ci (q 10) 12 co2_1, aI ci (q 11) 1400 it2_1, (q 13, .inr (1, [.ref (q 14), .ref (q 15), .ref (q 16)])), aI ci (q 14) 8 st2_1, aI ci (q 15) 8 mk2_1, aI ci (q 16) 8 sc2_1, (q 17, .inr (4, [.ref (q 5), .ref (q 18), .ref (q 19), .int (nI kc2_1), .int (nI dp2_1), .int fo2_1, .int sl2_1])), aI ci (q 18) 8 now2_1, aI ci (q 19) 160 kept2_1] H := hP
    have hD : va_D A [aL cl o 1 ov, (q 0, .inr (7, [.ref (q 1), .ref (q 3), .ref (q 5), .ref (q 6), .ref (q 12), .int wr2_1])), (q 12, .inr (5, [.ref (q 1), .ref (q 3), .ref (q 5), .ref (q 6), .ref (q 13), .ref (q 17), .int (nI ph2_1), .int (nI bA2_1), .int (nI lA2_1)])), (q 1, .inr (0, [.ref (q 2), .int (nI n)])), aI ci (q 2) 600 row, (q 3, .inr (6, [.ref (q 4)])), aI ci (q 4) 1024 wid, (q 5, .inr (3, [.double fac2_1])), (q 6, .inr (2, [.ref (q 7), .ref (q 8), .ref (q 9), .ref (q 10), .ref (q 11), .int (nI pc2_1), .int (nI ic2_1)])), aI ci (q 7) 12 nu2_1, aI ci (q 8) 12 ad2_1, aI ci (q 9) 12 fi2_1, aI ci (q 10) 12 co2_1, aI ci (q 11) 1400 it2_1, (q 13, .inr (1, [.ref (q 14), .ref (q 15), .ref (q 16)])), aI ci (q 14) 8 st2_1, aI ci (q 15) 8 mk2_1, aI ci (q 16) 8 sc2_1, (q 17, .inr (4, [.ref (q 5), .ref (q 18), .ref (q 19), .int (nI kc2_1), .int (nI dp2_1), .int fo2_1, .int sl2_1])), aI ci (q 18) 8 now2_1, aI ci (q 19) 160 kept2_1] := hD
    refine W.widen (k := 1) (n := 6) (by omega) (by omega) ?_
    refine lv_i2l hx hb dL_read_6 rfl ?_
    refine va_last hx hb hK hP hD hS 0 2 rfl rfl (vp_in_nI (by omega) (by omega)) dL_read_7 (fun H locs hP hD hS => ?_)
    rw [nI_clamp (by omega)] at hP hD
    have hP : va_P G vwCl [aL cl o 1 (vp_updL ov 0 ((nI pc2_1).toInt64)), (q 0, .inr (7, [.ref (q 1), .ref (q 3), .ref (q 5), .ref (q 6), .ref (q 12), .int wr2_1])), (q 12, .inr (5, [.ref (q 1), .ref (q 3), .ref (q 5), .ref (q 6), .ref (q 13), .ref (q 17), .int (nI ph2_1), .int (nI bA2_1), .int (nI lA2_1)])), (q 1, .inr (0, [.ref (q 2), .int (nI n)])), aI ci (q 2) 600 row, (q 3, .inr (6, [.ref (q 4)])), aI ci (q 4) 1024 wid, (q 5, .inr (3, [.double fac2_1])), (q 6, .inr (2, [.ref (q 7), .ref (q 8), .ref (q 9), .ref (q 10), .ref (q 11), .int (nI pc2_1), .int (nI ic2_1)])), aI ci (q 7) 12 nu2_1, aI ci (q 8) 12 ad2_1, aI ci (q 9) 12 fi2_1, aI ci (q 10) 12 co2_1, aI ci (q 11) 1400 it2_1, (q 13, .inr (1, [.ref (q 14), .ref (q 15), .ref (q 16)])), aI ci (q 14) 8 st2_1, aI ci (q 15) 8 mk2_1, aI ci (q 16) 8 sc2_1, (q 17, .inr (4, [.ref (q 5), .ref (q 18), .ref (q 19), .int (nI kc2_1), .int (nI dp2_1), .int fo2_1, .int sl2_1])), aI ci (q 18) 8 now2_1, aI ci (q 19) 160 kept2_1] H := hP
    have hD : va_D A [aL cl o 1 (vp_updL ov 0 ((nI pc2_1).toInt64)), (q 0, .inr (7, [.ref (q 1), .ref (q 3), .ref (q 5), .ref (q 6), .ref (q 12), .int wr2_1])), (q 12, .inr (5, [.ref (q 1), .ref (q 3), .ref (q 5), .ref (q 6), .ref (q 13), .ref (q 17), .int (nI ph2_1), .int (nI bA2_1), .int (nI lA2_1)])), (q 1, .inr (0, [.ref (q 2), .int (nI n)])), aI ci (q 2) 600 row, (q 3, .inr (6, [.ref (q 4)])), aI ci (q 4) 1024 wid, (q 5, .inr (3, [.double fac2_1])), (q 6, .inr (2, [.ref (q 7), .ref (q 8), .ref (q 9), .ref (q 10), .ref (q 11), .int (nI pc2_1), .int (nI ic2_1)])), aI ci (q 7) 12 nu2_1, aI ci (q 8) 12 ad2_1, aI ci (q 9) 12 fi2_1, aI ci (q 10) 12 co2_1, aI ci (q 11) 1400 it2_1, (q 13, .inr (1, [.ref (q 14), .ref (q 15), .ref (q 16)])), aI ci (q 14) 8 st2_1, aI ci (q 15) 8 mk2_1, aI ci (q 16) 8 sc2_1, (q 17, .inr (4, [.ref (q 5), .ref (q 18), .ref (q 19), .int (nI kc2_1), .int (nI dp2_1), .int fo2_1, .int sl2_1])), aI ci (q 18) 8 now2_1, aI ci (q 19) 160 kept2_1] := hD
    refine lv_goto (tgt := 14) hx hb dL_read_8 (by decide) ?_
    refine lv_iconst (v := nI 0) hx hb dL_read_14 (by decide) ?_
    exact rI (v := nI 0) hx hb hr hlocks rfl hK hP hD hS [1, 2, 3, 4, 5, 6, 7, 8, 9, 10, 11, 12, 13, 14, 15, 16, 17, 18, 19, 20, 0] (wr2_1, ph2_1, bA2_1, lA2_1, fac2_1, pc2_1, ic2_1, nu2_1, ad2_1, fi2_1, co2_1, it2_1, st2_1, mk2_1, sc2_1, kc2_1, dp2_1, fo2_1, sl2_1, now2_1, kept2_1, vp_updL ov 0 ((nI pc2_1).toInt64)) rfl (by decide) ⟨Or.inl ⟨rfl, (by dsimp only; exact pk_uLs), e_1, g_1⟩, by (try dsimp only); omega, by (try dsimp only); omega, by assumption, by assumption⟩ dL_read_15
set_option maxHeartbeats 4000000 in
set_option maxRecDepth 100000 in
theorem c_L_page (l : Launch) (G : va_G) (ci cz cl : ClassId) (q : Nat → Nat) (sz : Nat) (tb : Nat) (o : Nat) (x : Int32) (y : Int32) (wr : Int32) (pc : Nat) (ic : Nat) (nu : Nat → Int32) (ad : Nat → Int32) (fi : Nat → Int32) (co : Nat → Int32) (it : Nat → Int32) (ov : Nat → Int64) (hl0 : l.stackTraces = false) (hpc : pc ≤ 12) : CtI l yL_page wsL_page2 ({ frames := 7, cells := 1, slots := 6, locals := 112 }) G (TY ci cz cl) (OX tb) [.ref (q 0), .int x, .int y, .ref o] [(q 0, .inr (7, [.ref (q 1), .ref (q 3), .ref (q 5), .ref (q 6), .ref (q 12), .int wr])), (q 6, .inr (2, [.ref (q 7), .ref (q 8), .ref (q 9), .ref (q 10), .ref (q 11), .int (nI pc), .int (nI ic)])), aI ci (q 7) 12 nu, aI ci (q 8) 12 ad, aI ci (q 9) 12 fi, aI ci (q 10) 12 co, aI ci (q 11) 1400 it, aL cl o 1 ov] sz (fun (r : Int32) (u : Nat → Int64) => (r = nI 0 ∧ ∃ v : Int32, u 0 = v.toInt64 ∧ PgM x y v pc nu co ad) ∨ (r = nI 1 ∧ (¬ (0 ≤ x.toInt ∧ x.toInt < pc) ∨ ¬ (0 ≤ y.toInt ∧ y.toInt ≤ 2)))) (fun u : Nat → Int64 => [(q 0, .inr (7, [.ref (q 1), .ref (q 3), .ref (q 5), .ref (q 6), .ref (q 12), .int wr])), (q 6, .inr (2, [.ref (q 7), .ref (q 8), .ref (q 9), .ref (q 10), .ref (q 11), .int (nI pc), .int (nI ic)])), aI ci (q 7) 12 nu, aI ci (q 8) 12 ad, aI ci (q 9) 12 fi, aI ci (q 10) 12 co, aI ci (q 11) 1400 it, aL cl o 1 u]) 1 6 := by
  refine va_MetW (cc := cL_page) (maxL := 5) (ret := (some .int)) (by decide) rfl ?_
  intro p e s m args below meth c s₁ B hml hv
  obtain ⟨rfl, ⟨hsz, hP, hK, hD0⟩, hO⟩ := hv
  have hx := B.exec
  have hb := B.bytes
  have hr := B.returns
  have hts := atoms_spec (ws := wsL_page2) B.pre
  have hown : s.vm.findClass RL = some m.cls := findClass_of_methodNamed B.named
  have hlocks := B.notSynchronized
  have hxt := vx_table (x := yL_page) B (hts _ List.mem_cons_self)
  subst hsz
  have hD := hD0.self (sz := s.heap.size)
  generalize hAe : va_A [(q 0, .inr (7, [.ref (q 1), .ref (q 3), .ref (q 5), .ref (q 6), .ref (q 12), .int wr])), (q 6, .inr (2, [.ref (q 7), .ref (q 8), .ref (q 9), .ref (q 10), .ref (q 11), .int (nI pc), .int (nI ic)])), aI ci (q 7) 12 nu, aI ci (q 8) 12 ad, aI ci (q 9) 12 fi, aI ci (q 10) 12 co, aI ci (q 11) 1400 it, aL cl o 1 ov] s.heap.size = A at hD hO ⊢
  have hA : ∀ q : Nat, s.heap.size ≤ q → A q := fun q h => by rw [← hAe]; exact Or.inr h
  have ok := (okX tb)
  refine startH (A := A) (fun H locs hP hS => ?_) hP
  have hl := lv_entry ([.ref (q 0), .int x, .int y, .ref o]) (n := 5) (Nat.le_of_ble_eq_true rfl)
  rw [lg_entry_eq]
  generalize (lg_sl ([.ref (q 0), .int x, .int y, .ref o]) ++ List.replicate (5 - (lg_sl ([.ref (q 0), .int x, .int y, .ref o])).length) Slot.unset).toArray = ls at hl ⊢
  have hl : lv_has ls 5 [(0, .ref (q 0)), (1, .int x), (2, .int y), (3, .ref o)] := hl
  obtain ⟨hOB, ⟨hU, hN⟩, ⟨k1, k2, k3, k4, k5⟩, ⟨d1, d2, d3⟩, ⟨a1, s1⟩, ⟨a2, s2⟩, ⟨a3, s3⟩, ⟨a4, s4⟩, ⟨a5, s5⟩, ⟨a6, s6⟩⟩ := id hO
  refine lv_aload_n hx hb dL_page_0 rfl (lv_at hl 3 rfl) ?_
  refine lv_iconst (v := nI 0) hx hb dL_page_1 (by decide) ?_
  refine lv_aload_n hx hb dL_page_2 rfl (lv_at hl 0 rfl) ?_
  refine lv_iload_n hx hb dL_page_3 rfl (lv_at hl 1 rfl) ?_
  refine lv_iload_n hx hb dL_page_4 rfl (lv_at hl 2 rfl) ?_
  refine jX (vx_runV (As := [.int x, .int y]) (rest := [.int (nI 0), .ref o]) ⟨hx, hb, hml, hown, hts⟩ (c_X8_page l G ci cz cl q H.size tb x y wr pc ic nu ad fi co it hl0 (by omega)) (cwV 2 hts gL_page2_X8_page2 rfl rfl rfl (by decide +kernel) ⟨(Nat.le_of_ble_eq_true rfl), (Nat.le_of_ble_eq_true rfl)⟩) (pV (wc := [(q 0, .inr (7, [.ref (q 1), .ref (q 3), .ref (q 5), .ref (q 6), .ref (q 12), .int wr])), (q 6, .inr (2, [.ref (q 7), .ref (q 8), .ref (q 9), .ref (q 10), .ref (q 11), .int (nI pc), .int (nI ic)])), aI ci (q 7) 12 nu, aI ci (q 8) 12 ad, aI ci (q 9) 12 fi, aI ci (q 10) 12 co, aI ci (q 11) 1400 it]) ok hK hP hD hS hA hO [0, 1, 2, 3, 4, 5, 6] rfl (by decide) 0 rfl rfl) rfl rfl hl.1 rfl (lv_room (Nat.le_of_ble_eq_true rfl)) dL_page_5 ⟨show 0 + 1 ≤ 1 by omega, show 0 + 6 ≤ 6 by omega⟩) (wr := [aL cl o 1 ov]) hP hD hS hA [0, 1, 2, 3, 4, 5, 6] [7] rfl rfl (by decide) (by decide) (fun E ce q9 u H locs hw_1 hP hD hS hce hcv hcl => ?_) (fun r_1 u H locs hw_1 hP hD hS => ?_)
  · skip
    try dsimp only at hw_1
    have hP : va_P G vwCl [aL cl o 1 ov, (q 0, .inr (7, [.ref (q 1), .ref (q 3), .ref (q 5), .ref (q 6), .ref (q 12), .int wr])), (q 6, .inr (2, [.ref (q 7), .ref (q 8), .ref (q 9), .ref (q 10), .ref (q 11), .int (nI pc), .int (nI ic)])), aI ci (q 7) 12 nu, aI ci (q 8) 12 ad, aI ci (q 9) 12 fi, aI ci (q 10) 12 co, aI ci (q 11) 1400 it] H := hP
    have hD : va_D A [aL cl o 1 ov, (q 0, .inr (7, [.ref (q 1), .ref (q 3), .ref (q 5), .ref (q 6), .ref (q 12), .int wr])), (q 6, .inr (2, [.ref (q 7), .ref (q 8), .ref (q 9), .ref (q 10), .ref (q 11), .int (nI pc), .int (nI ic)])), aI ci (q 7) 12 nu, aI ci (q 8) 12 ad, aI ci (q 9) 12 fi, aI ci (q 10) 12 co, aI ci (q 11) 1400 it] := hD
    rcases hw_1 with ⟨rfl, e_1⟩
    · skip
      refine vx_widen (k := 1) (n := 6) (by omega) (by omega) ?_
      refine vx_catch (name := sNSE) hown [] ⟨0, 10, 13, 31⟩ [] hxt (fun z hz => by cases hz) (by decide) (by decide) (hts (.classLink RL 31 sNSE) (by decide +kernel)) (va_Nw.use rfl k4) hce hcv hcl ?_
      refine lv_astore (lv' := [(4, .ref q9), (0, .ref (q 0)), (1, .int x), (2, .int y), (3, .ref o)]) hx hb dL_page_13 hl (by decide) rfl (fun ls hl => ?_)
      refine lv_iconst (v := nI 1) hx hb dL_page_15 (by decide) ?_
      exact rI (v := nI 1) hx hb hr hlocks rfl hK hP hD hS [1, 2, 3, 4, 5, 6, 7, 0] ov rfl (by decide) (Or.inr ⟨rfl, e_1⟩) dL_page_16
  · skip
    try dsimp only at hw_1
    have h_1 := hw_1
    have hP : va_P G vwCl [aL cl o 1 ov, (q 0, .inr (7, [.ref (q 1), .ref (q 3), .ref (q 5), .ref (q 6), .ref (q 12), .int wr])), (q 6, .inr (2, [.ref (q 7), .ref (q 8), .ref (q 9), .ref (q 10), .ref (q 11), .int (nI pc), .int (nI ic)])), aI ci (q 7) 12 nu, aI ci (q 8) 12 ad, aI ci (q 9) 12 fi, aI ci (q 10) 12 co, aI ci (q 11) 1400 it] H := hP
    have hD : va_D A [aL cl o 1 ov, (q 0, .inr (7, [.ref (q 1), .ref (q 3), .ref (q 5), .ref (q 6), .ref (q 12), .int wr])), (q 6, .inr (2, [.ref (q 7), .ref (q 8), .ref (q 9), .ref (q 10), .ref (q 11), .int (nI pc), .int (nI ic)])), aI ci (q 7) 12 nu, aI ci (q 8) 12 ad, aI ci (q 9) 12 fi, aI ci (q 10) 12 co, aI ci (q 11) 1400 it] := hD
    refine W.widen (k := 1) (n := 6) (by omega) (by omega) ?_
    refine lv_i2l hx hb dL_page_8 rfl ?_
    refine va_last hx hb hK hP hD hS 0 2 rfl rfl (vp_in_nI (by omega) (by omega)) dL_page_9 (fun H locs hP hD hS => ?_)
    rw [nI_clamp (by omega)] at hP hD
    have hP : va_P G vwCl [aL cl o 1 (vp_updL ov 0 ((r_1).toInt64)), (q 0, .inr (7, [.ref (q 1), .ref (q 3), .ref (q 5), .ref (q 6), .ref (q 12), .int wr])), (q 6, .inr (2, [.ref (q 7), .ref (q 8), .ref (q 9), .ref (q 10), .ref (q 11), .int (nI pc), .int (nI ic)])), aI ci (q 7) 12 nu, aI ci (q 8) 12 ad, aI ci (q 9) 12 fi, aI ci (q 10) 12 co, aI ci (q 11) 1400 it] H := hP
    have hD : va_D A [aL cl o 1 (vp_updL ov 0 ((r_1).toInt64)), (q 0, .inr (7, [.ref (q 1), .ref (q 3), .ref (q 5), .ref (q 6), .ref (q 12), .int wr])), (q 6, .inr (2, [.ref (q 7), .ref (q 8), .ref (q 9), .ref (q 10), .ref (q 11), .int (nI pc), .int (nI ic)])), aI ci (q 7) 12 nu, aI ci (q 8) 12 ad, aI ci (q 9) 12 fi, aI ci (q 10) 12 co, aI ci (q 11) 1400 it] := hD
    refine lv_goto (tgt := 17) hx hb dL_page_10 (by decide) ?_
    refine lv_iconst (v := nI 0) hx hb dL_page_17 (by decide) ?_
    exact rI (v := nI 0) hx hb hr hlocks rfl hK hP hD hS [1, 2, 3, 4, 5, 6, 7, 0] (vp_updL ov 0 ((r_1).toInt64)) rfl (by decide) (Or.inl ⟨rfl, r_1, (by (try dsimp only); exact pk_uLs), h_1⟩) dL_page_18
set_option maxHeartbeats 4000000 in
set_option maxRecDepth 100000 in
theorem c_L_item (l : Launch) (G : va_G) (ci cz cl : ClassId) (q : Nat → Nat) (sz : Nat) (tb : Nat) (o : Nat) (x : Int32) (y : Int32) (z : Int32) (wr : Int32) (fac : UInt64) (pc : Nat) (ic : Nat) (nu : Nat → Int32) (ad : Nat → Int32) (fi : Nat → Int32) (co : Nat → Int32) (it : Nat → Int32) (ov : Nat → Int64) (hl0 : l.stackTraces = false) (hpc : pc ≤ 12) (hic : ic ≤ 200) (hPI : PI pc ic fi co) (hf : Fn fac) : CtI l yL_item wsL_item2 ({ frames := 7, cells := 1, slots := 6, locals := 113 }) G (TY ci cz cl) (OX tb) [.ref (q 0), .int x, .int y, .int z, .ref o] [(q 0, .inr (7, [.ref (q 1), .ref (q 3), .ref (q 5), .ref (q 6), .ref (q 12), .int wr])), (q 5, .inr (3, [.double fac])), (q 6, .inr (2, [.ref (q 7), .ref (q 8), .ref (q 9), .ref (q 10), .ref (q 11), .int (nI pc), .int (nI ic)])), aI ci (q 7) 12 nu, aI ci (q 8) 12 ad, aI ci (q 9) 12 fi, aI ci (q 10) 12 co, aI ci (q 11) 1400 it, aL cl o 1 ov] sz (fun (r : Int32) (u : Nat → Int64) => True) (fun u : Nat → Int64 => [(q 0, .inr (7, [.ref (q 1), .ref (q 3), .ref (q 5), .ref (q 6), .ref (q 12), .int wr])), (q 5, .inr (3, [.double fac])), (q 6, .inr (2, [.ref (q 7), .ref (q 8), .ref (q 9), .ref (q 10), .ref (q 11), .int (nI pc), .int (nI ic)])), aI ci (q 7) 12 nu, aI ci (q 8) 12 ad, aI ci (q 9) 12 fi, aI ci (q 10) 12 co, aI ci (q 11) 1400 it, aL cl o 1 u]) 1 6 := by
  refine va_MetW (cc := cL_item) (maxL := 6) (ret := (some .int)) (by decide) rfl ?_
  intro p e s m args below meth c s₁ B hml hv
  obtain ⟨rfl, ⟨hsz, hP, hK, hD0⟩, hO⟩ := hv
  have hx := B.exec
  have hb := B.bytes
  have hr := B.returns
  have hts := atoms_spec (ws := wsL_item2) B.pre
  have hown : s.vm.findClass RL = some m.cls := findClass_of_methodNamed B.named
  have hlocks := B.notSynchronized
  have hxt := vx_table (x := yL_item) B (hts _ List.mem_cons_self)
  subst hsz
  have hD := hD0.self (sz := s.heap.size)
  generalize hAe : va_A [(q 0, .inr (7, [.ref (q 1), .ref (q 3), .ref (q 5), .ref (q 6), .ref (q 12), .int wr])), (q 5, .inr (3, [.double fac])), (q 6, .inr (2, [.ref (q 7), .ref (q 8), .ref (q 9), .ref (q 10), .ref (q 11), .int (nI pc), .int (nI ic)])), aI ci (q 7) 12 nu, aI ci (q 8) 12 ad, aI ci (q 9) 12 fi, aI ci (q 10) 12 co, aI ci (q 11) 1400 it, aL cl o 1 ov] s.heap.size = A at hD hO ⊢
  have hA : ∀ q : Nat, s.heap.size ≤ q → A q := fun q h => by rw [← hAe]; exact Or.inr h
  have ok := (okX tb)
  refine startH (A := A) (fun H locs hP hS => ?_) hP
  have hl := lv_entry ([.ref (q 0), .int x, .int y, .int z, .ref o]) (n := 6) (Nat.le_of_ble_eq_true rfl)
  rw [lg_entry_eq]
  generalize (lg_sl ([.ref (q 0), .int x, .int y, .int z, .ref o]) ++ List.replicate (6 - (lg_sl ([.ref (q 0), .int x, .int y, .int z, .ref o])).length) Slot.unset).toArray = ls at hl ⊢
  have hl : lv_has ls 6 [(0, .ref (q 0)), (1, .int x), (2, .int y), (3, .int z), (4, .ref o)] := hl
  obtain ⟨hOB, ⟨hU, hN⟩, ⟨k1, k2, k3, k4, k5⟩, ⟨d1, d2, d3⟩, ⟨a1, s1⟩, ⟨a2, s2⟩, ⟨a3, s3⟩, ⟨a4, s4⟩, ⟨a5, s5⟩, ⟨a6, s6⟩⟩ := id hO
  refine lv_aload hx hb dL_item_0 (lv_at hl 4 rfl) ?_
  refine lv_iconst (v := nI 0) hx hb dL_item_2 (by decide) ?_
  refine lv_aload_n hx hb dL_item_3 rfl (lv_at hl 0 rfl) ?_
  refine lv_iload_n hx hb dL_item_4 rfl (lv_at hl 1 rfl) ?_
  refine lv_iload_n hx hb dL_item_5 rfl (lv_at hl 2 rfl) ?_
  refine lv_iload_n hx hb dL_item_6 rfl (lv_at hl 3 rfl) ?_
  refine jX (vx_runV (As := [.int x, .int y, .int z]) (rest := [.int (nI 0), .ref o]) ⟨hx, hb, hml, hown, hts⟩ (c_X8_item l G ci cz cl q H.size tb x y z wr fac pc ic nu ad fi co it hl0 (by omega) (by omega) (by assumption) (by assumption)) (cwV 3 hts gL_item2_X8_item2 rfl rfl rfl (by decide +kernel) ⟨(Nat.le_of_ble_eq_true rfl), (Nat.le_of_ble_eq_true rfl)⟩) (pV (wc := [(q 0, .inr (7, [.ref (q 1), .ref (q 3), .ref (q 5), .ref (q 6), .ref (q 12), .int wr])), (q 5, .inr (3, [.double fac])), (q 6, .inr (2, [.ref (q 7), .ref (q 8), .ref (q 9), .ref (q 10), .ref (q 11), .int (nI pc), .int (nI ic)])), aI ci (q 7) 12 nu, aI ci (q 8) 12 ad, aI ci (q 9) 12 fi, aI ci (q 10) 12 co, aI ci (q 11) 1400 it]) ok hK hP hD hS hA hO [0, 1, 2, 3, 4, 5, 6, 7] rfl (by decide) 0 rfl rfl) rfl rfl hl.1 rfl (lv_room (Nat.le_of_ble_eq_true rfl)) dL_item_7 ⟨show 0 + 1 ≤ 1 by omega, show 0 + 6 ≤ 6 by omega⟩) (wr := [aL cl o 1 ov]) hP hD hS hA [0, 1, 2, 3, 4, 5, 6, 7] [8] rfl rfl (by decide) (by decide) (fun E ce q9 u H locs hw_1 hP hD hS hce hcv hcl => ?_) (fun r_1 u H locs hw_1 hP hD hS => ?_)
  · skip
    try dsimp only at hw_1
    have hP : va_P G vwCl [aL cl o 1 ov, (q 0, .inr (7, [.ref (q 1), .ref (q 3), .ref (q 5), .ref (q 6), .ref (q 12), .int wr])), (q 5, .inr (3, [.double fac])), (q 6, .inr (2, [.ref (q 7), .ref (q 8), .ref (q 9), .ref (q 10), .ref (q 11), .int (nI pc), .int (nI ic)])), aI ci (q 7) 12 nu, aI ci (q 8) 12 ad, aI ci (q 9) 12 fi, aI ci (q 10) 12 co, aI ci (q 11) 1400 it] H := hP
    have hD : va_D A [aL cl o 1 ov, (q 0, .inr (7, [.ref (q 1), .ref (q 3), .ref (q 5), .ref (q 6), .ref (q 12), .int wr])), (q 5, .inr (3, [.double fac])), (q 6, .inr (2, [.ref (q 7), .ref (q 8), .ref (q 9), .ref (q 10), .ref (q 11), .int (nI pc), .int (nI ic)])), aI ci (q 7) 12 nu, aI ci (q 8) 12 ad, aI ci (q 9) 12 fi, aI ci (q 10) 12 co, aI ci (q 11) 1400 it] := hD
    rcases hw_1 with ⟨rfl, -⟩
    · skip
      refine vx_widen (k := 1) (n := 6) (by omega) (by omega) ?_
      refine vx_catch (name := sNSE) hown [] ⟨0, 12, 15, 31⟩ [] hxt (fun z hz => by cases hz) (by decide) (by decide) (hts (.classLink RL 31 sNSE) (by decide +kernel)) (va_Nw.use rfl k4) hce hcv hcl ?_
      refine lv_astore (lv' := [(5, .ref q9), (0, .ref (q 0)), (1, .int x), (2, .int y), (3, .int z), (4, .ref o)]) hx hb dL_item_15 hl (by decide) rfl (fun ls hl => ?_)
      refine lv_iconst (v := nI 1) hx hb dL_item_17 (by decide) ?_
      exact rI (v := nI 1) hx hb hr hlocks rfl hK hP hD hS [1, 2, 3, 4, 5, 6, 7, 8, 0] ov rfl (by decide) trivial dL_item_18
  · skip
    try dsimp only at hw_1
    have hP : va_P G vwCl [aL cl o 1 ov, (q 0, .inr (7, [.ref (q 1), .ref (q 3), .ref (q 5), .ref (q 6), .ref (q 12), .int wr])), (q 5, .inr (3, [.double fac])), (q 6, .inr (2, [.ref (q 7), .ref (q 8), .ref (q 9), .ref (q 10), .ref (q 11), .int (nI pc), .int (nI ic)])), aI ci (q 7) 12 nu, aI ci (q 8) 12 ad, aI ci (q 9) 12 fi, aI ci (q 10) 12 co, aI ci (q 11) 1400 it] H := hP
    have hD : va_D A [aL cl o 1 ov, (q 0, .inr (7, [.ref (q 1), .ref (q 3), .ref (q 5), .ref (q 6), .ref (q 12), .int wr])), (q 5, .inr (3, [.double fac])), (q 6, .inr (2, [.ref (q 7), .ref (q 8), .ref (q 9), .ref (q 10), .ref (q 11), .int (nI pc), .int (nI ic)])), aI ci (q 7) 12 nu, aI ci (q 8) 12 ad, aI ci (q 9) 12 fi, aI ci (q 10) 12 co, aI ci (q 11) 1400 it] := hD
    refine W.widen (k := 1) (n := 6) (by omega) (by omega) ?_
    refine lv_i2l hx hb dL_item_10 rfl ?_
    refine va_last hx hb hK hP hD hS 0 2 rfl rfl (vp_in_nI (by omega) (by omega)) dL_item_11 (fun H locs hP hD hS => ?_)
    rw [nI_clamp (by omega)] at hP hD
    have hP : va_P G vwCl [aL cl o 1 (vp_updL ov 0 ((r_1).toInt64)), (q 0, .inr (7, [.ref (q 1), .ref (q 3), .ref (q 5), .ref (q 6), .ref (q 12), .int wr])), (q 5, .inr (3, [.double fac])), (q 6, .inr (2, [.ref (q 7), .ref (q 8), .ref (q 9), .ref (q 10), .ref (q 11), .int (nI pc), .int (nI ic)])), aI ci (q 7) 12 nu, aI ci (q 8) 12 ad, aI ci (q 9) 12 fi, aI ci (q 10) 12 co, aI ci (q 11) 1400 it] H := hP
    have hD : va_D A [aL cl o 1 (vp_updL ov 0 ((r_1).toInt64)), (q 0, .inr (7, [.ref (q 1), .ref (q 3), .ref (q 5), .ref (q 6), .ref (q 12), .int wr])), (q 5, .inr (3, [.double fac])), (q 6, .inr (2, [.ref (q 7), .ref (q 8), .ref (q 9), .ref (q 10), .ref (q 11), .int (nI pc), .int (nI ic)])), aI ci (q 7) 12 nu, aI ci (q 8) 12 ad, aI ci (q 9) 12 fi, aI ci (q 10) 12 co, aI ci (q 11) 1400 it] := hD
    refine lv_goto (tgt := 19) hx hb dL_item_12 (by decide) ?_
    refine lv_iconst (v := nI 0) hx hb dL_item_19 (by decide) ?_
    exact rI (v := nI 0) hx hb hr hlocks rfl hK hP hD hS [1, 2, 3, 4, 5, 6, 7, 8, 0] (vp_updL ov 0 ((r_1).toInt64)) rfl (by decide) trivial dL_item_20
