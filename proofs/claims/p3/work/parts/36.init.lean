set_option maxHeartbeats 4000000 in
set_option maxRecDepth 100000 in
theorem c_X0_init (l : Launch) (G : va_G) (ci cz cl : ClassId) (q : Nat → Nat) (sz : Nat) (h : Nat) : CtV l yX0_init wsX0_init ({ frames := 1, cells := 1, slots := 600, locals := 16 }) G (TY ci cz cl) O0 [.ref h] [(h, .inr (0, [.null, .int (nI 0)]))] sz (fun (u : Nat) => True) (fun u : Nat => [(h, .inr (0, [.ref u, .int (nI 0)])), aI ci u 600 (fun _ => 0)]) 1 600 := by
  refine Met.ofW (cc := cX0_init) (maxL := 1) (ret := none) (by decide) rfl ?_
  intro p e s m args below meth c s₁ B hml hv
  obtain ⟨rfl, ⟨hsz, hP, hK, hD0⟩, hO⟩ := hv
  have hx := B.exec
  have hb := B.bytes
  have hr := B.returns
  have hts := atoms_spec (ws := wsX0_init) B.pre
  have hown : s.vm.findClass RX0 = some m.cls := findClass_of_methodNamed B.named
  have hlocks := B.notSynchronized
  have hin : meth.name = "<init>" := (name_of_methodNamed B.named B.method).1
  subst hsz
  have hD := hD0.self (sz := s.heap.size)
  generalize hAe : va_A [(h, .inr (0, [.null, .int (nI 0)]))] s.heap.size = A at hD hO ⊢
  have hA : ∀ q : Nat, s.heap.size ≤ q → A q := fun q h => by rw [← hAe]; exact Or.inr h
  have ok := ok0
  refine startH (A := A) (fun H locs hP hS => ?_) hP
  have m_1 := hts (.methodLink RX0 1 objectInit) (by decide +kernel)
  have m_oi := hts (.instanceMethod objectInit) (by decide +kernel)
  have m_oc := hts (.code objectInit ⟨#[0xb1]⟩ 1 none) (List.mem_cons_of_mem _ (List.mem_append_left _ (List.mem_of_getElem? (i := 2) rfl)))
  have ac_int := hts (.arrayClass .int) (by decide +kernel)
  have hi_X0 := (by decide +kernel : ∀ w ∈ wsX00, w ∈ wsX0_init)
  have f_9 := hts (.fieldLink RX0 9 "PageReader$Bytes" "row" "[I") (by decide +kernel)
  have f_13 := hts (.fieldLink RX0 13 "PageReader$Bytes" "count" "I") (by decide +kernel)
  have hl := lv_entry ([.ref h]) (n := 1) (Nat.le_of_ble_eq_true rfl)
  rw [lg_entry_eq]
  generalize (lg_sl ([.ref h]) ++ List.replicate (1 - (lg_sl ([.ref h])).length) Slot.unset).toArray = ls at hl ⊢
  have hl : lv_has ls 1 [(0, .ref h)] := hl
  refine lv_aload_n hx hb dX0_init_0 rfl (lv_at hl 0 rfl) ?_
  refine W.objInit hx hb hown m_1 m_oi m_oc rfl (by rw [hml]; exact hl.1) rfl dX0_init_1 (Nat.le_of_ble_eq_true rfl) (Nat.le_of_ble_eq_true rfl) ?_
  refine W.eq (g2 := F0 m 4 ls []) rfl ?_
  refine lv_aload_n hx hb dX0_init_4 rfl (lv_at hl 0 rfl) ?_
  refine lv_sipush (v := nI 600) hx hb dX0_init_5 (by decide) ?_
  refine va_newa hx hb ac_int rfl hK hP hD hS hA (n := nI 600) (N' := 600) (a0 := (600, .inl (fun _ => 0))) (fun _ => rfl) (by decide) (by decide) (by decide) (Nat.le_of_ble_eq_true rfl) (Nat.le_of_ble_eq_true rfl) dX0_init_8 (fun q1 cA1 H hK1 hP hD hS => ?_)
  have e1 := cA_eq (tys2 := []) 0 hK hK1 rfl rfl rfl
  subst e1
  clear hK1
  have hP : va_P G vwCl [(h, .inr (0, [.null, .int (nI 0)])), aI ci q1 600 (fun _ => 0)] H := hP
  have hD : va_D A [(h, .inr (0, [.null, .int (nI 0)])), aI ci q1 600 (fun _ => 0)] := hD
  refine W.widen (k := 1) (n := 600) (by omega) (by omega) ?_
  refine va_putF (D := G) (ci := 0) (v := .ref q1) (ty := (.array .int)) (C := RX0) (T := TX0) (N := 2) hx hb hts hi_X0 tyX0 tyX0_ok nmX0 hown hK hP hD hS 0 rfl rfl 0 (by decide) f_9 (fun _ h9 => h9) rfl hin rfl (by decide +kernel) rfl rfl (Nat.le_of_ble_eq_true rfl) dX0_init_10 (fun H locs hP hD hS => ?_)
  have hP : va_P G vwCl [(h, .inr (0, [.ref q1, .int (nI 0)])), aI ci q1 600 (fun _ => 0)] H := hP
  have hD : va_D A [(h, .inr (0, [.ref q1, .int (nI 0)])), aI ci q1 600 (fun _ => 0)] := hD
  refine lv_aload_n hx hb dX0_init_13 rfl (lv_at hl 0 rfl) ?_
  refine lv_iconst (v := nI 0) hx hb dX0_init_14 (by decide) ?_
  refine va_put (D := G) (ci := 0) (v := .int (nI 0)) (ty := .int) (C := RX0) (T := TX0) (N := 2) hx hb hts hi_X0 tyX0 tyX0_ok nmX0 hown hK hP hD hS 0 rfl rfl 1 (by decide) f_13 (fun _ h9 => h9) rfl (by decide +kernel) rfl rfl (Nat.le_of_ble_eq_true rfl) dX0_init_15 (fun H locs hP hD hS => ?_)
  have hP : va_P G vwCl [(h, .inr (0, [.ref q1, .int (nI 0)])), aI ci q1 600 (fun _ => 0)] H := hP
  have hD : va_D A [(h, .inr (0, [.ref q1, .int (nI 0)])), aI ci q1 600 (fun _ => 0)] := hD
  exact rV hx hb hr hlocks hK hP hD hS [0, 1] q1 rfl (by decide) trivial dX0_init_18
set_option maxHeartbeats 4000000 in
set_option maxRecDepth 100000 in
theorem c_X7_init (l : Launch) (G : va_G) (ci cz cl : ClassId) (q : Nat → Nat) (sz : Nat) (h : Nat) : CtV l yX7_init wsX7_init ({ frames := 1, cells := 1, slots := 1024, locals := 16 }) G (TY ci cz cl) O0 [.ref h] [(h, .inr (6, [.null]))] sz (fun (u : Nat) => True) (fun u : Nat => [(h, .inr (6, [.ref u])), aI ci u 1024 (fun _ => 0)]) 1 1024 := by
  refine Met.ofW (cc := cX7_init) (maxL := 1) (ret := none) (by decide) rfl ?_
  intro p e s m args below meth c s₁ B hml hv
  obtain ⟨rfl, ⟨hsz, hP, hK, hD0⟩, hO⟩ := hv
  have hx := B.exec
  have hb := B.bytes
  have hr := B.returns
  have hts := atoms_spec (ws := wsX7_init) B.pre
  have hown : s.vm.findClass RX7 = some m.cls := findClass_of_methodNamed B.named
  have hlocks := B.notSynchronized
  have hin : meth.name = "<init>" := (name_of_methodNamed B.named B.method).1
  subst hsz
  have hD := hD0.self (sz := s.heap.size)
  generalize hAe : va_A [(h, .inr (6, [.null]))] s.heap.size = A at hD hO ⊢
  have hA : ∀ q : Nat, s.heap.size ≤ q → A q := fun q h => by rw [← hAe]; exact Or.inr h
  have ok := ok0
  refine startH (A := A) (fun H locs hP hS => ?_) hP
  have m_1 := hts (.methodLink RX7 1 objectInit) (by decide +kernel)
  have m_oi := hts (.instanceMethod objectInit) (by decide +kernel)
  have m_oc := hts (.code objectInit ⟨#[0xb1]⟩ 1 none) (List.mem_cons_of_mem _ (List.mem_append_left _ (List.mem_of_getElem? (i := 2) rfl)))
  have ac_int := hts (.arrayClass .int) (by decide +kernel)
  have hi_X7 := (by decide +kernel : ∀ w ∈ wsX70, w ∈ wsX7_init)
  have f_11 := hts (.fieldLink RX7 11 "PageReader$Widths" "row" "[I") (by decide +kernel)
  have hl := lv_entry ([.ref h]) (n := 1) (Nat.le_of_ble_eq_true rfl)
  rw [lg_entry_eq]
  generalize (lg_sl ([.ref h]) ++ List.replicate (1 - (lg_sl ([.ref h])).length) Slot.unset).toArray = ls at hl ⊢
  have hl : lv_has ls 1 [(0, .ref h)] := hl
  refine lv_aload_n hx hb dX7_init_0 rfl (lv_at hl 0 rfl) ?_
  refine W.objInit hx hb hown m_1 m_oi m_oc rfl (by rw [hml]; exact hl.1) rfl dX7_init_1 (Nat.le_of_ble_eq_true rfl) (Nat.le_of_ble_eq_true rfl) ?_
  refine W.eq (g2 := F0 m 4 ls []) rfl ?_
  refine lv_aload_n hx hb dX7_init_4 rfl (lv_at hl 0 rfl) ?_
  refine lv_sipush (v := nI 1024) hx hb dX7_init_5 (by decide) ?_
  refine va_newa hx hb ac_int rfl hK hP hD hS hA (n := nI 1024) (N' := 1024) (a0 := (1024, .inl (fun _ => 0))) (fun _ => rfl) (by decide) (by decide) (by decide) (Nat.le_of_ble_eq_true rfl) (Nat.le_of_ble_eq_true rfl) dX7_init_8 (fun q1 cA1 H hK1 hP hD hS => ?_)
  have e1 := cA_eq (tys2 := []) 0 hK hK1 rfl rfl rfl
  subst e1
  clear hK1
  have hP : va_P G vwCl [(h, .inr (6, [.null])), aI ci q1 1024 (fun _ => 0)] H := hP
  have hD : va_D A [(h, .inr (6, [.null])), aI ci q1 1024 (fun _ => 0)] := hD
  refine W.widen (k := 1) (n := 1024) (by omega) (by omega) ?_
  refine va_putF (D := G) (ci := 6) (v := .ref q1) (ty := (.array .int)) (C := RX7) (T := TX7) (N := 1) hx hb hts hi_X7 tyX7 tyX7_ok nmX7 hown hK hP hD hS 0 rfl rfl 0 (by decide) f_11 (fun _ h9 => h9) rfl hin rfl (by decide +kernel) rfl rfl (Nat.le_of_ble_eq_true rfl) dX7_init_10 (fun H locs hP hD hS => ?_)
  have hP : va_P G vwCl [(h, .inr (6, [.ref q1])), aI ci q1 1024 (fun _ => 0)] H := hP
  have hD : va_D A [(h, .inr (6, [.ref q1])), aI ci q1 1024 (fun _ => 0)] := hD
  exact rV hx hb hr hlocks hK hP hD hS [0, 1] q1 rfl (by decide) trivial dX7_init_13
set_option maxHeartbeats 4000000 in
set_option maxRecDepth 100000 in
theorem c_X4_init (l : Launch) (G : va_G) (ci cz cl : ClassId) (q : Nat → Nat) (sz : Nat) (h : Nat) : CtV l yX4_init wsX4_init ({ frames := 1, cells := 0, slots := 0, locals := 16 }) G (TY ci cz cl) O0 [.ref h] [(h, .inr (3, [.double 0]))] sz (fun (u : Unit) => True) (fun u : Unit => [(h, .inr (3, [.double FP.dconst0]))]) 0 0 := by
  refine Met.ofW (cc := cX4_init) (maxL := 1) (ret := none) (by decide) rfl ?_
  intro p e s m args below meth c s₁ B hml hv
  obtain ⟨rfl, ⟨hsz, hP, hK, hD0⟩, hO⟩ := hv
  have hx := B.exec
  have hb := B.bytes
  have hr := B.returns
  have hts := atoms_spec (ws := wsX4_init) B.pre
  have hown : s.vm.findClass RX4 = some m.cls := findClass_of_methodNamed B.named
  have hlocks := B.notSynchronized
  have hin : meth.name = "<init>" := (name_of_methodNamed B.named B.method).1
  subst hsz
  have hD := hD0.self (sz := s.heap.size)
  generalize hAe : va_A [(h, .inr (3, [.double 0]))] s.heap.size = A at hD hO ⊢
  have hA : ∀ q : Nat, s.heap.size ≤ q → A q := fun q h => by rw [← hAe]; exact Or.inr h
  have ok := ok0
  refine startH (A := A) (fun H locs hP hS => ?_) hP
  have m_1 := hts (.methodLink RX4 1 objectInit) (by decide +kernel)
  have m_oi := hts (.instanceMethod objectInit) (by decide +kernel)
  have m_oc := hts (.code objectInit ⟨#[0xb1]⟩ 1 none) (List.mem_cons_of_mem _ (List.mem_append_left _ (List.mem_of_getElem? (i := 2) rfl)))
  have hi_X4 := (by decide +kernel : ∀ w ∈ wsX40, w ∈ wsX4_init)
  have f_7 := hts (.fieldLink RX4 7 "PageReader$Pixels" "factor" "D") (by decide +kernel)
  have hl := lv_entry ([.ref h]) (n := 1) (Nat.le_of_ble_eq_true rfl)
  rw [lg_entry_eq]
  generalize (lg_sl ([.ref h]) ++ List.replicate (1 - (lg_sl ([.ref h])).length) Slot.unset).toArray = ls at hl ⊢
  have hl : lv_has ls 1 [(0, .ref h)] := hl
  refine lv_aload_n hx hb dX4_init_0 rfl (lv_at hl 0 rfl) ?_
  refine W.objInit hx hb hown m_1 m_oi m_oc rfl (by rw [hml]; exact hl.1) rfl dX4_init_1 (Nat.le_of_ble_eq_true rfl) (Nat.le_of_ble_eq_true rfl) ?_
  refine W.eq (g2 := F0 m 4 ls []) rfl ?_
  refine lv_aload_n hx hb dX4_init_4 rfl (lv_at hl 0 rfl) ?_
  refine lv_dconst0 hx hb dX4_init_5 ?_
  refine va_put (D := G) (ci := 3) (v := .double FP.dconst0) (ty := .double) (C := RX4) (T := TX4) (N := 1) hx hb hts hi_X4 tyX4 tyX4_ok nmX4 hown hK hP hD hS 0 rfl rfl 0 (by decide) f_7 (fun _ h9 => h9) rfl (by decide +kernel) rfl rfl (Nat.le_of_ble_eq_true rfl) dX4_init_6 (fun H locs hP hD hS => ?_)
  have hP : va_P G vwCl [(h, .inr (3, [.double FP.dconst0]))] H := hP
  have hD : va_D A [(h, .inr (3, [.double FP.dconst0]))] := hD
  exact rV hx hb hr hlocks hK hP hD hS [0] () rfl (by decide) trivial dX4_init_9
set_option maxHeartbeats 4000000 in
set_option maxRecDepth 100000 in
theorem c_X3_init (l : Launch) (G : va_G) (ci cz cl : ClassId) (q : Nat → Nat) (sz : Nat) (h : Nat) : CtV l yX3_init wsX3_init ({ frames := 1, cells := 5, slots := 1448, locals := 16 }) G (TY ci cz cl) O0 [.ref h] [(h, .inr (2, [.null, .null, .null, .null, .null, .int (nI 0), .int (nI 0)]))] sz (fun (u : Nat × Nat × Nat × Nat × Nat) => True) (fun u : Nat × Nat × Nat × Nat × Nat => [(h, .inr (2, [.ref u.1, .ref u.2.1, .ref u.2.2.1, .ref u.2.2.2.1, .ref u.2.2.2.2, .int (nI 0), .int (nI 0)])), aI ci u.1 12 (fun _ => 0), aI ci u.2.1 12 (fun _ => 0), aI ci u.2.2.1 12 (fun _ => 0), aI ci u.2.2.2.1 12 (fun _ => 0), aI ci u.2.2.2.2 1400 (fun _ => 0)]) 5 1448 := by
  refine Met.ofW (cc := cX3_init) (maxL := 1) (ret := none) (by decide) rfl ?_
  intro p e s m args below meth c s₁ B hml hv
  obtain ⟨rfl, ⟨hsz, hP, hK, hD0⟩, hO⟩ := hv
  have hx := B.exec
  have hb := B.bytes
  have hr := B.returns
  have hts := atoms_spec (ws := wsX3_init) B.pre
  have hown : s.vm.findClass RX3 = some m.cls := findClass_of_methodNamed B.named
  have hlocks := B.notSynchronized
  have hin : meth.name = "<init>" := (name_of_methodNamed B.named B.method).1
  subst hsz
  have hD := hD0.self (sz := s.heap.size)
  generalize hAe : va_A [(h, .inr (2, [.null, .null, .null, .null, .null, .int (nI 0), .int (nI 0)]))] s.heap.size = A at hD hO ⊢
  have hA : ∀ q : Nat, s.heap.size ≤ q → A q := fun q h => by rw [← hAe]; exact Or.inr h
  have ok := ok0
  refine startH (A := A) (fun H locs hP hS => ?_) hP
  have m_1 := hts (.methodLink RX3 1 objectInit) (by decide +kernel)
  have m_oi := hts (.instanceMethod objectInit) (by decide +kernel)
  have m_oc := hts (.code objectInit ⟨#[0xb1]⟩ 1 none) (List.mem_cons_of_mem _ (List.mem_append_left _ (List.mem_of_getElem? (i := 2) rfl)))
  have ac_int := hts (.arrayClass .int) (by decide +kernel)
  have hi_X3 := (by decide +kernel : ∀ w ∈ wsX30, w ∈ wsX3_init)
  have f_9 := hts (.fieldLink RX3 9 "PageReader$Pages" "numbers" "[I") (by decide +kernel)
  have f_13 := hts (.fieldLink RX3 13 "PageReader$Pages" "addresses" "[I") (by decide +kernel)
  have f_16 := hts (.fieldLink RX3 16 "PageReader$Pages" "firstItems" "[I") (by decide +kernel)
  have f_19 := hts (.fieldLink RX3 19 "PageReader$Pages" "itemCounts" "[I") (by decide +kernel)
  have f_22 := hts (.fieldLink RX3 22 "PageReader$Pages" "items" "[I") (by decide +kernel)
  have f_25 := hts (.fieldLink RX3 25 "PageReader$Pages" "count" "I") (by decide +kernel)
  have f_29 := hts (.fieldLink RX3 29 "PageReader$Pages" "itemCount" "I") (by decide +kernel)
  have hl := lv_entry ([.ref h]) (n := 1) (Nat.le_of_ble_eq_true rfl)
  rw [lg_entry_eq]
  generalize (lg_sl ([.ref h]) ++ List.replicate (1 - (lg_sl ([.ref h])).length) Slot.unset).toArray = ls at hl ⊢
  have hl : lv_has ls 1 [(0, .ref h)] := hl
  refine lv_aload_n hx hb dX3_init_0 rfl (lv_at hl 0 rfl) ?_
  refine W.objInit hx hb hown m_1 m_oi m_oc rfl (by rw [hml]; exact hl.1) rfl dX3_init_1 (Nat.le_of_ble_eq_true rfl) (Nat.le_of_ble_eq_true rfl) ?_
  refine W.eq (g2 := F0 m 4 ls []) rfl ?_
  refine lv_aload_n hx hb dX3_init_4 rfl (lv_at hl 0 rfl) ?_
  refine lv_bipush (v := nI 12) hx hb dX3_init_5 (by decide) ?_
  refine va_newa hx hb ac_int rfl hK hP hD hS hA (n := nI 12) (N' := 12) (a0 := (12, .inl (fun _ => 0))) (fun _ => rfl) (by decide) (by decide) (by decide) (Nat.le_of_ble_eq_true rfl) (Nat.le_of_ble_eq_true rfl) dX3_init_7 (fun q1 cA1 H hK1 hP hD hS => ?_)
  have e1 := cA_eq (tys2 := []) 0 hK hK1 rfl rfl rfl
  subst e1
  clear hK1
  have hP : va_P G vwCl [(h, .inr (2, [.null, .null, .null, .null, .null, .int (nI 0), .int (nI 0)])), aI ci q1 12 (fun _ => 0)] H := hP
  have hD : va_D A [(h, .inr (2, [.null, .null, .null, .null, .null, .int (nI 0), .int (nI 0)])), aI ci q1 12 (fun _ => 0)] := hD
  refine W.widen (k := 1) (n := 12) (by omega) (by omega) ?_
  refine va_putF (D := G) (ci := 2) (v := .ref q1) (ty := (.array .int)) (C := RX3) (T := TX3) (N := 7) hx hb hts hi_X3 tyX3 tyX3_ok nmX3 hown hK hP hD hS 0 rfl rfl 0 (by decide) f_9 (fun _ h9 => h9) rfl hin rfl (by decide +kernel) rfl rfl (Nat.le_of_ble_eq_true rfl) dX3_init_9 (fun H locs hP hD hS => ?_)
  have hP : va_P G vwCl [(h, .inr (2, [.ref q1, .null, .null, .null, .null, .int (nI 0), .int (nI 0)])), aI ci q1 12 (fun _ => 0)] H := hP
  have hD : va_D A [(h, .inr (2, [.ref q1, .null, .null, .null, .null, .int (nI 0), .int (nI 0)])), aI ci q1 12 (fun _ => 0)] := hD
  refine lv_aload_n hx hb dX3_init_12 rfl (lv_at hl 0 rfl) ?_
  refine lv_bipush (v := nI 12) hx hb dX3_init_13 (by decide) ?_
  refine va_newa hx hb ac_int rfl hK hP hD hS hA (n := nI 12) (N' := 12) (a0 := (12, .inl (fun _ => 0))) (fun _ => rfl) (by decide) (by decide) (by decide) (Nat.le_of_ble_eq_true rfl) (Nat.le_of_ble_eq_true rfl) dX3_init_15 (fun q2 cA2 H hK2 hP hD hS => ?_)
  have e2 := cA_eq (tys2 := []) 0 hK hK2 rfl rfl rfl
  subst e2
  clear hK2
  have hP : va_P G vwCl [(h, .inr (2, [.ref q1, .null, .null, .null, .null, .int (nI 0), .int (nI 0)])), aI ci q1 12 (fun _ => 0), aI ci q2 12 (fun _ => 0)] H := hP
  have hD : va_D A [(h, .inr (2, [.ref q1, .null, .null, .null, .null, .int (nI 0), .int (nI 0)])), aI ci q1 12 (fun _ => 0), aI ci q2 12 (fun _ => 0)] := hD
  refine W.widen (k := 2) (n := 24) (by omega) (by omega) ?_
  refine va_putF (D := G) (ci := 2) (v := .ref q2) (ty := (.array .int)) (C := RX3) (T := TX3) (N := 7) hx hb hts hi_X3 tyX3 tyX3_ok nmX3 hown hK hP hD hS 0 rfl rfl 1 (by decide) f_13 (fun _ h9 => h9) rfl hin rfl (by decide +kernel) rfl rfl (Nat.le_of_ble_eq_true rfl) dX3_init_17 (fun H locs hP hD hS => ?_)
  have hP : va_P G vwCl [(h, .inr (2, [.ref q1, .ref q2, .null, .null, .null, .int (nI 0), .int (nI 0)])), aI ci q1 12 (fun _ => 0), aI ci q2 12 (fun _ => 0)] H := hP
  have hD : va_D A [(h, .inr (2, [.ref q1, .ref q2, .null, .null, .null, .int (nI 0), .int (nI 0)])), aI ci q1 12 (fun _ => 0), aI ci q2 12 (fun _ => 0)] := hD
  refine lv_aload_n hx hb dX3_init_20 rfl (lv_at hl 0 rfl) ?_
  refine lv_bipush (v := nI 12) hx hb dX3_init_21 (by decide) ?_
  refine va_newa hx hb ac_int rfl hK hP hD hS hA (n := nI 12) (N' := 12) (a0 := (12, .inl (fun _ => 0))) (fun _ => rfl) (by decide) (by decide) (by decide) (Nat.le_of_ble_eq_true rfl) (Nat.le_of_ble_eq_true rfl) dX3_init_23 (fun q3 cA3 H hK3 hP hD hS => ?_)
  have e3 := cA_eq (tys2 := []) 0 hK hK3 rfl rfl rfl
  subst e3
  clear hK3
  have hP : va_P G vwCl [(h, .inr (2, [.ref q1, .ref q2, .null, .null, .null, .int (nI 0), .int (nI 0)])), aI ci q1 12 (fun _ => 0), aI ci q2 12 (fun _ => 0), aI ci q3 12 (fun _ => 0)] H := hP
  have hD : va_D A [(h, .inr (2, [.ref q1, .ref q2, .null, .null, .null, .int (nI 0), .int (nI 0)])), aI ci q1 12 (fun _ => 0), aI ci q2 12 (fun _ => 0), aI ci q3 12 (fun _ => 0)] := hD
  refine W.widen (k := 3) (n := 36) (by omega) (by omega) ?_
  refine va_putF (D := G) (ci := 2) (v := .ref q3) (ty := (.array .int)) (C := RX3) (T := TX3) (N := 7) hx hb hts hi_X3 tyX3 tyX3_ok nmX3 hown hK hP hD hS 0 rfl rfl 2 (by decide) f_16 (fun _ h9 => h9) rfl hin rfl (by decide +kernel) rfl rfl (Nat.le_of_ble_eq_true rfl) dX3_init_25 (fun H locs hP hD hS => ?_)
  have hP : va_P G vwCl [(h, .inr (2, [.ref q1, .ref q2, .ref q3, .null, .null, .int (nI 0), .int (nI 0)])), aI ci q1 12 (fun _ => 0), aI ci q2 12 (fun _ => 0), aI ci q3 12 (fun _ => 0)] H := hP
  have hD : va_D A [(h, .inr (2, [.ref q1, .ref q2, .ref q3, .null, .null, .int (nI 0), .int (nI 0)])), aI ci q1 12 (fun _ => 0), aI ci q2 12 (fun _ => 0), aI ci q3 12 (fun _ => 0)] := hD
  refine lv_aload_n hx hb dX3_init_28 rfl (lv_at hl 0 rfl) ?_
  refine lv_bipush (v := nI 12) hx hb dX3_init_29 (by decide) ?_
  refine va_newa hx hb ac_int rfl hK hP hD hS hA (n := nI 12) (N' := 12) (a0 := (12, .inl (fun _ => 0))) (fun _ => rfl) (by decide) (by decide) (by decide) (Nat.le_of_ble_eq_true rfl) (Nat.le_of_ble_eq_true rfl) dX3_init_31 (fun q4 cA4 H hK4 hP hD hS => ?_)
  have e4 := cA_eq (tys2 := []) 0 hK hK4 rfl rfl rfl
  subst e4
  clear hK4
  have hP : va_P G vwCl [(h, .inr (2, [.ref q1, .ref q2, .ref q3, .null, .null, .int (nI 0), .int (nI 0)])), aI ci q1 12 (fun _ => 0), aI ci q2 12 (fun _ => 0), aI ci q3 12 (fun _ => 0), aI ci q4 12 (fun _ => 0)] H := hP
  have hD : va_D A [(h, .inr (2, [.ref q1, .ref q2, .ref q3, .null, .null, .int (nI 0), .int (nI 0)])), aI ci q1 12 (fun _ => 0), aI ci q2 12 (fun _ => 0), aI ci q3 12 (fun _ => 0), aI ci q4 12 (fun _ => 0)] := hD
  refine W.widen (k := 4) (n := 48) (by omega) (by omega) ?_
  refine va_putF (D := G) (ci := 2) (v := .ref q4) (ty := (.array .int)) (C := RX3) (T := TX3) (N := 7) hx hb hts hi_X3 tyX3 tyX3_ok nmX3 hown hK hP hD hS 0 rfl rfl 3 (by decide) f_19 (fun _ h9 => h9) rfl hin rfl (by decide +kernel) rfl rfl (Nat.le_of_ble_eq_true rfl) dX3_init_33 (fun H locs hP hD hS => ?_)
  have hP : va_P G vwCl [(h, .inr (2, [.ref q1, .ref q2, .ref q3, .ref q4, .null, .int (nI 0), .int (nI 0)])), aI ci q1 12 (fun _ => 0), aI ci q2 12 (fun _ => 0), aI ci q3 12 (fun _ => 0), aI ci q4 12 (fun _ => 0)] H := hP
  have hD : va_D A [(h, .inr (2, [.ref q1, .ref q2, .ref q3, .ref q4, .null, .int (nI 0), .int (nI 0)])), aI ci q1 12 (fun _ => 0), aI ci q2 12 (fun _ => 0), aI ci q3 12 (fun _ => 0), aI ci q4 12 (fun _ => 0)] := hD
  refine lv_aload_n hx hb dX3_init_36 rfl (lv_at hl 0 rfl) ?_
  refine lv_sipush (v := nI 1400) hx hb dX3_init_37 (by decide) ?_
  refine va_newa hx hb ac_int rfl hK hP hD hS hA (n := nI 1400) (N' := 1400) (a0 := (1400, .inl (fun _ => 0))) (fun _ => rfl) (by decide) (by decide) (by decide) (Nat.le_of_ble_eq_true rfl) (Nat.le_of_ble_eq_true rfl) dX3_init_40 (fun q5 cA5 H hK5 hP hD hS => ?_)
  have e5 := cA_eq (tys2 := []) 0 hK hK5 rfl rfl rfl
  subst e5
  clear hK5
  have hP : va_P G vwCl [(h, .inr (2, [.ref q1, .ref q2, .ref q3, .ref q4, .null, .int (nI 0), .int (nI 0)])), aI ci q1 12 (fun _ => 0), aI ci q2 12 (fun _ => 0), aI ci q3 12 (fun _ => 0), aI ci q4 12 (fun _ => 0), aI ci q5 1400 (fun _ => 0)] H := hP
  have hD : va_D A [(h, .inr (2, [.ref q1, .ref q2, .ref q3, .ref q4, .null, .int (nI 0), .int (nI 0)])), aI ci q1 12 (fun _ => 0), aI ci q2 12 (fun _ => 0), aI ci q3 12 (fun _ => 0), aI ci q4 12 (fun _ => 0), aI ci q5 1400 (fun _ => 0)] := hD
  refine W.widen (k := 5) (n := 1448) (by omega) (by omega) ?_
  refine va_putF (D := G) (ci := 2) (v := .ref q5) (ty := (.array .int)) (C := RX3) (T := TX3) (N := 7) hx hb hts hi_X3 tyX3 tyX3_ok nmX3 hown hK hP hD hS 0 rfl rfl 4 (by decide) f_22 (fun _ h9 => h9) rfl hin rfl (by decide +kernel) rfl rfl (Nat.le_of_ble_eq_true rfl) dX3_init_42 (fun H locs hP hD hS => ?_)
  have hP : va_P G vwCl [(h, .inr (2, [.ref q1, .ref q2, .ref q3, .ref q4, .ref q5, .int (nI 0), .int (nI 0)])), aI ci q1 12 (fun _ => 0), aI ci q2 12 (fun _ => 0), aI ci q3 12 (fun _ => 0), aI ci q4 12 (fun _ => 0), aI ci q5 1400 (fun _ => 0)] H := hP
  have hD : va_D A [(h, .inr (2, [.ref q1, .ref q2, .ref q3, .ref q4, .ref q5, .int (nI 0), .int (nI 0)])), aI ci q1 12 (fun _ => 0), aI ci q2 12 (fun _ => 0), aI ci q3 12 (fun _ => 0), aI ci q4 12 (fun _ => 0), aI ci q5 1400 (fun _ => 0)] := hD
  refine lv_aload_n hx hb dX3_init_45 rfl (lv_at hl 0 rfl) ?_
  refine lv_iconst (v := nI 0) hx hb dX3_init_46 (by decide) ?_
  refine va_put (D := G) (ci := 2) (v := .int (nI 0)) (ty := .int) (C := RX3) (T := TX3) (N := 7) hx hb hts hi_X3 tyX3 tyX3_ok nmX3 hown hK hP hD hS 0 rfl rfl 5 (by decide) f_25 (fun _ h9 => h9) rfl (by decide +kernel) rfl rfl (Nat.le_of_ble_eq_true rfl) dX3_init_47 (fun H locs hP hD hS => ?_)
  have hP : va_P G vwCl [(h, .inr (2, [.ref q1, .ref q2, .ref q3, .ref q4, .ref q5, .int (nI 0), .int (nI 0)])), aI ci q1 12 (fun _ => 0), aI ci q2 12 (fun _ => 0), aI ci q3 12 (fun _ => 0), aI ci q4 12 (fun _ => 0), aI ci q5 1400 (fun _ => 0)] H := hP
  have hD : va_D A [(h, .inr (2, [.ref q1, .ref q2, .ref q3, .ref q4, .ref q5, .int (nI 0), .int (nI 0)])), aI ci q1 12 (fun _ => 0), aI ci q2 12 (fun _ => 0), aI ci q3 12 (fun _ => 0), aI ci q4 12 (fun _ => 0), aI ci q5 1400 (fun _ => 0)] := hD
  refine lv_aload_n hx hb dX3_init_50 rfl (lv_at hl 0 rfl) ?_
  refine lv_iconst (v := nI 0) hx hb dX3_init_51 (by decide) ?_
  refine va_put (D := G) (ci := 2) (v := .int (nI 0)) (ty := .int) (C := RX3) (T := TX3) (N := 7) hx hb hts hi_X3 tyX3 tyX3_ok nmX3 hown hK hP hD hS 0 rfl rfl 6 (by decide) f_29 (fun _ h9 => h9) rfl (by decide +kernel) rfl rfl (Nat.le_of_ble_eq_true rfl) dX3_init_52 (fun H locs hP hD hS => ?_)
  have hP : va_P G vwCl [(h, .inr (2, [.ref q1, .ref q2, .ref q3, .ref q4, .ref q5, .int (nI 0), .int (nI 0)])), aI ci q1 12 (fun _ => 0), aI ci q2 12 (fun _ => 0), aI ci q3 12 (fun _ => 0), aI ci q4 12 (fun _ => 0), aI ci q5 1400 (fun _ => 0)] H := hP
  have hD : va_D A [(h, .inr (2, [.ref q1, .ref q2, .ref q3, .ref q4, .ref q5, .int (nI 0), .int (nI 0)])), aI ci q1 12 (fun _ => 0), aI ci q2 12 (fun _ => 0), aI ci q3 12 (fun _ => 0), aI ci q4 12 (fun _ => 0), aI ci q5 1400 (fun _ => 0)] := hD
  exact rV hx hb hr hlocks hK hP hD hS [0, 1, 2, 3, 4, 5] (q1, q2, q3, q4, q5) rfl (by decide) trivial dX3_init_55
set_option maxHeartbeats 4000000 in
set_option maxRecDepth 100000 in
theorem c_X1_init (l : Launch) (G : va_G) (ci cz cl : ClassId) (q : Nat → Nat) (sz : Nat) (h : Nat) : CtV l yX1_init wsX1_init ({ frames := 1, cells := 3, slots := 24, locals := 16 }) G (TY ci cz cl) O0 [.ref h] [(h, .inr (1, [.null, .null, .null]))] sz (fun (u : Nat × Nat × Nat) => True) (fun u : Nat × Nat × Nat => [(h, .inr (1, [.ref u.1, .ref u.2.1, .ref u.2.2])), aI ci u.1 8 (fun _ => 0), aI ci u.2.1 8 (fun _ => 0), aI ci u.2.2 8 (fun _ => 0)]) 3 24 := by
  refine Met.ofW (cc := cX1_init) (maxL := 1) (ret := none) (by decide) rfl ?_
  intro p e s m args below meth c s₁ B hml hv
  obtain ⟨rfl, ⟨hsz, hP, hK, hD0⟩, hO⟩ := hv
  have hx := B.exec
  have hb := B.bytes
  have hr := B.returns
  have hts := atoms_spec (ws := wsX1_init) B.pre
  have hown : s.vm.findClass RX1 = some m.cls := findClass_of_methodNamed B.named
  have hlocks := B.notSynchronized
  have hin : meth.name = "<init>" := (name_of_methodNamed B.named B.method).1
  subst hsz
  have hD := hD0.self (sz := s.heap.size)
  generalize hAe : va_A [(h, .inr (1, [.null, .null, .null]))] s.heap.size = A at hD hO ⊢
  have hA : ∀ q : Nat, s.heap.size ≤ q → A q := fun q h => by rw [← hAe]; exact Or.inr h
  have ok := ok0
  refine startH (A := A) (fun H locs hP hS => ?_) hP
  have m_1 := hts (.methodLink RX1 1 objectInit) (by decide +kernel)
  have m_oi := hts (.instanceMethod objectInit) (by decide +kernel)
  have m_oc := hts (.code objectInit ⟨#[0xb1]⟩ 1 none) (List.mem_cons_of_mem _ (List.mem_append_left _ (List.mem_of_getElem? (i := 2) rfl)))
  have ac_int := hts (.arrayClass .int) (by decide +kernel)
  have hi_X1 := (by decide +kernel : ∀ w ∈ wsX10, w ∈ wsX1_init)
  have f_9 := hts (.fieldLink RX1 9 "PageReader$Fonts" "states" "[I") (by decide +kernel)
  have f_13 := hts (.fieldLink RX1 13 "PageReader$Fonts" "marks" "[I") (by decide +kernel)
  have f_16 := hts (.fieldLink RX1 16 "PageReader$Fonts" "scales" "[I") (by decide +kernel)
  have hl := lv_entry ([.ref h]) (n := 1) (Nat.le_of_ble_eq_true rfl)
  rw [lg_entry_eq]
  generalize (lg_sl ([.ref h]) ++ List.replicate (1 - (lg_sl ([.ref h])).length) Slot.unset).toArray = ls at hl ⊢
  have hl : lv_has ls 1 [(0, .ref h)] := hl
  refine lv_aload_n hx hb dX1_init_0 rfl (lv_at hl 0 rfl) ?_
  refine W.objInit hx hb hown m_1 m_oi m_oc rfl (by rw [hml]; exact hl.1) rfl dX1_init_1 (Nat.le_of_ble_eq_true rfl) (Nat.le_of_ble_eq_true rfl) ?_
  refine W.eq (g2 := F0 m 4 ls []) rfl ?_
  refine lv_aload_n hx hb dX1_init_4 rfl (lv_at hl 0 rfl) ?_
  refine lv_bipush (v := nI 8) hx hb dX1_init_5 (by decide) ?_
  refine va_newa hx hb ac_int rfl hK hP hD hS hA (n := nI 8) (N' := 8) (a0 := (8, .inl (fun _ => 0))) (fun _ => rfl) (by decide) (by decide) (by decide) (Nat.le_of_ble_eq_true rfl) (Nat.le_of_ble_eq_true rfl) dX1_init_7 (fun q1 cA1 H hK1 hP hD hS => ?_)
  have e1 := cA_eq (tys2 := []) 0 hK hK1 rfl rfl rfl
  subst e1
  clear hK1
  have hP : va_P G vwCl [(h, .inr (1, [.null, .null, .null])), aI ci q1 8 (fun _ => 0)] H := hP
  have hD : va_D A [(h, .inr (1, [.null, .null, .null])), aI ci q1 8 (fun _ => 0)] := hD
  refine W.widen (k := 1) (n := 8) (by omega) (by omega) ?_
  refine va_putF (D := G) (ci := 1) (v := .ref q1) (ty := (.array .int)) (C := RX1) (T := TX1) (N := 3) hx hb hts hi_X1 tyX1 tyX1_ok nmX1 hown hK hP hD hS 0 rfl rfl 0 (by decide) f_9 (fun _ h9 => h9) rfl hin rfl (by decide +kernel) rfl rfl (Nat.le_of_ble_eq_true rfl) dX1_init_9 (fun H locs hP hD hS => ?_)
  have hP : va_P G vwCl [(h, .inr (1, [.ref q1, .null, .null])), aI ci q1 8 (fun _ => 0)] H := hP
  have hD : va_D A [(h, .inr (1, [.ref q1, .null, .null])), aI ci q1 8 (fun _ => 0)] := hD
  refine lv_aload_n hx hb dX1_init_12 rfl (lv_at hl 0 rfl) ?_
  refine lv_bipush (v := nI 8) hx hb dX1_init_13 (by decide) ?_
  refine va_newa hx hb ac_int rfl hK hP hD hS hA (n := nI 8) (N' := 8) (a0 := (8, .inl (fun _ => 0))) (fun _ => rfl) (by decide) (by decide) (by decide) (Nat.le_of_ble_eq_true rfl) (Nat.le_of_ble_eq_true rfl) dX1_init_15 (fun q2 cA2 H hK2 hP hD hS => ?_)
  have e2 := cA_eq (tys2 := []) 0 hK hK2 rfl rfl rfl
  subst e2
  clear hK2
  have hP : va_P G vwCl [(h, .inr (1, [.ref q1, .null, .null])), aI ci q1 8 (fun _ => 0), aI ci q2 8 (fun _ => 0)] H := hP
  have hD : va_D A [(h, .inr (1, [.ref q1, .null, .null])), aI ci q1 8 (fun _ => 0), aI ci q2 8 (fun _ => 0)] := hD
  refine W.widen (k := 2) (n := 16) (by omega) (by omega) ?_
  refine va_putF (D := G) (ci := 1) (v := .ref q2) (ty := (.array .int)) (C := RX1) (T := TX1) (N := 3) hx hb hts hi_X1 tyX1 tyX1_ok nmX1 hown hK hP hD hS 0 rfl rfl 1 (by decide) f_13 (fun _ h9 => h9) rfl hin rfl (by decide +kernel) rfl rfl (Nat.le_of_ble_eq_true rfl) dX1_init_17 (fun H locs hP hD hS => ?_)
  have hP : va_P G vwCl [(h, .inr (1, [.ref q1, .ref q2, .null])), aI ci q1 8 (fun _ => 0), aI ci q2 8 (fun _ => 0)] H := hP
  have hD : va_D A [(h, .inr (1, [.ref q1, .ref q2, .null])), aI ci q1 8 (fun _ => 0), aI ci q2 8 (fun _ => 0)] := hD
  refine lv_aload_n hx hb dX1_init_20 rfl (lv_at hl 0 rfl) ?_
  refine lv_bipush (v := nI 8) hx hb dX1_init_21 (by decide) ?_
  refine va_newa hx hb ac_int rfl hK hP hD hS hA (n := nI 8) (N' := 8) (a0 := (8, .inl (fun _ => 0))) (fun _ => rfl) (by decide) (by decide) (by decide) (Nat.le_of_ble_eq_true rfl) (Nat.le_of_ble_eq_true rfl) dX1_init_23 (fun q3 cA3 H hK3 hP hD hS => ?_)
  have e3 := cA_eq (tys2 := []) 0 hK hK3 rfl rfl rfl
  subst e3
  clear hK3
  have hP : va_P G vwCl [(h, .inr (1, [.ref q1, .ref q2, .null])), aI ci q1 8 (fun _ => 0), aI ci q2 8 (fun _ => 0), aI ci q3 8 (fun _ => 0)] H := hP
  have hD : va_D A [(h, .inr (1, [.ref q1, .ref q2, .null])), aI ci q1 8 (fun _ => 0), aI ci q2 8 (fun _ => 0), aI ci q3 8 (fun _ => 0)] := hD
  refine W.widen (k := 3) (n := 24) (by omega) (by omega) ?_
  refine va_putF (D := G) (ci := 1) (v := .ref q3) (ty := (.array .int)) (C := RX1) (T := TX1) (N := 3) hx hb hts hi_X1 tyX1 tyX1_ok nmX1 hown hK hP hD hS 0 rfl rfl 2 (by decide) f_16 (fun _ h9 => h9) rfl hin rfl (by decide +kernel) rfl rfl (Nat.le_of_ble_eq_true rfl) dX1_init_25 (fun H locs hP hD hS => ?_)
  have hP : va_P G vwCl [(h, .inr (1, [.ref q1, .ref q2, .ref q3])), aI ci q1 8 (fun _ => 0), aI ci q2 8 (fun _ => 0), aI ci q3 8 (fun _ => 0)] H := hP
  have hD : va_D A [(h, .inr (1, [.ref q1, .ref q2, .ref q3])), aI ci q1 8 (fun _ => 0), aI ci q2 8 (fun _ => 0), aI ci q3 8 (fun _ => 0)] := hD
  exact rV hx hb hr hlocks hK hP hD hS [0, 1, 2, 3] (q1, q2, q3) rfl (by decide) trivial dX1_init_28
set_option maxHeartbeats 4000000 in
set_option maxRecDepth 100000 in
theorem c_X5_init (l : Launch) (G : va_G) (ci cz cl : ClassId) (q : Nat → Nat) (sz : Nat) (h : Nat) (p5 : Nat) : CtV l yX5_init wsX5_init ({ frames := 1, cells := 2, slots := 168, locals := 16 }) G (TY ci cz cl) O0 [.ref h, .ref p5] [(h, .inr (4, [.null, .null, .null, .int (nI 0), .int (nI 0), .int (nI 0), .int (nI 0)]))] sz (fun (u : Nat × Nat) => True) (fun u : Nat × Nat => [(h, .inr (4, [.ref p5, .ref u.1, .ref u.2, .int (nI 0), .int (nI 0), .int (-1), .int (nI 0)])), aI ci u.1 8 (fun _ => 0), aI ci u.2 160 (fun _ => 0)]) 2 168 := by
  refine Met.ofW (cc := cX5_init) (maxL := 2) (ret := none) (by decide) rfl ?_
  intro p e s m args below meth c s₁ B hml hv
  obtain ⟨rfl, ⟨hsz, hP, hK, hD0⟩, hO⟩ := hv
  have hx := B.exec
  have hb := B.bytes
  have hr := B.returns
  have hts := atoms_spec (ws := wsX5_init) B.pre
  have hown : s.vm.findClass RX5 = some m.cls := findClass_of_methodNamed B.named
  have hlocks := B.notSynchronized
  have hin : meth.name = "<init>" := (name_of_methodNamed B.named B.method).1
  subst hsz
  have hD := hD0.self (sz := s.heap.size)
  generalize hAe : va_A [(h, .inr (4, [.null, .null, .null, .int (nI 0), .int (nI 0), .int (nI 0), .int (nI 0)]))] s.heap.size = A at hD hO ⊢
  have hA : ∀ q : Nat, s.heap.size ≤ q → A q := fun q h => by rw [← hAe]; exact Or.inr h
  have ok := ok0
  refine startH (A := A) (fun H locs hP hS => ?_) hP
  have m_1 := hts (.methodLink RX5 1 objectInit) (by decide +kernel)
  have m_oi := hts (.instanceMethod objectInit) (by decide +kernel)
  have m_oc := hts (.code objectInit ⟨#[0xb1]⟩ 1 none) (List.mem_cons_of_mem _ (List.mem_append_left _ (List.mem_of_getElem? (i := 2) rfl)))
  have hi_X5 := (by decide +kernel : ∀ w ∈ wsX50, w ∈ wsX5_init)
  have f_7 := hts (.fieldLink RX5 7 "PageReader$Place" "pixels" "LPageReader$Pixels;") (by decide +kernel)
  have ac_int := hts (.arrayClass .int) (by decide +kernel)
  have f_13 := hts (.fieldLink RX5 13 "PageReader$Place" "now" "[I") (by decide +kernel)
  have f_17 := hts (.fieldLink RX5 17 "PageReader$Place" "kept" "[I") (by decide +kernel)
  have f_20 := hts (.fieldLink RX5 20 "PageReader$Place" "keptCount" "I") (by decide +kernel)
  have f_24 := hts (.fieldLink RX5 24 "PageReader$Place" "depth" "I") (by decide +kernel)
  have f_27 := hts (.fieldLink RX5 27 "PageReader$Place" "font" "I") (by decide +kernel)
  have f_30 := hts (.fieldLink RX5 30 "PageReader$Place" "scale" "I") (by decide +kernel)
  have hl := lv_entry ([.ref h, .ref p5]) (n := 2) (Nat.le_of_ble_eq_true rfl)
  rw [lg_entry_eq]
  generalize (lg_sl ([.ref h, .ref p5]) ++ List.replicate (2 - (lg_sl ([.ref h, .ref p5])).length) Slot.unset).toArray = ls at hl ⊢
  have hl : lv_has ls 2 [(0, .ref h), (1, .ref p5)] := hl
  refine lv_aload_n hx hb dX5_init_0 rfl (lv_at hl 0 rfl) ?_
  refine W.objInit hx hb hown m_1 m_oi m_oc rfl (by rw [hml]; exact hl.1) rfl dX5_init_1 (Nat.le_of_ble_eq_true rfl) (Nat.le_of_ble_eq_true rfl) ?_
  refine W.eq (g2 := F0 m 4 ls []) rfl ?_
  refine lv_aload_n hx hb dX5_init_4 rfl (lv_at hl 0 rfl) ?_
  refine lv_aload_n hx hb dX5_init_5 rfl (lv_at hl 1 rfl) ?_
  refine va_putF (D := G) (ci := 4) (v := .ref p5) (ty := (.object "PageReader$Pixels")) (C := RX5) (T := TX5) (N := 7) hx hb hts hi_X5 tyX5 tyX5_ok nmX5 hown hK hP hD hS 0 rfl rfl 0 (by decide) f_7 (fun _ h9 => h9) rfl hin rfl (by decide +kernel) rfl rfl (Nat.le_of_ble_eq_true rfl) dX5_init_6 (fun H locs hP hD hS => ?_)
  have hP : va_P G vwCl [(h, .inr (4, [.ref p5, .null, .null, .int (nI 0), .int (nI 0), .int (nI 0), .int (nI 0)]))] H := hP
  have hD : va_D A [(h, .inr (4, [.ref p5, .null, .null, .int (nI 0), .int (nI 0), .int (nI 0), .int (nI 0)]))] := hD
  refine lv_aload_n hx hb dX5_init_9 rfl (lv_at hl 0 rfl) ?_
  refine lv_bipush (v := nI 8) hx hb dX5_init_10 (by decide) ?_
  refine va_newa hx hb ac_int rfl hK hP hD hS hA (n := nI 8) (N' := 8) (a0 := (8, .inl (fun _ => 0))) (fun _ => rfl) (by decide) (by decide) (by decide) (Nat.le_of_ble_eq_true rfl) (Nat.le_of_ble_eq_true rfl) dX5_init_12 (fun q1 cA1 H hK1 hP hD hS => ?_)
  have e1 := cA_eq (tys2 := []) 0 hK hK1 rfl rfl rfl
  subst e1
  clear hK1
  have hP : va_P G vwCl [(h, .inr (4, [.ref p5, .null, .null, .int (nI 0), .int (nI 0), .int (nI 0), .int (nI 0)])), aI ci q1 8 (fun _ => 0)] H := hP
  have hD : va_D A [(h, .inr (4, [.ref p5, .null, .null, .int (nI 0), .int (nI 0), .int (nI 0), .int (nI 0)])), aI ci q1 8 (fun _ => 0)] := hD
  refine W.widen (k := 1) (n := 8) (by omega) (by omega) ?_
  refine va_putF (D := G) (ci := 4) (v := .ref q1) (ty := (.array .int)) (C := RX5) (T := TX5) (N := 7) hx hb hts hi_X5 tyX5 tyX5_ok nmX5 hown hK hP hD hS 0 rfl rfl 1 (by decide) f_13 (fun _ h9 => h9) rfl hin rfl (by decide +kernel) rfl rfl (Nat.le_of_ble_eq_true rfl) dX5_init_14 (fun H locs hP hD hS => ?_)
  have hP : va_P G vwCl [(h, .inr (4, [.ref p5, .ref q1, .null, .int (nI 0), .int (nI 0), .int (nI 0), .int (nI 0)])), aI ci q1 8 (fun _ => 0)] H := hP
  have hD : va_D A [(h, .inr (4, [.ref p5, .ref q1, .null, .int (nI 0), .int (nI 0), .int (nI 0), .int (nI 0)])), aI ci q1 8 (fun _ => 0)] := hD
  refine lv_aload_n hx hb dX5_init_17 rfl (lv_at hl 0 rfl) ?_
  refine lv_sipush (v := nI 160) hx hb dX5_init_18 (by decide) ?_
  refine va_newa hx hb ac_int rfl hK hP hD hS hA (n := nI 160) (N' := 160) (a0 := (160, .inl (fun _ => 0))) (fun _ => rfl) (by decide) (by decide) (by decide) (Nat.le_of_ble_eq_true rfl) (Nat.le_of_ble_eq_true rfl) dX5_init_21 (fun q2 cA2 H hK2 hP hD hS => ?_)
  have e2 := cA_eq (tys2 := []) 0 hK hK2 rfl rfl rfl
  subst e2
  clear hK2
  have hP : va_P G vwCl [(h, .inr (4, [.ref p5, .ref q1, .null, .int (nI 0), .int (nI 0), .int (nI 0), .int (nI 0)])), aI ci q1 8 (fun _ => 0), aI ci q2 160 (fun _ => 0)] H := hP
  have hD : va_D A [(h, .inr (4, [.ref p5, .ref q1, .null, .int (nI 0), .int (nI 0), .int (nI 0), .int (nI 0)])), aI ci q1 8 (fun _ => 0), aI ci q2 160 (fun _ => 0)] := hD
  refine W.widen (k := 2) (n := 168) (by omega) (by omega) ?_
  refine va_putF (D := G) (ci := 4) (v := .ref q2) (ty := (.array .int)) (C := RX5) (T := TX5) (N := 7) hx hb hts hi_X5 tyX5 tyX5_ok nmX5 hown hK hP hD hS 0 rfl rfl 2 (by decide) f_17 (fun _ h9 => h9) rfl hin rfl (by decide +kernel) rfl rfl (Nat.le_of_ble_eq_true rfl) dX5_init_23 (fun H locs hP hD hS => ?_)
  have hP : va_P G vwCl [(h, .inr (4, [.ref p5, .ref q1, .ref q2, .int (nI 0), .int (nI 0), .int (nI 0), .int (nI 0)])), aI ci q1 8 (fun _ => 0), aI ci q2 160 (fun _ => 0)] H := hP
  have hD : va_D A [(h, .inr (4, [.ref p5, .ref q1, .ref q2, .int (nI 0), .int (nI 0), .int (nI 0), .int (nI 0)])), aI ci q1 8 (fun _ => 0), aI ci q2 160 (fun _ => 0)] := hD
  refine lv_aload_n hx hb dX5_init_26 rfl (lv_at hl 0 rfl) ?_
  refine lv_iconst (v := nI 0) hx hb dX5_init_27 (by decide) ?_
  refine va_put (D := G) (ci := 4) (v := .int (nI 0)) (ty := .int) (C := RX5) (T := TX5) (N := 7) hx hb hts hi_X5 tyX5 tyX5_ok nmX5 hown hK hP hD hS 0 rfl rfl 3 (by decide) f_20 (fun _ h9 => h9) rfl (by decide +kernel) rfl rfl (Nat.le_of_ble_eq_true rfl) dX5_init_28 (fun H locs hP hD hS => ?_)
  have hP : va_P G vwCl [(h, .inr (4, [.ref p5, .ref q1, .ref q2, .int (nI 0), .int (nI 0), .int (nI 0), .int (nI 0)])), aI ci q1 8 (fun _ => 0), aI ci q2 160 (fun _ => 0)] H := hP
  have hD : va_D A [(h, .inr (4, [.ref p5, .ref q1, .ref q2, .int (nI 0), .int (nI 0), .int (nI 0), .int (nI 0)])), aI ci q1 8 (fun _ => 0), aI ci q2 160 (fun _ => 0)] := hD
  refine lv_aload_n hx hb dX5_init_31 rfl (lv_at hl 0 rfl) ?_
  refine lv_iconst (v := nI 0) hx hb dX5_init_32 (by decide) ?_
  refine va_put (D := G) (ci := 4) (v := .int (nI 0)) (ty := .int) (C := RX5) (T := TX5) (N := 7) hx hb hts hi_X5 tyX5 tyX5_ok nmX5 hown hK hP hD hS 0 rfl rfl 4 (by decide) f_24 (fun _ h9 => h9) rfl (by decide +kernel) rfl rfl (Nat.le_of_ble_eq_true rfl) dX5_init_33 (fun H locs hP hD hS => ?_)
  have hP : va_P G vwCl [(h, .inr (4, [.ref p5, .ref q1, .ref q2, .int (nI 0), .int (nI 0), .int (nI 0), .int (nI 0)])), aI ci q1 8 (fun _ => 0), aI ci q2 160 (fun _ => 0)] H := hP
  have hD : va_D A [(h, .inr (4, [.ref p5, .ref q1, .ref q2, .int (nI 0), .int (nI 0), .int (nI 0), .int (nI 0)])), aI ci q1 8 (fun _ => 0), aI ci q2 160 (fun _ => 0)] := hD
  refine lv_aload_n hx hb dX5_init_36 rfl (lv_at hl 0 rfl) ?_
  refine lv_iconst (v := (-1)) hx hb dX5_init_37 (by decide) ?_
  refine va_put (D := G) (ci := 4) (v := .int (-1)) (ty := .int) (C := RX5) (T := TX5) (N := 7) hx hb hts hi_X5 tyX5 tyX5_ok nmX5 hown hK hP hD hS 0 rfl rfl 5 (by decide) f_27 (fun _ h9 => h9) rfl (by decide +kernel) rfl rfl (Nat.le_of_ble_eq_true rfl) dX5_init_38 (fun H locs hP hD hS => ?_)
  have hP : va_P G vwCl [(h, .inr (4, [.ref p5, .ref q1, .ref q2, .int (nI 0), .int (nI 0), .int (-1), .int (nI 0)])), aI ci q1 8 (fun _ => 0), aI ci q2 160 (fun _ => 0)] H := hP
  have hD : va_D A [(h, .inr (4, [.ref p5, .ref q1, .ref q2, .int (nI 0), .int (nI 0), .int (-1), .int (nI 0)])), aI ci q1 8 (fun _ => 0), aI ci q2 160 (fun _ => 0)] := hD
  refine lv_aload_n hx hb dX5_init_41 rfl (lv_at hl 0 rfl) ?_
  refine lv_iconst (v := nI 0) hx hb dX5_init_42 (by decide) ?_
  refine va_put (D := G) (ci := 4) (v := .int (nI 0)) (ty := .int) (C := RX5) (T := TX5) (N := 7) hx hb hts hi_X5 tyX5 tyX5_ok nmX5 hown hK hP hD hS 0 rfl rfl 6 (by decide) f_30 (fun _ h9 => h9) rfl (by decide +kernel) rfl rfl (Nat.le_of_ble_eq_true rfl) dX5_init_43 (fun H locs hP hD hS => ?_)
  have hP : va_P G vwCl [(h, .inr (4, [.ref p5, .ref q1, .ref q2, .int (nI 0), .int (nI 0), .int (-1), .int (nI 0)])), aI ci q1 8 (fun _ => 0), aI ci q2 160 (fun _ => 0)] H := hP
  have hD : va_D A [(h, .inr (4, [.ref p5, .ref q1, .ref q2, .int (nI 0), .int (nI 0), .int (-1), .int (nI 0)])), aI ci q1 8 (fun _ => 0), aI ci q2 160 (fun _ => 0)] := hD
  exact rV hx hb hr hlocks hK hP hD hS [0, 1, 2] (q1, q2) rfl (by decide) trivial dX5_init_46
set_option maxHeartbeats 4000000 in
set_option maxRecDepth 100000 in
theorem c_X6_init (l : Launch) (G : va_G) (ci cz cl : ClassId) (q : Nat → Nat) (sz : Nat) (h : Nat) (h1 : Nat) (h3 : Nat) (h5 : Nat) (h6 : Nat) : CtV l yX6_init wsX6_init ({ frames := 2, cells := 7, slots := 202, locals := 37 }) G (TY ci cz cl) O0 [.ref h, .ref h1, .ref h3, .ref h5, .ref h6] [(h, .inr (5, [.null, .null, .null, .null, .null, .null, .int (nI 0), .int (nI 0), .int (nI 0)]))] sz (fun (u : Nat × Nat × Nat × Nat × Nat × Nat × Nat) => True) (fun u : Nat × Nat × Nat × Nat × Nat × Nat × Nat => [(h, .inr (5, [.ref h1, .ref h3, .ref h5, .ref h6, .ref u.1, .ref u.2.1, .int (nI 0), .int (nI 65535), .int (nI 65535)])), (u.1, .inr (1, [.ref u.2.2.1, .ref u.2.2.2.1, .ref u.2.2.2.2.1])), aI ci u.2.2.1 8 (fun _ => 0), aI ci u.2.2.2.1 8 (fun _ => 0), aI ci u.2.2.2.2.1 8 (fun _ => 0), (u.2.1, .inr (4, [.ref h5, .ref u.2.2.2.2.2.1, .ref u.2.2.2.2.2.2, .int (nI 0), .int (nI 0), .int (-1), .int (nI 0)])), aI ci u.2.2.2.2.2.1 8 (fun _ => 0), aI ci u.2.2.2.2.2.2 160 (fun _ => 0)]) 7 202 := by
  refine Met.ofW (cc := cX6_init) (maxL := 5) (ret := none) (by decide) rfl ?_
  intro p e s m args below meth c s₁ B hml hv
  obtain ⟨rfl, ⟨hsz, hP, hK, hD0⟩, hO⟩ := hv
  have hx := B.exec
  have hb := B.bytes
  have hr := B.returns
  have hts := atoms_spec (ws := wsX6_init) B.pre
  have hown : s.vm.findClass RX6 = some m.cls := findClass_of_methodNamed B.named
  have hlocks := B.notSynchronized
  have hin : meth.name = "<init>" := (name_of_methodNamed B.named B.method).1
  subst hsz
  have hD := hD0.self (sz := s.heap.size)
  generalize hAe : va_A [(h, .inr (5, [.null, .null, .null, .null, .null, .null, .int (nI 0), .int (nI 0), .int (nI 0)]))] s.heap.size = A at hD hO ⊢
  have hA : ∀ q : Nat, s.heap.size ≤ q → A q := fun q h => by rw [← hAe]; exact Or.inr h
  have ok := ok0
  refine startH (A := A) (fun H locs hP hS => ?_) hP
  have m_3 := hts (.methodLink RX6 3 objectInit) (by decide +kernel)
  have m_oi := hts (.instanceMethod objectInit) (by decide +kernel)
  have m_oc := hts (.code objectInit ⟨#[0xb1]⟩ 1 none) (List.mem_cons_of_mem _ (List.mem_append_left _ (List.mem_of_getElem? (i := 2) rfl)))
  have hi_X6 := (by decide +kernel : ∀ w ∈ wsX60, w ∈ wsX6_init)
  have f_9 := hts (.fieldLink RX6 9 "PageReader$Reading" "file" "LPageReader$Bytes;") (by decide +kernel)
  have f_15 := hts (.fieldLink RX6 15 "PageReader$Reading" "widths" "LPageReader$Widths;") (by decide +kernel)
  have f_19 := hts (.fieldLink RX6 19 "PageReader$Reading" "pixels" "LPageReader$Pixels;") (by decide +kernel)
  have f_23 := hts (.fieldLink RX6 23 "PageReader$Reading" "pages" "LPageReader$Pages;") (by decide +kernel)
  have hi_X1 := (by decide +kernel : ∀ w ∈ wsX10, w ∈ wsX6_init)
  have in_RX1 := hts (.initialized RX1) (by decide +kernel)
  have m_29 := hts (.methodLink RX6 29 yX1_init) (by decide +kernel)
  have im_X1_init := hts (.instanceMethod yX1_init) (by decide +kernel)
  have f_30 := hts (.fieldLink RX6 30 "PageReader$Reading" "fonts" "LPageReader$Fonts;") (by decide +kernel)
  have hi_X5 := (by decide +kernel : ∀ w ∈ wsX50, w ∈ wsX6_init)
  have in_RX5 := hts (.initialized RX5) (by decide +kernel)
  have m_36 := hts (.methodLink RX6 36 yX5_init) (by decide +kernel)
  have im_X5_init := hts (.instanceMethod yX5_init) (by decide +kernel)
  have f_39 := hts (.fieldLink RX6 39 "PageReader$Reading" "place" "LPageReader$Place;") (by decide +kernel)
  have f_43 := hts (.fieldLink RX6 43 "PageReader$Reading" "phase" "I") (by decide +kernel)
  have k_47 := hts (.constant RX6 47 (65535)) (by decide +kernel)
  have f_48 := hts (.fieldLink RX6 48 "PageReader$Reading" "beginAddress" "I") (by decide +kernel)
  have f_51 := hts (.fieldLink RX6 51 "PageReader$Reading" "lastAddress" "I") (by decide +kernel)
  have hl := lv_entry ([.ref h, .ref h1, .ref h3, .ref h5, .ref h6]) (n := 5) (Nat.le_of_ble_eq_true rfl)
  rw [lg_entry_eq]
  generalize (lg_sl ([.ref h, .ref h1, .ref h3, .ref h5, .ref h6]) ++ List.replicate (5 - (lg_sl ([.ref h, .ref h1, .ref h3, .ref h5, .ref h6])).length) Slot.unset).toArray = ls at hl ⊢
  have hl : lv_has ls 5 [(0, .ref h), (1, .ref h1), (2, .ref h3), (3, .ref h5), (4, .ref h6)] := hl
  refine lv_aload_n hx hb dX6_init_0 rfl (lv_at hl 0 rfl) ?_
  refine W.objInit hx hb hown m_3 m_oi m_oc rfl (by rw [hml]; exact hl.1) rfl dX6_init_1 (Nat.le_of_ble_eq_true rfl) (Nat.le_of_ble_eq_true rfl) ?_
  refine W.eq (g2 := F0 m 4 ls []) rfl ?_
  refine lv_aload_n hx hb dX6_init_4 rfl (lv_at hl 0 rfl) ?_
  refine lv_aload_n hx hb dX6_init_5 rfl (lv_at hl 1 rfl) ?_
  refine va_putF (D := G) (ci := 5) (v := .ref h1) (ty := (.object "PageReader$Bytes")) (C := RX6) (T := TX6) (N := 9) hx hb hts hi_X6 tyX6 tyX6_ok nmX6 hown hK hP hD hS 0 rfl rfl 0 (by decide) f_9 (fun _ h9 => h9) rfl hin rfl (by decide +kernel) rfl rfl (Nat.le_of_ble_eq_true rfl) dX6_init_6 (fun H locs hP hD hS => ?_)
  have hP : va_P G vwCl [(h, .inr (5, [.ref h1, .null, .null, .null, .null, .null, .int (nI 0), .int (nI 0), .int (nI 0)]))] H := hP
  have hD : va_D A [(h, .inr (5, [.ref h1, .null, .null, .null, .null, .null, .int (nI 0), .int (nI 0), .int (nI 0)]))] := hD
  refine lv_aload_n hx hb dX6_init_9 rfl (lv_at hl 0 rfl) ?_
  refine lv_aload_n hx hb dX6_init_10 rfl (lv_at hl 2 rfl) ?_
  refine va_putF (D := G) (ci := 5) (v := .ref h3) (ty := (.object "PageReader$Widths")) (C := RX6) (T := TX6) (N := 9) hx hb hts hi_X6 tyX6 tyX6_ok nmX6 hown hK hP hD hS 0 rfl rfl 1 (by decide) f_15 (fun _ h9 => h9) rfl hin rfl (by decide +kernel) rfl rfl (Nat.le_of_ble_eq_true rfl) dX6_init_11 (fun H locs hP hD hS => ?_)
  have hP : va_P G vwCl [(h, .inr (5, [.ref h1, .ref h3, .null, .null, .null, .null, .int (nI 0), .int (nI 0), .int (nI 0)]))] H := hP
  have hD : va_D A [(h, .inr (5, [.ref h1, .ref h3, .null, .null, .null, .null, .int (nI 0), .int (nI 0), .int (nI 0)]))] := hD
  refine lv_aload_n hx hb dX6_init_14 rfl (lv_at hl 0 rfl) ?_
  refine lv_aload_n hx hb dX6_init_15 rfl (lv_at hl 3 rfl) ?_
  refine va_putF (D := G) (ci := 5) (v := .ref h5) (ty := (.object "PageReader$Pixels")) (C := RX6) (T := TX6) (N := 9) hx hb hts hi_X6 tyX6 tyX6_ok nmX6 hown hK hP hD hS 0 rfl rfl 2 (by decide) f_19 (fun _ h9 => h9) rfl hin rfl (by decide +kernel) rfl rfl (Nat.le_of_ble_eq_true rfl) dX6_init_16 (fun H locs hP hD hS => ?_)
  have hP : va_P G vwCl [(h, .inr (5, [.ref h1, .ref h3, .ref h5, .null, .null, .null, .int (nI 0), .int (nI 0), .int (nI 0)]))] H := hP
  have hD : va_D A [(h, .inr (5, [.ref h1, .ref h3, .ref h5, .null, .null, .null, .int (nI 0), .int (nI 0), .int (nI 0)]))] := hD
  refine lv_aload_n hx hb dX6_init_19 rfl (lv_at hl 0 rfl) ?_
  refine lv_aload hx hb dX6_init_20 (lv_at hl 4 rfl) ?_
  refine va_putF (D := G) (ci := 5) (v := .ref h6) (ty := (.object "PageReader$Pages")) (C := RX6) (T := TX6) (N := 9) hx hb hts hi_X6 tyX6 tyX6_ok nmX6 hown hK hP hD hS 0 rfl rfl 3 (by decide) f_23 (fun _ h9 => h9) rfl hin rfl (by decide +kernel) rfl rfl (Nat.le_of_ble_eq_true rfl) dX6_init_22 (fun H locs hP hD hS => ?_)
  have hP : va_P G vwCl [(h, .inr (5, [.ref h1, .ref h3, .ref h5, .ref h6, .null, .null, .int (nI 0), .int (nI 0), .int (nI 0)]))] H := hP
  have hD : va_D A [(h, .inr (5, [.ref h1, .ref h3, .ref h5, .ref h6, .null, .null, .int (nI 0), .int (nI 0), .int (nI 0)]))] := hD
  refine lv_aload_n hx hb dX6_init_25 rfl (lv_at hl 0 rfl) ?_
  refine va_new (ci := 1) (fs := [.null, .null, .null]) (C := RX1) (T := TX1) (N := 3) hx hb hts hi_X1 tyX1 tyX1_ok hown (hts (.classLink RX6 27 RX1) (by decide +kernel)) (hts (.instantiable RX1 3) (by decide +kernel)) (hts (.initialized RX1) (by decide +kernel)) hK hP hD hS hA rfl (fun j hj => by rcases (show j = 0 ∨ j = 1 ∨ j = 2 by omega) with rfl | rfl | rfl <;> rfl) (Nat.le_of_ble_eq_true rfl) (Nat.le_of_ble_eq_true rfl) dX6_init_26 (fun q1 H hP hD hS => ?_)
  have hP : va_P G vwCl [(h, .inr (5, [.ref h1, .ref h3, .ref h5, .ref h6, .null, .null, .int (nI 0), .int (nI 0), .int (nI 0)])), (q1, .inr (1, [.null, .null, .null]))] H := hP
  have hD : va_D A [(h, .inr (5, [.ref h1, .ref h3, .ref h5, .ref h6, .null, .null, .int (nI 0), .int (nI 0), .int (nI 0)])), (q1, .inr (1, [.null, .null, .null]))] := hD
  refine W.widen (k := 1) (n := 3) (by omega) (by omega) ?_
  refine lv_dup hx hb dX6_init_29 rfl ?_
  refine jV (va_runI (As := []) (rest := [.ref q1, .ref h]) ⟨hx, hb, hml, hown, hts⟩ (c_X1_init l G ci cz cl q H.size q1 ) (cwI 0 hts gX6_init_X1_init rfl rfl rfl in_RX1 m_29 im_X1_init rfl (by decide +kernel) ⟨(Nat.le_of_ble_eq_true rfl), (Nat.le_of_ble_eq_true rfl)⟩) (pS (wc := [(q1, .inr (1, [.null, .null, .null]))]) ok hK hP hD hS hA hO [1] rfl (by decide)) rfl rfl hl.1 rfl (lv_room (Nat.le_of_ble_eq_true rfl)) dX6_init_30 ⟨(Nat.le_of_ble_eq_true rfl), (Nat.le_of_ble_eq_true rfl)⟩) (wr := [(h, .inr (5, [.ref h1, .ref h3, .ref h5, .ref h6, .null, .null, .int (nI 0), .int (nI 0), .int (nI 0)]))]) hP hD hS hA [1] [0] rfl rfl (by decide) (by decide) (fun u H locs hw_2 hP hD hS => ?_)
  obtain ⟨u14_2, u15_2, u16_2⟩ := u
  try dsimp only at hw_2
  have hP : va_P G vwCl [(h, .inr (5, [.ref h1, .ref h3, .ref h5, .ref h6, .null, .null, .int (nI 0), .int (nI 0), .int (nI 0)])), (q1, .inr (1, [.ref u14_2, .ref u15_2, .ref u16_2])), aI ci u14_2 8 (fun _ => 0), aI ci u15_2 8 (fun _ => 0), aI ci u16_2 8 (fun _ => 0)] H := hP
  have hD : va_D A [(h, .inr (5, [.ref h1, .ref h3, .ref h5, .ref h6, .null, .null, .int (nI 0), .int (nI 0), .int (nI 0)])), (q1, .inr (1, [.ref u14_2, .ref u15_2, .ref u16_2])), aI ci u14_2 8 (fun _ => 0), aI ci u15_2 8 (fun _ => 0), aI ci u16_2 8 (fun _ => 0)] := hD
  refine W.widen (k := 4) (n := 27) (by omega) (by omega) ?_
  refine va_putF (D := G) (ci := 5) (v := .ref q1) (ty := (.object "PageReader$Fonts")) (C := RX6) (T := TX6) (N := 9) hx hb hts hi_X6 tyX6 tyX6_ok nmX6 hown hK hP hD hS 0 rfl rfl 4 (by decide) f_30 (fun _ h9 => h9) rfl hin rfl (by decide +kernel) rfl rfl (Nat.le_of_ble_eq_true rfl) dX6_init_33 (fun H locs hP hD hS => ?_)
  have hP : va_P G vwCl [(h, .inr (5, [.ref h1, .ref h3, .ref h5, .ref h6, .ref q1, .null, .int (nI 0), .int (nI 0), .int (nI 0)])), (q1, .inr (1, [.ref u14_2, .ref u15_2, .ref u16_2])), aI ci u14_2 8 (fun _ => 0), aI ci u15_2 8 (fun _ => 0), aI ci u16_2 8 (fun _ => 0)] H := hP
  have hD : va_D A [(h, .inr (5, [.ref h1, .ref h3, .ref h5, .ref h6, .ref q1, .null, .int (nI 0), .int (nI 0), .int (nI 0)])), (q1, .inr (1, [.ref u14_2, .ref u15_2, .ref u16_2])), aI ci u14_2 8 (fun _ => 0), aI ci u15_2 8 (fun _ => 0), aI ci u16_2 8 (fun _ => 0)] := hD
  refine lv_aload_n hx hb dX6_init_36 rfl (lv_at hl 0 rfl) ?_
  refine va_new (ci := 4) (fs := [.null, .null, .null, .int (nI 0), .int (nI 0), .int (nI 0), .int (nI 0)]) (C := RX5) (T := TX5) (N := 7) hx hb hts hi_X5 tyX5 tyX5_ok hown (hts (.classLink RX6 34 RX5) (by decide +kernel)) (hts (.instantiable RX5 7) (by decide +kernel)) (hts (.initialized RX5) (by decide +kernel)) hK hP hD hS hA rfl (fun j hj => by rcases (show j = 0 ∨ j = 1 ∨ j = 2 ∨ j = 3 ∨ j = 4 ∨ j = 5 ∨ j = 6 by omega) with rfl | rfl | rfl | rfl | rfl | rfl | rfl <;> rfl) (Nat.le_of_ble_eq_true rfl) (Nat.le_of_ble_eq_true rfl) dX6_init_37 (fun q3 H hP hD hS => ?_)
  have hP : va_P G vwCl [(h, .inr (5, [.ref h1, .ref h3, .ref h5, .ref h6, .ref q1, .null, .int (nI 0), .int (nI 0), .int (nI 0)])), (q1, .inr (1, [.ref u14_2, .ref u15_2, .ref u16_2])), aI ci u14_2 8 (fun _ => 0), aI ci u15_2 8 (fun _ => 0), aI ci u16_2 8 (fun _ => 0), (q3, .inr (4, [.null, .null, .null, .int (nI 0), .int (nI 0), .int (nI 0), .int (nI 0)]))] H := hP
  have hD : va_D A [(h, .inr (5, [.ref h1, .ref h3, .ref h5, .ref h6, .ref q1, .null, .int (nI 0), .int (nI 0), .int (nI 0)])), (q1, .inr (1, [.ref u14_2, .ref u15_2, .ref u16_2])), aI ci u14_2 8 (fun _ => 0), aI ci u15_2 8 (fun _ => 0), aI ci u16_2 8 (fun _ => 0), (q3, .inr (4, [.null, .null, .null, .int (nI 0), .int (nI 0), .int (nI 0), .int (nI 0)]))] := hD
  refine W.widen (k := 5) (n := 34) (by omega) (by omega) ?_
  refine lv_dup hx hb dX6_init_40 rfl ?_
  refine lv_aload_n hx hb dX6_init_41 rfl (lv_at hl 3 rfl) ?_
  refine jV (va_runI (As := [.ref h5]) (rest := [.ref q3, .ref h]) ⟨hx, hb, hml, hown, hts⟩ (c_X5_init l G ci cz cl q H.size q3 h5 ) (cwI 1 hts gX6_init_X5_init rfl rfl rfl in_RX5 m_36 im_X5_init rfl (by decide +kernel) ⟨(Nat.le_of_ble_eq_true rfl), (Nat.le_of_ble_eq_true rfl)⟩) (pS (wc := [(q3, .inr (4, [.null, .null, .null, .int (nI 0), .int (nI 0), .int (nI 0), .int (nI 0)]))]) ok hK hP hD hS hA hO [5] rfl (by decide)) rfl rfl hl.1 rfl (lv_room (Nat.le_of_ble_eq_true rfl)) dX6_init_42 ⟨(Nat.le_of_ble_eq_true rfl), (Nat.le_of_ble_eq_true rfl)⟩) (wr := [(h, .inr (5, [.ref h1, .ref h3, .ref h5, .ref h6, .ref q1, .null, .int (nI 0), .int (nI 0), .int (nI 0)])), (q1, .inr (1, [.ref u14_2, .ref u15_2, .ref u16_2])), aI ci u14_2 8 (fun _ => 0), aI ci u15_2 8 (fun _ => 0), aI ci u16_2 8 (fun _ => 0)]) hP hD hS hA [5] [0, 1, 2, 3, 4] rfl rfl (by decide) (by decide) (fun u H locs hw_4 hP hD hS => ?_)
  obtain ⟨u18_4, u19_4⟩ := u
  try dsimp only at hw_4
  have hP : va_P G vwCl [(h, .inr (5, [.ref h1, .ref h3, .ref h5, .ref h6, .ref q1, .null, .int (nI 0), .int (nI 0), .int (nI 0)])), (q1, .inr (1, [.ref u14_2, .ref u15_2, .ref u16_2])), aI ci u14_2 8 (fun _ => 0), aI ci u15_2 8 (fun _ => 0), aI ci u16_2 8 (fun _ => 0), (q3, .inr (4, [.ref h5, .ref u18_4, .ref u19_4, .int (nI 0), .int (nI 0), .int (-1), .int (nI 0)])), aI ci u18_4 8 (fun _ => 0), aI ci u19_4 160 (fun _ => 0)] H := hP
  have hD : va_D A [(h, .inr (5, [.ref h1, .ref h3, .ref h5, .ref h6, .ref q1, .null, .int (nI 0), .int (nI 0), .int (nI 0)])), (q1, .inr (1, [.ref u14_2, .ref u15_2, .ref u16_2])), aI ci u14_2 8 (fun _ => 0), aI ci u15_2 8 (fun _ => 0), aI ci u16_2 8 (fun _ => 0), (q3, .inr (4, [.ref h5, .ref u18_4, .ref u19_4, .int (nI 0), .int (nI 0), .int (-1), .int (nI 0)])), aI ci u18_4 8 (fun _ => 0), aI ci u19_4 160 (fun _ => 0)] := hD
  refine W.widen (k := 7) (n := 202) (by omega) (by omega) ?_
  refine va_putF (D := G) (ci := 5) (v := .ref q3) (ty := (.object "PageReader$Place")) (C := RX6) (T := TX6) (N := 9) hx hb hts hi_X6 tyX6 tyX6_ok nmX6 hown hK hP hD hS 0 rfl rfl 5 (by decide) f_39 (fun _ h9 => h9) rfl hin rfl (by decide +kernel) rfl rfl (Nat.le_of_ble_eq_true rfl) dX6_init_45 (fun H locs hP hD hS => ?_)
  have hP : va_P G vwCl [(h, .inr (5, [.ref h1, .ref h3, .ref h5, .ref h6, .ref q1, .ref q3, .int (nI 0), .int (nI 0), .int (nI 0)])), (q1, .inr (1, [.ref u14_2, .ref u15_2, .ref u16_2])), aI ci u14_2 8 (fun _ => 0), aI ci u15_2 8 (fun _ => 0), aI ci u16_2 8 (fun _ => 0), (q3, .inr (4, [.ref h5, .ref u18_4, .ref u19_4, .int (nI 0), .int (nI 0), .int (-1), .int (nI 0)])), aI ci u18_4 8 (fun _ => 0), aI ci u19_4 160 (fun _ => 0)] H := hP
  have hD : va_D A [(h, .inr (5, [.ref h1, .ref h3, .ref h5, .ref h6, .ref q1, .ref q3, .int (nI 0), .int (nI 0), .int (nI 0)])), (q1, .inr (1, [.ref u14_2, .ref u15_2, .ref u16_2])), aI ci u14_2 8 (fun _ => 0), aI ci u15_2 8 (fun _ => 0), aI ci u16_2 8 (fun _ => 0), (q3, .inr (4, [.ref h5, .ref u18_4, .ref u19_4, .int (nI 0), .int (nI 0), .int (-1), .int (nI 0)])), aI ci u18_4 8 (fun _ => 0), aI ci u19_4 160 (fun _ => 0)] := hD
  refine lv_aload_n hx hb dX6_init_48 rfl (lv_at hl 0 rfl) ?_
  refine lv_iconst (v := nI 0) hx hb dX6_init_49 (by decide) ?_
  refine va_put (D := G) (ci := 5) (v := .int (nI 0)) (ty := .int) (C := RX6) (T := TX6) (N := 9) hx hb hts hi_X6 tyX6 tyX6_ok nmX6 hown hK hP hD hS 0 rfl rfl 6 (by decide) f_43 (fun _ h9 => h9) rfl (by decide +kernel) rfl rfl (Nat.le_of_ble_eq_true rfl) dX6_init_50 (fun H locs hP hD hS => ?_)
  have hP : va_P G vwCl [(h, .inr (5, [.ref h1, .ref h3, .ref h5, .ref h6, .ref q1, .ref q3, .int (nI 0), .int (nI 0), .int (nI 0)])), (q1, .inr (1, [.ref u14_2, .ref u15_2, .ref u16_2])), aI ci u14_2 8 (fun _ => 0), aI ci u15_2 8 (fun _ => 0), aI ci u16_2 8 (fun _ => 0), (q3, .inr (4, [.ref h5, .ref u18_4, .ref u19_4, .int (nI 0), .int (nI 0), .int (-1), .int (nI 0)])), aI ci u18_4 8 (fun _ => 0), aI ci u19_4 160 (fun _ => 0)] H := hP
  have hD : va_D A [(h, .inr (5, [.ref h1, .ref h3, .ref h5, .ref h6, .ref q1, .ref q3, .int (nI 0), .int (nI 0), .int (nI 0)])), (q1, .inr (1, [.ref u14_2, .ref u15_2, .ref u16_2])), aI ci u14_2 8 (fun _ => 0), aI ci u15_2 8 (fun _ => 0), aI ci u16_2 8 (fun _ => 0), (q3, .inr (4, [.ref h5, .ref u18_4, .ref u19_4, .int (nI 0), .int (nI 0), .int (-1), .int (nI 0)])), aI ci u18_4 8 (fun _ => 0), aI ci u19_4 160 (fun _ => 0)] := hD
  refine lv_aload_n hx hb dX6_init_53 rfl (lv_at hl 0 rfl) ?_
  refine lv_ldc hx hb hown k_47 dX6_init_54 ?_
  refine tp (y := nI 65535) rfl ?_
  refine va_put (D := G) (ci := 5) (v := .int (nI 65535)) (ty := .int) (C := RX6) (T := TX6) (N := 9) hx hb hts hi_X6 tyX6 tyX6_ok nmX6 hown hK hP hD hS 0 rfl rfl 7 (by decide) f_48 (fun _ h9 => h9) rfl (by decide +kernel) rfl rfl (Nat.le_of_ble_eq_true rfl) dX6_init_56 (fun H locs hP hD hS => ?_)
  have hP : va_P G vwCl [(h, .inr (5, [.ref h1, .ref h3, .ref h5, .ref h6, .ref q1, .ref q3, .int (nI 0), .int (nI 65535), .int (nI 0)])), (q1, .inr (1, [.ref u14_2, .ref u15_2, .ref u16_2])), aI ci u14_2 8 (fun _ => 0), aI ci u15_2 8 (fun _ => 0), aI ci u16_2 8 (fun _ => 0), (q3, .inr (4, [.ref h5, .ref u18_4, .ref u19_4, .int (nI 0), .int (nI 0), .int (-1), .int (nI 0)])), aI ci u18_4 8 (fun _ => 0), aI ci u19_4 160 (fun _ => 0)] H := hP
  have hD : va_D A [(h, .inr (5, [.ref h1, .ref h3, .ref h5, .ref h6, .ref q1, .ref q3, .int (nI 0), .int (nI 65535), .int (nI 0)])), (q1, .inr (1, [.ref u14_2, .ref u15_2, .ref u16_2])), aI ci u14_2 8 (fun _ => 0), aI ci u15_2 8 (fun _ => 0), aI ci u16_2 8 (fun _ => 0), (q3, .inr (4, [.ref h5, .ref u18_4, .ref u19_4, .int (nI 0), .int (nI 0), .int (-1), .int (nI 0)])), aI ci u18_4 8 (fun _ => 0), aI ci u19_4 160 (fun _ => 0)] := hD
  refine lv_aload_n hx hb dX6_init_59 rfl (lv_at hl 0 rfl) ?_
  refine lv_ldc hx hb hown k_47 dX6_init_60 ?_
  refine tp (y := nI 65535) rfl ?_
  refine va_put (D := G) (ci := 5) (v := .int (nI 65535)) (ty := .int) (C := RX6) (T := TX6) (N := 9) hx hb hts hi_X6 tyX6 tyX6_ok nmX6 hown hK hP hD hS 0 rfl rfl 8 (by decide) f_51 (fun _ h9 => h9) rfl (by decide +kernel) rfl rfl (Nat.le_of_ble_eq_true rfl) dX6_init_62 (fun H locs hP hD hS => ?_)
  have hP : va_P G vwCl [(h, .inr (5, [.ref h1, .ref h3, .ref h5, .ref h6, .ref q1, .ref q3, .int (nI 0), .int (nI 65535), .int (nI 65535)])), (q1, .inr (1, [.ref u14_2, .ref u15_2, .ref u16_2])), aI ci u14_2 8 (fun _ => 0), aI ci u15_2 8 (fun _ => 0), aI ci u16_2 8 (fun _ => 0), (q3, .inr (4, [.ref h5, .ref u18_4, .ref u19_4, .int (nI 0), .int (nI 0), .int (-1), .int (nI 0)])), aI ci u18_4 8 (fun _ => 0), aI ci u19_4 160 (fun _ => 0)] H := hP
  have hD : va_D A [(h, .inr (5, [.ref h1, .ref h3, .ref h5, .ref h6, .ref q1, .ref q3, .int (nI 0), .int (nI 65535), .int (nI 65535)])), (q1, .inr (1, [.ref u14_2, .ref u15_2, .ref u16_2])), aI ci u14_2 8 (fun _ => 0), aI ci u15_2 8 (fun _ => 0), aI ci u16_2 8 (fun _ => 0), (q3, .inr (4, [.ref h5, .ref u18_4, .ref u19_4, .int (nI 0), .int (nI 0), .int (-1), .int (nI 0)])), aI ci u18_4 8 (fun _ => 0), aI ci u19_4 160 (fun _ => 0)] := hD
  exact rV hx hb hr hlocks hK hP hD hS [0, 1, 2, 3, 4, 5, 6, 7] (q1, q3, u14_2, u15_2, u16_2, u18_4, u19_4) rfl (by decide) trivial dX6_init_65
set_option maxHeartbeats 4000000 in
set_option maxRecDepth 100000 in
theorem c_X8_init (l : Launch) (G : va_G) (ci cz cl : ClassId) (q : Nat → Nat) (sz : Nat) (h : Nat) : CtV l yX8_init wsX8_init ({ frames := 3, cells := 19, slots := 3294, locals := 61 }) G (TY ci cz cl) O0 [.ref h] [(h, .inr (7, [.null, .null, .null, .null, .null, .int (nI 0)]))] sz (fun (u : Nat × Nat × Nat × Nat × Nat × Nat × Nat × Nat × Nat × Nat × Nat × Nat × Nat × Nat × Nat × Nat × Nat × Nat × Nat) => True) (fun u : Nat × Nat × Nat × Nat × Nat × Nat × Nat × Nat × Nat × Nat × Nat × Nat × Nat × Nat × Nat × Nat × Nat × Nat × Nat => [(h, .inr (7, [.ref u.1, .ref u.2.1, .ref u.2.2.1, .ref u.2.2.2.1, .ref u.2.2.2.2.1, .int (-1)])), (u.1, .inr (0, [.ref u.2.2.2.2.2.1, .int (nI 0)])), aI ci u.2.2.2.2.2.1 600 (fun _ => 0), (u.2.1, .inr (6, [.ref u.2.2.2.2.2.2.1])), aI ci u.2.2.2.2.2.2.1 1024 (fun _ => 0), (u.2.2.1, .inr (3, [.double FP.dconst0])), (u.2.2.2.1, .inr (2, [.ref u.2.2.2.2.2.2.2.1, .ref u.2.2.2.2.2.2.2.2.1, .ref u.2.2.2.2.2.2.2.2.2.1, .ref u.2.2.2.2.2.2.2.2.2.2.1, .ref u.2.2.2.2.2.2.2.2.2.2.2.1, .int (nI 0), .int (nI 0)])), aI ci u.2.2.2.2.2.2.2.1 12 (fun _ => 0), aI ci u.2.2.2.2.2.2.2.2.1 12 (fun _ => 0), aI ci u.2.2.2.2.2.2.2.2.2.1 12 (fun _ => 0), aI ci u.2.2.2.2.2.2.2.2.2.2.1 12 (fun _ => 0), aI ci u.2.2.2.2.2.2.2.2.2.2.2.1 1400 (fun _ => 0), (u.2.2.2.2.1, .inr (5, [.ref u.1, .ref u.2.1, .ref u.2.2.1, .ref u.2.2.2.1, .ref u.2.2.2.2.2.2.2.2.2.2.2.2.1, .ref u.2.2.2.2.2.2.2.2.2.2.2.2.2.1, .int (nI 0), .int (nI 65535), .int (nI 65535)])), (u.2.2.2.2.2.2.2.2.2.2.2.2.1, .inr (1, [.ref u.2.2.2.2.2.2.2.2.2.2.2.2.2.2.1, .ref u.2.2.2.2.2.2.2.2.2.2.2.2.2.2.2.1, .ref u.2.2.2.2.2.2.2.2.2.2.2.2.2.2.2.2.1])), aI ci u.2.2.2.2.2.2.2.2.2.2.2.2.2.2.1 8 (fun _ => 0), aI ci u.2.2.2.2.2.2.2.2.2.2.2.2.2.2.2.1 8 (fun _ => 0), aI ci u.2.2.2.2.2.2.2.2.2.2.2.2.2.2.2.2.1 8 (fun _ => 0), (u.2.2.2.2.2.2.2.2.2.2.2.2.2.1, .inr (4, [.ref u.2.2.1, .ref u.2.2.2.2.2.2.2.2.2.2.2.2.2.2.2.2.2.1, .ref u.2.2.2.2.2.2.2.2.2.2.2.2.2.2.2.2.2.2, .int (nI 0), .int (nI 0), .int (-1), .int (nI 0)])), aI ci u.2.2.2.2.2.2.2.2.2.2.2.2.2.2.2.2.2.1 8 (fun _ => 0), aI ci u.2.2.2.2.2.2.2.2.2.2.2.2.2.2.2.2.2.2 160 (fun _ => 0)]) 19 3294 := by
  refine Met.ofW (cc := cX8_init) (maxL := 1) (ret := none) (by decide) rfl ?_
  intro p e s m args below meth c s₁ B hml hv
  obtain ⟨rfl, ⟨hsz, hP, hK, hD0⟩, hO⟩ := hv
  have hx := B.exec
  have hb := B.bytes
  have hr := B.returns
  have hts := atoms_spec (ws := wsX8_init) B.pre
  have hown : s.vm.findClass RX8 = some m.cls := findClass_of_methodNamed B.named
  have hlocks := B.notSynchronized
  have hin : meth.name = "<init>" := (name_of_methodNamed B.named B.method).1
  subst hsz
  have hD := hD0.self (sz := s.heap.size)
  generalize hAe : va_A [(h, .inr (7, [.null, .null, .null, .null, .null, .int (nI 0)]))] s.heap.size = A at hD hO ⊢
  have hA : ∀ q : Nat, s.heap.size ≤ q → A q := fun q h => by rw [← hAe]; exact Or.inr h
  have ok := ok0
  refine startH (A := A) (fun H locs hP hS => ?_) hP
  have m_1 := hts (.methodLink RX8 1 objectInit) (by decide +kernel)
  have m_oi := hts (.instanceMethod objectInit) (by decide +kernel)
  have m_oc := hts (.code objectInit ⟨#[0xb1]⟩ 1 none) (List.mem_cons_of_mem _ (List.mem_append_left _ (List.mem_of_getElem? (i := 2) rfl)))
  have hi_X0 := (by decide +kernel : ∀ w ∈ wsX00, w ∈ wsX8_init)
  have in_RX0 := hts (.initialized RX0) (by decide +kernel)
  have m_9 := hts (.methodLink RX8 9 yX0_init) (by decide +kernel)
  have im_X0_init := hts (.instanceMethod yX0_init) (by decide +kernel)
  have hi_X8 := (by decide +kernel : ∀ w ∈ wsX80, w ∈ wsX8_init)
  have f_10 := hts (.fieldLink RX8 10 "PageReader" "file" "LPageReader$Bytes;") (by decide +kernel)
  have hi_X7 := (by decide +kernel : ∀ w ∈ wsX70, w ∈ wsX8_init)
  have in_RX7 := hts (.initialized RX7) (by decide +kernel)
  have m_18 := hts (.methodLink RX8 18 yX7_init) (by decide +kernel)
  have im_X7_init := hts (.instanceMethod yX7_init) (by decide +kernel)
  have f_19 := hts (.fieldLink RX8 19 "PageReader" "widths" "LPageReader$Widths;") (by decide +kernel)
  have hi_X4 := (by decide +kernel : ∀ w ∈ wsX40, w ∈ wsX8_init)
  have in_RX4 := hts (.initialized RX4) (by decide +kernel)
  have m_25 := hts (.methodLink RX8 25 yX4_init) (by decide +kernel)
  have im_X4_init := hts (.instanceMethod yX4_init) (by decide +kernel)
  have f_26 := hts (.fieldLink RX8 26 "PageReader" "pixels" "LPageReader$Pixels;") (by decide +kernel)
  have hi_X3 := (by decide +kernel : ∀ w ∈ wsX30, w ∈ wsX8_init)
  have in_RX3 := hts (.initialized RX3) (by decide +kernel)
  have m_32 := hts (.methodLink RX8 32 yX3_init) (by decide +kernel)
  have im_X3_init := hts (.instanceMethod yX3_init) (by decide +kernel)
  have f_33 := hts (.fieldLink RX8 33 "PageReader" "pages" "LPageReader$Pages;") (by decide +kernel)
  have hi_X6 := (by decide +kernel : ∀ w ∈ wsX60, w ∈ wsX8_init)
  have in_RX6 := hts (.initialized RX6) (by decide +kernel)
  have m_39 := hts (.methodLink RX8 39 yX6_init) (by decide +kernel)
  have im_X6_init := hts (.instanceMethod yX6_init) (by decide +kernel)
  have f_42 := hts (.fieldLink RX8 42 "PageReader" "reading" "LPageReader$Reading;") (by decide +kernel)
  have f_46 := hts (.fieldLink RX8 46 "PageReader" "wrongAddress" "I") (by decide +kernel)
  have hl := lv_entry ([.ref h]) (n := 1) (Nat.le_of_ble_eq_true rfl)
  rw [lg_entry_eq]
  generalize (lg_sl ([.ref h]) ++ List.replicate (1 - (lg_sl ([.ref h])).length) Slot.unset).toArray = ls at hl ⊢
  have hl : lv_has ls 1 [(0, .ref h)] := hl
  refine lv_aload_n hx hb dX8_init_0 rfl (lv_at hl 0 rfl) ?_
  refine W.objInit hx hb hown m_1 m_oi m_oc rfl (by rw [hml]; exact hl.1) rfl dX8_init_1 (Nat.le_of_ble_eq_true rfl) (Nat.le_of_ble_eq_true rfl) ?_
  refine W.eq (g2 := F0 m 4 ls []) rfl ?_
  refine lv_aload_n hx hb dX8_init_4 rfl (lv_at hl 0 rfl) ?_
  refine va_new (ci := 0) (fs := [.null, .int (nI 0)]) (C := RX0) (T := TX0) (N := 2) hx hb hts hi_X0 tyX0 tyX0_ok hown (hts (.classLink RX8 7 RX0) (by decide +kernel)) (hts (.instantiable RX0 2) (by decide +kernel)) (hts (.initialized RX0) (by decide +kernel)) hK hP hD hS hA rfl (fun j hj => by rcases (show j = 0 ∨ j = 1 by omega) with rfl | rfl <;> rfl) (Nat.le_of_ble_eq_true rfl) (Nat.le_of_ble_eq_true rfl) dX8_init_5 (fun q1 H hP hD hS => ?_)
  have hP : va_P G vwCl [(h, .inr (7, [.null, .null, .null, .null, .null, .int (nI 0)])), (q1, .inr (0, [.null, .int (nI 0)]))] H := hP
  have hD : va_D A [(h, .inr (7, [.null, .null, .null, .null, .null, .int (nI 0)])), (q1, .inr (0, [.null, .int (nI 0)]))] := hD
  refine W.widen (k := 1) (n := 2) (by omega) (by omega) ?_
  refine lv_dup hx hb dX8_init_8 rfl ?_
  refine jV (va_runI (As := []) (rest := [.ref q1, .ref h]) ⟨hx, hb, hml, hown, hts⟩ (c_X0_init l G ci cz cl q H.size q1 ) (cwI 0 hts gX8_init_X0_init rfl rfl rfl in_RX0 m_9 im_X0_init rfl (by decide +kernel) ⟨(Nat.le_of_ble_eq_true rfl), (Nat.le_of_ble_eq_true rfl)⟩) (pS (wc := [(q1, .inr (0, [.null, .int (nI 0)]))]) ok hK hP hD hS hA hO [1] rfl (by decide)) rfl rfl hl.1 rfl (lv_room (Nat.le_of_ble_eq_true rfl)) dX8_init_9 ⟨(Nat.le_of_ble_eq_true rfl), (Nat.le_of_ble_eq_true rfl)⟩) (wr := [(h, .inr (7, [.null, .null, .null, .null, .null, .int (nI 0)]))]) hP hD hS hA [1] [0] rfl rfl (by decide) (by decide) (fun u H locs hw_2 hP hD hS => ?_)
  obtain ⟨u2_2, rfl⟩ : ∃ z, z = u := ⟨_, rfl⟩
  try dsimp only at hw_2
  have hP : va_P G vwCl [(h, .inr (7, [.null, .null, .null, .null, .null, .int (nI 0)])), (q1, .inr (0, [.ref u2_2, .int (nI 0)])), aI ci u2_2 600 (fun _ => 0)] H := hP
  have hD : va_D A [(h, .inr (7, [.null, .null, .null, .null, .null, .int (nI 0)])), (q1, .inr (0, [.ref u2_2, .int (nI 0)])), aI ci u2_2 600 (fun _ => 0)] := hD
  refine W.widen (k := 2) (n := 602) (by omega) (by omega) ?_
  refine va_putF (D := G) (ci := 7) (v := .ref q1) (ty := (.object "PageReader$Bytes")) (C := RX8) (T := TX8) (N := 6) hx hb hts hi_X8 tyX8 tyX8_ok nmX8 hown hK hP hD hS 0 rfl rfl 0 (by decide) f_10 (fun _ h9 => h9) rfl hin rfl (by decide +kernel) rfl rfl (Nat.le_of_ble_eq_true rfl) dX8_init_12 (fun H locs hP hD hS => ?_)
  have hP : va_P G vwCl [(h, .inr (7, [.ref q1, .null, .null, .null, .null, .int (nI 0)])), (q1, .inr (0, [.ref u2_2, .int (nI 0)])), aI ci u2_2 600 (fun _ => 0)] H := hP
  have hD : va_D A [(h, .inr (7, [.ref q1, .null, .null, .null, .null, .int (nI 0)])), (q1, .inr (0, [.ref u2_2, .int (nI 0)])), aI ci u2_2 600 (fun _ => 0)] := hD
  refine lv_aload_n hx hb dX8_init_15 rfl (lv_at hl 0 rfl) ?_
  refine va_new (ci := 6) (fs := [.null]) (C := RX7) (T := TX7) (N := 1) hx hb hts hi_X7 tyX7 tyX7_ok hown (hts (.classLink RX8 16 RX7) (by decide +kernel)) (hts (.instantiable RX7 1) (by decide +kernel)) (hts (.initialized RX7) (by decide +kernel)) hK hP hD hS hA rfl (fun j hj => by rcases (show j = 0 by omega) with rfl <;> rfl) (Nat.le_of_ble_eq_true rfl) (Nat.le_of_ble_eq_true rfl) dX8_init_16 (fun q3 H hP hD hS => ?_)
  have hP : va_P G vwCl [(h, .inr (7, [.ref q1, .null, .null, .null, .null, .int (nI 0)])), (q1, .inr (0, [.ref u2_2, .int (nI 0)])), aI ci u2_2 600 (fun _ => 0), (q3, .inr (6, [.null]))] H := hP
  have hD : va_D A [(h, .inr (7, [.ref q1, .null, .null, .null, .null, .int (nI 0)])), (q1, .inr (0, [.ref u2_2, .int (nI 0)])), aI ci u2_2 600 (fun _ => 0), (q3, .inr (6, [.null]))] := hD
  refine W.widen (k := 3) (n := 603) (by omega) (by omega) ?_
  refine lv_dup hx hb dX8_init_19 rfl ?_
  refine jV (va_runI (As := []) (rest := [.ref q3, .ref h]) ⟨hx, hb, hml, hown, hts⟩ (c_X7_init l G ci cz cl q H.size q3 ) (cwI 0 hts gX8_init_X7_init rfl rfl rfl in_RX7 m_18 im_X7_init rfl (by decide +kernel) ⟨(Nat.le_of_ble_eq_true rfl), (Nat.le_of_ble_eq_true rfl)⟩) (pS (wc := [(q3, .inr (6, [.null]))]) ok hK hP hD hS hA hO [3] rfl (by decide)) rfl rfl hl.1 rfl (lv_room (Nat.le_of_ble_eq_true rfl)) dX8_init_20 ⟨(Nat.le_of_ble_eq_true rfl), (Nat.le_of_ble_eq_true rfl)⟩) (wr := [(h, .inr (7, [.ref q1, .null, .null, .null, .null, .int (nI 0)])), (q1, .inr (0, [.ref u2_2, .int (nI 0)])), aI ci u2_2 600 (fun _ => 0)]) hP hD hS hA [3] [0, 1, 2] rfl rfl (by decide) (by decide) (fun u H locs hw_4 hP hD hS => ?_)
  obtain ⟨u4_4, rfl⟩ : ∃ z, z = u := ⟨_, rfl⟩
  try dsimp only at hw_4
  have hP : va_P G vwCl [(h, .inr (7, [.ref q1, .null, .null, .null, .null, .int (nI 0)])), (q1, .inr (0, [.ref u2_2, .int (nI 0)])), aI ci u2_2 600 (fun _ => 0), (q3, .inr (6, [.ref u4_4])), aI ci u4_4 1024 (fun _ => 0)] H := hP
  have hD : va_D A [(h, .inr (7, [.ref q1, .null, .null, .null, .null, .int (nI 0)])), (q1, .inr (0, [.ref u2_2, .int (nI 0)])), aI ci u2_2 600 (fun _ => 0), (q3, .inr (6, [.ref u4_4])), aI ci u4_4 1024 (fun _ => 0)] := hD
  refine W.widen (k := 4) (n := 1627) (by omega) (by omega) ?_
  refine va_putF (D := G) (ci := 7) (v := .ref q3) (ty := (.object "PageReader$Widths")) (C := RX8) (T := TX8) (N := 6) hx hb hts hi_X8 tyX8 tyX8_ok nmX8 hown hK hP hD hS 0 rfl rfl 1 (by decide) f_19 (fun _ h9 => h9) rfl hin rfl (by decide +kernel) rfl rfl (Nat.le_of_ble_eq_true rfl) dX8_init_23 (fun H locs hP hD hS => ?_)
  have hP : va_P G vwCl [(h, .inr (7, [.ref q1, .ref q3, .null, .null, .null, .int (nI 0)])), (q1, .inr (0, [.ref u2_2, .int (nI 0)])), aI ci u2_2 600 (fun _ => 0), (q3, .inr (6, [.ref u4_4])), aI ci u4_4 1024 (fun _ => 0)] H := hP
  have hD : va_D A [(h, .inr (7, [.ref q1, .ref q3, .null, .null, .null, .int (nI 0)])), (q1, .inr (0, [.ref u2_2, .int (nI 0)])), aI ci u2_2 600 (fun _ => 0), (q3, .inr (6, [.ref u4_4])), aI ci u4_4 1024 (fun _ => 0)] := hD
  refine lv_aload_n hx hb dX8_init_26 rfl (lv_at hl 0 rfl) ?_
  refine va_new (ci := 3) (fs := [.double 0]) (C := RX4) (T := TX4) (N := 1) hx hb hts hi_X4 tyX4 tyX4_ok hown (hts (.classLink RX8 23 RX4) (by decide +kernel)) (hts (.instantiable RX4 1) (by decide +kernel)) (hts (.initialized RX4) (by decide +kernel)) hK hP hD hS hA rfl (fun j hj => by rcases (show j = 0 by omega) with rfl <;> rfl) (Nat.le_of_ble_eq_true rfl) (Nat.le_of_ble_eq_true rfl) dX8_init_27 (fun q5 H hP hD hS => ?_)
  have hP : va_P G vwCl [(h, .inr (7, [.ref q1, .ref q3, .null, .null, .null, .int (nI 0)])), (q1, .inr (0, [.ref u2_2, .int (nI 0)])), aI ci u2_2 600 (fun _ => 0), (q3, .inr (6, [.ref u4_4])), aI ci u4_4 1024 (fun _ => 0), (q5, .inr (3, [.double 0]))] H := hP
  have hD : va_D A [(h, .inr (7, [.ref q1, .ref q3, .null, .null, .null, .int (nI 0)])), (q1, .inr (0, [.ref u2_2, .int (nI 0)])), aI ci u2_2 600 (fun _ => 0), (q3, .inr (6, [.ref u4_4])), aI ci u4_4 1024 (fun _ => 0), (q5, .inr (3, [.double 0]))] := hD
  refine W.widen (k := 5) (n := 1628) (by omega) (by omega) ?_
  refine lv_dup hx hb dX8_init_30 rfl ?_
  refine jV (va_runI (As := []) (rest := [.ref q5, .ref h]) ⟨hx, hb, hml, hown, hts⟩ (c_X4_init l G ci cz cl q H.size q5 ) (cwI 0 hts gX8_init_X4_init rfl rfl rfl in_RX4 m_25 im_X4_init rfl (by decide +kernel) ⟨(Nat.le_of_ble_eq_true rfl), (Nat.le_of_ble_eq_true rfl)⟩) (pS (wc := [(q5, .inr (3, [.double 0]))]) ok hK hP hD hS hA hO [5] rfl (by decide)) rfl rfl hl.1 rfl (lv_room (Nat.le_of_ble_eq_true rfl)) dX8_init_31 ⟨(Nat.le_of_ble_eq_true rfl), (Nat.le_of_ble_eq_true rfl)⟩) (wr := [(h, .inr (7, [.ref q1, .ref q3, .null, .null, .null, .int (nI 0)])), (q1, .inr (0, [.ref u2_2, .int (nI 0)])), aI ci u2_2 600 (fun _ => 0), (q3, .inr (6, [.ref u4_4])), aI ci u4_4 1024 (fun _ => 0)]) hP hD hS hA [5] [0, 1, 2, 3, 4] rfl rfl (by decide) (by decide) (fun u H locs hw_6 hP hD hS => ?_)
  try dsimp only at hw_6
  have hP : va_P G vwCl [(h, .inr (7, [.ref q1, .ref q3, .null, .null, .null, .int (nI 0)])), (q1, .inr (0, [.ref u2_2, .int (nI 0)])), aI ci u2_2 600 (fun _ => 0), (q3, .inr (6, [.ref u4_4])), aI ci u4_4 1024 (fun _ => 0), (q5, .inr (3, [.double FP.dconst0]))] H := hP
  have hD : va_D A [(h, .inr (7, [.ref q1, .ref q3, .null, .null, .null, .int (nI 0)])), (q1, .inr (0, [.ref u2_2, .int (nI 0)])), aI ci u2_2 600 (fun _ => 0), (q3, .inr (6, [.ref u4_4])), aI ci u4_4 1024 (fun _ => 0), (q5, .inr (3, [.double FP.dconst0]))] := hD
  refine va_putF (D := G) (ci := 7) (v := .ref q5) (ty := (.object "PageReader$Pixels")) (C := RX8) (T := TX8) (N := 6) hx hb hts hi_X8 tyX8 tyX8_ok nmX8 hown hK hP hD hS 0 rfl rfl 2 (by decide) f_26 (fun _ h9 => h9) rfl hin rfl (by decide +kernel) rfl rfl (Nat.le_of_ble_eq_true rfl) dX8_init_34 (fun H locs hP hD hS => ?_)
  have hP : va_P G vwCl [(h, .inr (7, [.ref q1, .ref q3, .ref q5, .null, .null, .int (nI 0)])), (q1, .inr (0, [.ref u2_2, .int (nI 0)])), aI ci u2_2 600 (fun _ => 0), (q3, .inr (6, [.ref u4_4])), aI ci u4_4 1024 (fun _ => 0), (q5, .inr (3, [.double FP.dconst0]))] H := hP
  have hD : va_D A [(h, .inr (7, [.ref q1, .ref q3, .ref q5, .null, .null, .int (nI 0)])), (q1, .inr (0, [.ref u2_2, .int (nI 0)])), aI ci u2_2 600 (fun _ => 0), (q3, .inr (6, [.ref u4_4])), aI ci u4_4 1024 (fun _ => 0), (q5, .inr (3, [.double FP.dconst0]))] := hD
  refine lv_aload_n hx hb dX8_init_37 rfl (lv_at hl 0 rfl) ?_
  refine va_new (ci := 2) (fs := [.null, .null, .null, .null, .null, .int (nI 0), .int (nI 0)]) (C := RX3) (T := TX3) (N := 7) hx hb hts hi_X3 tyX3 tyX3_ok hown (hts (.classLink RX8 30 RX3) (by decide +kernel)) (hts (.instantiable RX3 7) (by decide +kernel)) (hts (.initialized RX3) (by decide +kernel)) hK hP hD hS hA rfl (fun j hj => by rcases (show j = 0 ∨ j = 1 ∨ j = 2 ∨ j = 3 ∨ j = 4 ∨ j = 5 ∨ j = 6 by omega) with rfl | rfl | rfl | rfl | rfl | rfl | rfl <;> rfl) (Nat.le_of_ble_eq_true rfl) (Nat.le_of_ble_eq_true rfl) dX8_init_38 (fun q7 H hP hD hS => ?_)
  have hP : va_P G vwCl [(h, .inr (7, [.ref q1, .ref q3, .ref q5, .null, .null, .int (nI 0)])), (q1, .inr (0, [.ref u2_2, .int (nI 0)])), aI ci u2_2 600 (fun _ => 0), (q3, .inr (6, [.ref u4_4])), aI ci u4_4 1024 (fun _ => 0), (q5, .inr (3, [.double FP.dconst0])), (q7, .inr (2, [.null, .null, .null, .null, .null, .int (nI 0), .int (nI 0)]))] H := hP
  have hD : va_D A [(h, .inr (7, [.ref q1, .ref q3, .ref q5, .null, .null, .int (nI 0)])), (q1, .inr (0, [.ref u2_2, .int (nI 0)])), aI ci u2_2 600 (fun _ => 0), (q3, .inr (6, [.ref u4_4])), aI ci u4_4 1024 (fun _ => 0), (q5, .inr (3, [.double FP.dconst0])), (q7, .inr (2, [.null, .null, .null, .null, .null, .int (nI 0), .int (nI 0)]))] := hD
  refine W.widen (k := 6) (n := 1635) (by omega) (by omega) ?_
  refine lv_dup hx hb dX8_init_41 rfl ?_
  refine jV (va_runI (As := []) (rest := [.ref q7, .ref h]) ⟨hx, hb, hml, hown, hts⟩ (c_X3_init l G ci cz cl q H.size q7 ) (cwI 0 hts gX8_init_X3_init rfl rfl rfl in_RX3 m_32 im_X3_init rfl (by decide +kernel) ⟨(Nat.le_of_ble_eq_true rfl), (Nat.le_of_ble_eq_true rfl)⟩) (pS (wc := [(q7, .inr (2, [.null, .null, .null, .null, .null, .int (nI 0), .int (nI 0)]))]) ok hK hP hD hS hA hO [6] rfl (by decide)) rfl rfl hl.1 rfl (lv_room (Nat.le_of_ble_eq_true rfl)) dX8_init_42 ⟨(Nat.le_of_ble_eq_true rfl), (Nat.le_of_ble_eq_true rfl)⟩) (wr := [(h, .inr (7, [.ref q1, .ref q3, .ref q5, .null, .null, .int (nI 0)])), (q1, .inr (0, [.ref u2_2, .int (nI 0)])), aI ci u2_2 600 (fun _ => 0), (q3, .inr (6, [.ref u4_4])), aI ci u4_4 1024 (fun _ => 0), (q5, .inr (3, [.double FP.dconst0]))]) hP hD hS hA [6] [0, 1, 2, 3, 4, 5] rfl rfl (by decide) (by decide) (fun u H locs hw_8 hP hD hS => ?_)
  obtain ⟨u7_8, u8_8, u9_8, u10_8, u11_8⟩ := u
  try dsimp only at hw_8
  have hP : va_P G vwCl [(h, .inr (7, [.ref q1, .ref q3, .ref q5, .null, .null, .int (nI 0)])), (q1, .inr (0, [.ref u2_2, .int (nI 0)])), aI ci u2_2 600 (fun _ => 0), (q3, .inr (6, [.ref u4_4])), aI ci u4_4 1024 (fun _ => 0), (q5, .inr (3, [.double FP.dconst0])), (q7, .inr (2, [.ref u7_8, .ref u8_8, .ref u9_8, .ref u10_8, .ref u11_8, .int (nI 0), .int (nI 0)])), aI ci u7_8 12 (fun _ => 0), aI ci u8_8 12 (fun _ => 0), aI ci u9_8 12 (fun _ => 0), aI ci u10_8 12 (fun _ => 0), aI ci u11_8 1400 (fun _ => 0)] H := hP
  have hD : va_D A [(h, .inr (7, [.ref q1, .ref q3, .ref q5, .null, .null, .int (nI 0)])), (q1, .inr (0, [.ref u2_2, .int (nI 0)])), aI ci u2_2 600 (fun _ => 0), (q3, .inr (6, [.ref u4_4])), aI ci u4_4 1024 (fun _ => 0), (q5, .inr (3, [.double FP.dconst0])), (q7, .inr (2, [.ref u7_8, .ref u8_8, .ref u9_8, .ref u10_8, .ref u11_8, .int (nI 0), .int (nI 0)])), aI ci u7_8 12 (fun _ => 0), aI ci u8_8 12 (fun _ => 0), aI ci u9_8 12 (fun _ => 0), aI ci u10_8 12 (fun _ => 0), aI ci u11_8 1400 (fun _ => 0)] := hD
  refine W.widen (k := 11) (n := 3083) (by omega) (by omega) ?_
  refine va_putF (D := G) (ci := 7) (v := .ref q7) (ty := (.object "PageReader$Pages")) (C := RX8) (T := TX8) (N := 6) hx hb hts hi_X8 tyX8 tyX8_ok nmX8 hown hK hP hD hS 0 rfl rfl 3 (by decide) f_33 (fun _ h9 => h9) rfl hin rfl (by decide +kernel) rfl rfl (Nat.le_of_ble_eq_true rfl) dX8_init_45 (fun H locs hP hD hS => ?_)
  have hP : va_P G vwCl [(h, .inr (7, [.ref q1, .ref q3, .ref q5, .ref q7, .null, .int (nI 0)])), (q1, .inr (0, [.ref u2_2, .int (nI 0)])), aI ci u2_2 600 (fun _ => 0), (q3, .inr (6, [.ref u4_4])), aI ci u4_4 1024 (fun _ => 0), (q5, .inr (3, [.double FP.dconst0])), (q7, .inr (2, [.ref u7_8, .ref u8_8, .ref u9_8, .ref u10_8, .ref u11_8, .int (nI 0), .int (nI 0)])), aI ci u7_8 12 (fun _ => 0), aI ci u8_8 12 (fun _ => 0), aI ci u9_8 12 (fun _ => 0), aI ci u10_8 12 (fun _ => 0), aI ci u11_8 1400 (fun _ => 0)] H := hP
  have hD : va_D A [(h, .inr (7, [.ref q1, .ref q3, .ref q5, .ref q7, .null, .int (nI 0)])), (q1, .inr (0, [.ref u2_2, .int (nI 0)])), aI ci u2_2 600 (fun _ => 0), (q3, .inr (6, [.ref u4_4])), aI ci u4_4 1024 (fun _ => 0), (q5, .inr (3, [.double FP.dconst0])), (q7, .inr (2, [.ref u7_8, .ref u8_8, .ref u9_8, .ref u10_8, .ref u11_8, .int (nI 0), .int (nI 0)])), aI ci u7_8 12 (fun _ => 0), aI ci u8_8 12 (fun _ => 0), aI ci u9_8 12 (fun _ => 0), aI ci u10_8 12 (fun _ => 0), aI ci u11_8 1400 (fun _ => 0)] := hD
  refine lv_aload_n hx hb dX8_init_48 rfl (lv_at hl 0 rfl) ?_
  refine va_new (ci := 5) (fs := [.null, .null, .null, .null, .null, .null, .int (nI 0), .int (nI 0), .int (nI 0)]) (C := RX6) (T := TX6) (N := 9) hx hb hts hi_X6 tyX6 tyX6_ok hown (hts (.classLink RX8 37 RX6) (by decide +kernel)) (hts (.instantiable RX6 9) (by decide +kernel)) (hts (.initialized RX6) (by decide +kernel)) hK hP hD hS hA rfl (fun j hj => by rcases (show j = 0 ∨ j = 1 ∨ j = 2 ∨ j = 3 ∨ j = 4 ∨ j = 5 ∨ j = 6 ∨ j = 7 ∨ j = 8 by omega) with rfl | rfl | rfl | rfl | rfl | rfl | rfl | rfl | rfl <;> rfl) (Nat.le_of_ble_eq_true rfl) (Nat.le_of_ble_eq_true rfl) dX8_init_49 (fun q9 H hP hD hS => ?_)
  have hP : va_P G vwCl [(h, .inr (7, [.ref q1, .ref q3, .ref q5, .ref q7, .null, .int (nI 0)])), (q1, .inr (0, [.ref u2_2, .int (nI 0)])), aI ci u2_2 600 (fun _ => 0), (q3, .inr (6, [.ref u4_4])), aI ci u4_4 1024 (fun _ => 0), (q5, .inr (3, [.double FP.dconst0])), (q7, .inr (2, [.ref u7_8, .ref u8_8, .ref u9_8, .ref u10_8, .ref u11_8, .int (nI 0), .int (nI 0)])), aI ci u7_8 12 (fun _ => 0), aI ci u8_8 12 (fun _ => 0), aI ci u9_8 12 (fun _ => 0), aI ci u10_8 12 (fun _ => 0), aI ci u11_8 1400 (fun _ => 0), (q9, .inr (5, [.null, .null, .null, .null, .null, .null, .int (nI 0), .int (nI 0), .int (nI 0)]))] H := hP
  have hD : va_D A [(h, .inr (7, [.ref q1, .ref q3, .ref q5, .ref q7, .null, .int (nI 0)])), (q1, .inr (0, [.ref u2_2, .int (nI 0)])), aI ci u2_2 600 (fun _ => 0), (q3, .inr (6, [.ref u4_4])), aI ci u4_4 1024 (fun _ => 0), (q5, .inr (3, [.double FP.dconst0])), (q7, .inr (2, [.ref u7_8, .ref u8_8, .ref u9_8, .ref u10_8, .ref u11_8, .int (nI 0), .int (nI 0)])), aI ci u7_8 12 (fun _ => 0), aI ci u8_8 12 (fun _ => 0), aI ci u9_8 12 (fun _ => 0), aI ci u10_8 12 (fun _ => 0), aI ci u11_8 1400 (fun _ => 0), (q9, .inr (5, [.null, .null, .null, .null, .null, .null, .int (nI 0), .int (nI 0), .int (nI 0)]))] := hD
  refine W.widen (k := 12) (n := 3092) (by omega) (by omega) ?_
  refine lv_dup hx hb dX8_init_52 rfl ?_
  refine lv_aload_n hx hb dX8_init_53 rfl (lv_at hl 0 rfl) ?_
  refine va_get (D := G) (ci := 7) (v := .ref q1) (C := RX8) (T := TX8) (N := 6) hx hb hts hi_X8 hown hK hP 0 rfl rfl 0 (by decide) f_10 (fun _ h9 => h9) rfl dX8_init_54 ?_
  refine lv_aload_n hx hb dX8_init_57 rfl (lv_at hl 0 rfl) ?_
  refine va_get (D := G) (ci := 7) (v := .ref q3) (C := RX8) (T := TX8) (N := 6) hx hb hts hi_X8 hown hK hP 0 rfl rfl 1 (by decide) f_19 (fun _ h9 => h9) rfl dX8_init_58 ?_
  refine lv_aload_n hx hb dX8_init_61 rfl (lv_at hl 0 rfl) ?_
  refine va_get (D := G) (ci := 7) (v := .ref q5) (C := RX8) (T := TX8) (N := 6) hx hb hts hi_X8 hown hK hP 0 rfl rfl 2 (by decide) f_26 (fun _ h9 => h9) rfl dX8_init_62 ?_
  refine lv_aload_n hx hb dX8_init_65 rfl (lv_at hl 0 rfl) ?_
  refine va_get (D := G) (ci := 7) (v := .ref q7) (C := RX8) (T := TX8) (N := 6) hx hb hts hi_X8 hown hK hP 0 rfl rfl 3 (by decide) f_33 (fun _ h9 => h9) rfl dX8_init_66 ?_
  refine jV (va_runI (As := [.ref q1, .ref q3, .ref q5, .ref q7]) (rest := [.ref q9, .ref h]) ⟨hx, hb, hml, hown, hts⟩ (c_X6_init l G ci cz cl q H.size q9 q1 q3 q5 q7 ) (cwI 4 hts gX8_init_X6_init rfl rfl rfl in_RX6 m_39 im_X6_init rfl (by decide +kernel) ⟨(Nat.le_of_ble_eq_true rfl), (Nat.le_of_ble_eq_true rfl)⟩) (pS (wc := [(q9, .inr (5, [.null, .null, .null, .null, .null, .null, .int (nI 0), .int (nI 0), .int (nI 0)]))]) ok hK hP hD hS hA hO [12] rfl (by decide)) rfl rfl hl.1 rfl (lv_room (Nat.le_of_ble_eq_true rfl)) dX8_init_69 ⟨(Nat.le_of_ble_eq_true rfl), (Nat.le_of_ble_eq_true rfl)⟩) (wr := [(h, .inr (7, [.ref q1, .ref q3, .ref q5, .ref q7, .null, .int (nI 0)])), (q1, .inr (0, [.ref u2_2, .int (nI 0)])), aI ci u2_2 600 (fun _ => 0), (q3, .inr (6, [.ref u4_4])), aI ci u4_4 1024 (fun _ => 0), (q5, .inr (3, [.double FP.dconst0])), (q7, .inr (2, [.ref u7_8, .ref u8_8, .ref u9_8, .ref u10_8, .ref u11_8, .int (nI 0), .int (nI 0)])), aI ci u7_8 12 (fun _ => 0), aI ci u8_8 12 (fun _ => 0), aI ci u9_8 12 (fun _ => 0), aI ci u10_8 12 (fun _ => 0), aI ci u11_8 1400 (fun _ => 0)]) hP hD hS hA [12] [0, 1, 2, 3, 4, 5, 6, 7, 8, 9, 10, 11] rfl rfl (by decide) (by decide) (fun u H locs hw_10 hP hD hS => ?_)
  obtain ⟨u13_10, u17_10, u14_10, u15_10, u16_10, u18_10, u19_10⟩ := u
  try dsimp only at hw_10
  have hP : va_P G vwCl [(h, .inr (7, [.ref q1, .ref q3, .ref q5, .ref q7, .null, .int (nI 0)])), (q1, .inr (0, [.ref u2_2, .int (nI 0)])), aI ci u2_2 600 (fun _ => 0), (q3, .inr (6, [.ref u4_4])), aI ci u4_4 1024 (fun _ => 0), (q5, .inr (3, [.double FP.dconst0])), (q7, .inr (2, [.ref u7_8, .ref u8_8, .ref u9_8, .ref u10_8, .ref u11_8, .int (nI 0), .int (nI 0)])), aI ci u7_8 12 (fun _ => 0), aI ci u8_8 12 (fun _ => 0), aI ci u9_8 12 (fun _ => 0), aI ci u10_8 12 (fun _ => 0), aI ci u11_8 1400 (fun _ => 0), (q9, .inr (5, [.ref q1, .ref q3, .ref q5, .ref q7, .ref u13_10, .ref u17_10, .int (nI 0), .int (nI 65535), .int (nI 65535)])), (u13_10, .inr (1, [.ref u14_10, .ref u15_10, .ref u16_10])), aI ci u14_10 8 (fun _ => 0), aI ci u15_10 8 (fun _ => 0), aI ci u16_10 8 (fun _ => 0), (u17_10, .inr (4, [.ref q5, .ref u18_10, .ref u19_10, .int (nI 0), .int (nI 0), .int (-1), .int (nI 0)])), aI ci u18_10 8 (fun _ => 0), aI ci u19_10 160 (fun _ => 0)] H := hP
  have hD : va_D A [(h, .inr (7, [.ref q1, .ref q3, .ref q5, .ref q7, .null, .int (nI 0)])), (q1, .inr (0, [.ref u2_2, .int (nI 0)])), aI ci u2_2 600 (fun _ => 0), (q3, .inr (6, [.ref u4_4])), aI ci u4_4 1024 (fun _ => 0), (q5, .inr (3, [.double FP.dconst0])), (q7, .inr (2, [.ref u7_8, .ref u8_8, .ref u9_8, .ref u10_8, .ref u11_8, .int (nI 0), .int (nI 0)])), aI ci u7_8 12 (fun _ => 0), aI ci u8_8 12 (fun _ => 0), aI ci u9_8 12 (fun _ => 0), aI ci u10_8 12 (fun _ => 0), aI ci u11_8 1400 (fun _ => 0), (q9, .inr (5, [.ref q1, .ref q3, .ref q5, .ref q7, .ref u13_10, .ref u17_10, .int (nI 0), .int (nI 65535), .int (nI 65535)])), (u13_10, .inr (1, [.ref u14_10, .ref u15_10, .ref u16_10])), aI ci u14_10 8 (fun _ => 0), aI ci u15_10 8 (fun _ => 0), aI ci u16_10 8 (fun _ => 0), (u17_10, .inr (4, [.ref q5, .ref u18_10, .ref u19_10, .int (nI 0), .int (nI 0), .int (-1), .int (nI 0)])), aI ci u18_10 8 (fun _ => 0), aI ci u19_10 160 (fun _ => 0)] := hD
  refine W.widen (k := 19) (n := 3294) (by omega) (by omega) ?_
  refine va_putF (D := G) (ci := 7) (v := .ref q9) (ty := (.object "PageReader$Reading")) (C := RX8) (T := TX8) (N := 6) hx hb hts hi_X8 tyX8 tyX8_ok nmX8 hown hK hP hD hS 0 rfl rfl 4 (by decide) f_42 (fun _ h9 => h9) rfl hin rfl (by decide +kernel) rfl rfl (Nat.le_of_ble_eq_true rfl) dX8_init_72 (fun H locs hP hD hS => ?_)
  have hP : va_P G vwCl [(h, .inr (7, [.ref q1, .ref q3, .ref q5, .ref q7, .ref q9, .int (nI 0)])), (q1, .inr (0, [.ref u2_2, .int (nI 0)])), aI ci u2_2 600 (fun _ => 0), (q3, .inr (6, [.ref u4_4])), aI ci u4_4 1024 (fun _ => 0), (q5, .inr (3, [.double FP.dconst0])), (q7, .inr (2, [.ref u7_8, .ref u8_8, .ref u9_8, .ref u10_8, .ref u11_8, .int (nI 0), .int (nI 0)])), aI ci u7_8 12 (fun _ => 0), aI ci u8_8 12 (fun _ => 0), aI ci u9_8 12 (fun _ => 0), aI ci u10_8 12 (fun _ => 0), aI ci u11_8 1400 (fun _ => 0), (q9, .inr (5, [.ref q1, .ref q3, .ref q5, .ref q7, .ref u13_10, .ref u17_10, .int (nI 0), .int (nI 65535), .int (nI 65535)])), (u13_10, .inr (1, [.ref u14_10, .ref u15_10, .ref u16_10])), aI ci u14_10 8 (fun _ => 0), aI ci u15_10 8 (fun _ => 0), aI ci u16_10 8 (fun _ => 0), (u17_10, .inr (4, [.ref q5, .ref u18_10, .ref u19_10, .int (nI 0), .int (nI 0), .int (-1), .int (nI 0)])), aI ci u18_10 8 (fun _ => 0), aI ci u19_10 160 (fun _ => 0)] H := hP
  have hD : va_D A [(h, .inr (7, [.ref q1, .ref q3, .ref q5, .ref q7, .ref q9, .int (nI 0)])), (q1, .inr (0, [.ref u2_2, .int (nI 0)])), aI ci u2_2 600 (fun _ => 0), (q3, .inr (6, [.ref u4_4])), aI ci u4_4 1024 (fun _ => 0), (q5, .inr (3, [.double FP.dconst0])), (q7, .inr (2, [.ref u7_8, .ref u8_8, .ref u9_8, .ref u10_8, .ref u11_8, .int (nI 0), .int (nI 0)])), aI ci u7_8 12 (fun _ => 0), aI ci u8_8 12 (fun _ => 0), aI ci u9_8 12 (fun _ => 0), aI ci u10_8 12 (fun _ => 0), aI ci u11_8 1400 (fun _ => 0), (q9, .inr (5, [.ref q1, .ref q3, .ref q5, .ref q7, .ref u13_10, .ref u17_10, .int (nI 0), .int (nI 65535), .int (nI 65535)])), (u13_10, .inr (1, [.ref u14_10, .ref u15_10, .ref u16_10])), aI ci u14_10 8 (fun _ => 0), aI ci u15_10 8 (fun _ => 0), aI ci u16_10 8 (fun _ => 0), (u17_10, .inr (4, [.ref q5, .ref u18_10, .ref u19_10, .int (nI 0), .int (nI 0), .int (-1), .int (nI 0)])), aI ci u18_10 8 (fun _ => 0), aI ci u19_10 160 (fun _ => 0)] := hD
  refine lv_aload_n hx hb dX8_init_75 rfl (lv_at hl 0 rfl) ?_
  refine lv_iconst (v := (-1)) hx hb dX8_init_76 (by decide) ?_
  refine va_put (D := G) (ci := 7) (v := .int (-1)) (ty := .int) (C := RX8) (T := TX8) (N := 6) hx hb hts hi_X8 tyX8 tyX8_ok nmX8 hown hK hP hD hS 0 rfl rfl 5 (by decide) f_46 (fun _ h9 => h9) rfl (by decide +kernel) rfl rfl (Nat.le_of_ble_eq_true rfl) dX8_init_77 (fun H locs hP hD hS => ?_)
  have hP : va_P G vwCl [(h, .inr (7, [.ref q1, .ref q3, .ref q5, .ref q7, .ref q9, .int (-1)])), (q1, .inr (0, [.ref u2_2, .int (nI 0)])), aI ci u2_2 600 (fun _ => 0), (q3, .inr (6, [.ref u4_4])), aI ci u4_4 1024 (fun _ => 0), (q5, .inr (3, [.double FP.dconst0])), (q7, .inr (2, [.ref u7_8, .ref u8_8, .ref u9_8, .ref u10_8, .ref u11_8, .int (nI 0), .int (nI 0)])), aI ci u7_8 12 (fun _ => 0), aI ci u8_8 12 (fun _ => 0), aI ci u9_8 12 (fun _ => 0), aI ci u10_8 12 (fun _ => 0), aI ci u11_8 1400 (fun _ => 0), (q9, .inr (5, [.ref q1, .ref q3, .ref q5, .ref q7, .ref u13_10, .ref u17_10, .int (nI 0), .int (nI 65535), .int (nI 65535)])), (u13_10, .inr (1, [.ref u14_10, .ref u15_10, .ref u16_10])), aI ci u14_10 8 (fun _ => 0), aI ci u15_10 8 (fun _ => 0), aI ci u16_10 8 (fun _ => 0), (u17_10, .inr (4, [.ref q5, .ref u18_10, .ref u19_10, .int (nI 0), .int (nI 0), .int (-1), .int (nI 0)])), aI ci u18_10 8 (fun _ => 0), aI ci u19_10 160 (fun _ => 0)] H := hP
  have hD : va_D A [(h, .inr (7, [.ref q1, .ref q3, .ref q5, .ref q7, .ref q9, .int (-1)])), (q1, .inr (0, [.ref u2_2, .int (nI 0)])), aI ci u2_2 600 (fun _ => 0), (q3, .inr (6, [.ref u4_4])), aI ci u4_4 1024 (fun _ => 0), (q5, .inr (3, [.double FP.dconst0])), (q7, .inr (2, [.ref u7_8, .ref u8_8, .ref u9_8, .ref u10_8, .ref u11_8, .int (nI 0), .int (nI 0)])), aI ci u7_8 12 (fun _ => 0), aI ci u8_8 12 (fun _ => 0), aI ci u9_8 12 (fun _ => 0), aI ci u10_8 12 (fun _ => 0), aI ci u11_8 1400 (fun _ => 0), (q9, .inr (5, [.ref q1, .ref q3, .ref q5, .ref q7, .ref u13_10, .ref u17_10, .int (nI 0), .int (nI 65535), .int (nI 65535)])), (u13_10, .inr (1, [.ref u14_10, .ref u15_10, .ref u16_10])), aI ci u14_10 8 (fun _ => 0), aI ci u15_10 8 (fun _ => 0), aI ci u16_10 8 (fun _ => 0), (u17_10, .inr (4, [.ref q5, .ref u18_10, .ref u19_10, .int (nI 0), .int (nI 0), .int (-1), .int (nI 0)])), aI ci u18_10 8 (fun _ => 0), aI ci u19_10 160 (fun _ => 0)] := hD
  exact rV hx hb hr hlocks hK hP hD hS [0, 1, 2, 3, 4, 5, 6, 7, 8, 9, 10, 11, 12, 13, 14, 15, 16, 17, 18, 19] (q1, q3, q5, q7, q9, u2_2, u4_4, u7_8, u8_8, u9_8, u10_8, u11_8, u13_10, u17_10, u14_10, u15_10, u16_10, u18_10, u19_10) rfl (by decide) trivial dX8_init_80
set_option maxHeartbeats 4000000 in
set_option maxRecDepth 100000 in
theorem c_X9_init (l : Launch) (G : va_G) (ci cz cl : ClassId) (q : Nat → Nat) (sz : Nat) (h : Nat) : CtV l yX9_init wsX9_init ({ frames := 1, cells := 13, slots := 3672, locals := 16 }) G (TY ci cz cl) O0 [.ref h] [(h, .inr (8, [.int (nI 0), .null, .int (nI 0), .null, .null, .null, .null, .null, .int (nI 0), .int (nI 0), .int (nI 0), .double 0, .int (nI 0), .int (nI 0), .int (nI 0), .null, .null, .null, .null, .int (nI 0), .null, .int (nI 0), .int (nI 0), .int (nI 0), .int (nI 0), .int (nI 0), .int (nI 0), .int (nI 0), .null, .null]))] sz (fun (u : Nat × Nat × Nat × Nat × Nat × Nat × Nat × Nat × Nat × Nat × Nat × Nat × Nat) => True) (fun u : Nat × Nat × Nat × Nat × Nat × Nat × Nat × Nat × Nat × Nat × Nat × Nat × Nat => [(h, .inr (8, [.int (nI 0), .ref u.1, .int (nI 0), .ref u.2.1, .ref u.2.2.1, .ref u.2.2.2.1, .ref u.2.2.2.2.1, .ref u.2.2.2.2.2.1, .int (nI 0), .int (nI 0), .int (nI 0), .double 0, .int (nI 0), .int (-1), .int (nI 0), .ref u.2.2.2.2.2.2.1, .ref u.2.2.2.2.2.2.2.1, .ref u.2.2.2.2.2.2.2.2.1, .ref u.2.2.2.2.2.2.2.2.2.1, .int (nI 0), .ref u.2.2.2.2.2.2.2.2.2.2.1, .int (nI 0), .int (nI 0), .int (nI 0), .int (nI 0), .int (nI 0), .int (nI 0), .int (nI 0), .ref u.2.2.2.2.2.2.2.2.2.2.2.1, .ref u.2.2.2.2.2.2.2.2.2.2.2.2])), aI ci u.1 600 (fun _ => 0), aI ci u.2.1 1024 (fun _ => 0), aI cz u.2.2.1 8 (fun _ => 0), aI cz u.2.2.2.1 8 (fun _ => 0), aI ci u.2.2.2.2.1 8 (fun _ => 0), aI ci u.2.2.2.2.2.1 8 (fun _ => 0), aI ci u.2.2.2.2.2.2.1 12 (fun _ => 0), aI ci u.2.2.2.2.2.2.2.1 12 (fun _ => 0), aI ci u.2.2.2.2.2.2.2.2.1 12 (fun _ => 0), aI ci u.2.2.2.2.2.2.2.2.2.1 12 (fun _ => 0), aI ci u.2.2.2.2.2.2.2.2.2.2.1 1800 (fun _ => 0), aI ci u.2.2.2.2.2.2.2.2.2.2.2.1 8 (fun _ => 0), aI ci u.2.2.2.2.2.2.2.2.2.2.2.2 160 (fun _ => 0)]) 13 3672 := by
  refine Met.ofW (cc := cX9_init) (maxL := 1) (ret := none) (by decide) rfl ?_
  intro p e s m args below meth c s₁ B hml hv
  obtain ⟨rfl, ⟨hsz, hP, hK, hD0⟩, hO⟩ := hv
  have hx := B.exec
  have hb := B.bytes
  have hr := B.returns
  have hts := atoms_spec (ws := wsX9_init) B.pre
  have hown : s.vm.findClass RX9 = some m.cls := findClass_of_methodNamed B.named
  have hlocks := B.notSynchronized
  have hin : meth.name = "<init>" := (name_of_methodNamed B.named B.method).1
  subst hsz
  have hD := hD0.self (sz := s.heap.size)
  generalize hAe : va_A [(h, .inr (8, [.int (nI 0), .null, .int (nI 0), .null, .null, .null, .null, .null, .int (nI 0), .int (nI 0), .int (nI 0), .double 0, .int (nI 0), .int (nI 0), .int (nI 0), .null, .null, .null, .null, .int (nI 0), .null, .int (nI 0), .int (nI 0), .int (nI 0), .int (nI 0), .int (nI 0), .int (nI 0), .int (nI 0), .null, .null]))] s.heap.size = A at hD hO ⊢
  have hA : ∀ q : Nat, s.heap.size ≤ q → A q := fun q h => by rw [← hAe]; exact Or.inr h
  have ok := ok0
  refine startH (A := A) (fun H locs hP hS => ?_) hP
  have m_1 := hts (.methodLink RX9 1 objectInit) (by decide +kernel)
  have m_oi := hts (.instanceMethod objectInit) (by decide +kernel)
  have m_oc := hts (.code objectInit ⟨#[0xb1]⟩ 1 none) (List.mem_cons_of_mem _ (List.mem_append_left _ (List.mem_of_getElem? (i := 2) rfl)))
  have ac_int := hts (.arrayClass .int) (by decide +kernel)
  have hi_X9 := (by decide +kernel : ∀ w ∈ wsX90, w ∈ wsX9_init)
  have f_7 := hts (.fieldLink RX9 7 "PageReaderModel" "file" "[I") (by decide +kernel)
  have f_13 := hts (.fieldLink RX9 13 "PageReaderModel" "widths" "[I") (by decide +kernel)
  have ac_boolean := hts (.arrayClass .boolean) (by decide +kernel)
  have f_16 := hts (.fieldLink RX9 16 "PageReaderModel" "defined" "[Z") (by decide +kernel)
  have f_20 := hts (.fieldLink RX9 20 "PageReaderModel" "again" "[Z") (by decide +kernel)
  have f_23 := hts (.fieldLink RX9 23 "PageReaderModel" "marks" "[I") (by decide +kernel)
  have f_26 := hts (.fieldLink RX9 26 "PageReaderModel" "scales" "[I") (by decide +kernel)
  have f_29 := hts (.fieldLink RX9 29 "PageReaderModel" "found" "I") (by decide +kernel)
  have f_33 := hts (.fieldLink RX9 33 "PageReaderModel" "numbers" "[I") (by decide +kernel)
  have f_36 := hts (.fieldLink RX9 36 "PageReaderModel" "counts" "[I") (by decide +kernel)
  have f_39 := hts (.fieldLink RX9 39 "PageReaderModel" "firsts" "[I") (by decide +kernel)
  have f_42 := hts (.fieldLink RX9 42 "PageReaderModel" "addresses" "[I") (by decide +kernel)
  have f_45 := hts (.fieldLink RX9 45 "PageReaderModel" "item" "[I") (by decide +kernel)
  have f_48 := hts (.fieldLink RX9 48 "PageReaderModel" "spot" "[I") (by decide +kernel)
  have f_51 := hts (.fieldLink RX9 51 "PageReaderModel" "stack" "[I") (by decide +kernel)
  have hl := lv_entry ([.ref h]) (n := 1) (Nat.le_of_ble_eq_true rfl)
  rw [lg_entry_eq]
  generalize (lg_sl ([.ref h]) ++ List.replicate (1 - (lg_sl ([.ref h])).length) Slot.unset).toArray = ls at hl ⊢
  have hl : lv_has ls 1 [(0, .ref h)] := hl
  refine lv_aload_n hx hb dX9_init_0 rfl (lv_at hl 0 rfl) ?_
  refine W.objInit hx hb hown m_1 m_oi m_oc rfl (by rw [hml]; exact hl.1) rfl dX9_init_1 (Nat.le_of_ble_eq_true rfl) (Nat.le_of_ble_eq_true rfl) ?_
  refine W.eq (g2 := F0 m 4 ls []) rfl ?_
  refine lv_aload_n hx hb dX9_init_4 rfl (lv_at hl 0 rfl) ?_
  refine lv_sipush (v := nI 600) hx hb dX9_init_5 (by decide) ?_
  refine va_newa hx hb ac_int rfl hK hP hD hS hA (n := nI 600) (N' := 600) (a0 := (600, .inl (fun _ => 0))) (fun _ => rfl) (by decide) (by decide) (by decide) (Nat.le_of_ble_eq_true rfl) (Nat.le_of_ble_eq_true rfl) dX9_init_8 (fun q1 cA1 H hK1 hP hD hS => ?_)
  have e1 := cA_eq (tys2 := []) 0 hK hK1 rfl rfl rfl
  subst e1
  clear hK1
  have hP : va_P G vwCl [(h, .inr (8, [.int (nI 0), .null, .int (nI 0), .null, .null, .null, .null, .null, .int (nI 0), .int (nI 0), .int (nI 0), .double 0, .int (nI 0), .int (nI 0), .int (nI 0), .null, .null, .null, .null, .int (nI 0), .null, .int (nI 0), .int (nI 0), .int (nI 0), .int (nI 0), .int (nI 0), .int (nI 0), .int (nI 0), .null, .null])), aI ci q1 600 (fun _ => 0)] H := hP
  have hD : va_D A [(h, .inr (8, [.int (nI 0), .null, .int (nI 0), .null, .null, .null, .null, .null, .int (nI 0), .int (nI 0), .int (nI 0), .double 0, .int (nI 0), .int (nI 0), .int (nI 0), .null, .null, .null, .null, .int (nI 0), .null, .int (nI 0), .int (nI 0), .int (nI 0), .int (nI 0), .int (nI 0), .int (nI 0), .int (nI 0), .null, .null])), aI ci q1 600 (fun _ => 0)] := hD
  refine W.widen (k := 1) (n := 600) (by omega) (by omega) ?_
  refine va_put (D := G) (ci := 8) (v := .ref q1) (ty := (.array .int)) (C := RX9) (T := TX9) (N := 30) hx hb hts hi_X9 tyX9 tyX9_ok nmX9 hown hK hP hD hS 0 rfl rfl 1 (by decide) f_7 (fun _ h9 => h9) rfl (by decide +kernel) rfl rfl (Nat.le_of_ble_eq_true rfl) dX9_init_10 (fun H locs hP hD hS => ?_)
  have hP : va_P G vwCl [(h, .inr (8, [.int (nI 0), .ref q1, .int (nI 0), .null, .null, .null, .null, .null, .int (nI 0), .int (nI 0), .int (nI 0), .double 0, .int (nI 0), .int (nI 0), .int (nI 0), .null, .null, .null, .null, .int (nI 0), .null, .int (nI 0), .int (nI 0), .int (nI 0), .int (nI 0), .int (nI 0), .int (nI 0), .int (nI 0), .null, .null])), aI ci q1 600 (fun _ => 0)] H := hP
  have hD : va_D A [(h, .inr (8, [.int (nI 0), .ref q1, .int (nI 0), .null, .null, .null, .null, .null, .int (nI 0), .int (nI 0), .int (nI 0), .double 0, .int (nI 0), .int (nI 0), .int (nI 0), .null, .null, .null, .null, .int (nI 0), .null, .int (nI 0), .int (nI 0), .int (nI 0), .int (nI 0), .int (nI 0), .int (nI 0), .int (nI 0), .null, .null])), aI ci q1 600 (fun _ => 0)] := hD
  refine lv_aload_n hx hb dX9_init_13 rfl (lv_at hl 0 rfl) ?_
  refine lv_sipush (v := nI 1024) hx hb dX9_init_14 (by decide) ?_
  refine va_newa hx hb ac_int rfl hK hP hD hS hA (n := nI 1024) (N' := 1024) (a0 := (1024, .inl (fun _ => 0))) (fun _ => rfl) (by decide) (by decide) (by decide) (Nat.le_of_ble_eq_true rfl) (Nat.le_of_ble_eq_true rfl) dX9_init_17 (fun q2 cA2 H hK2 hP hD hS => ?_)
  have e2 := cA_eq (tys2 := []) 0 hK hK2 rfl rfl rfl
  subst e2
  clear hK2
  have hP : va_P G vwCl [(h, .inr (8, [.int (nI 0), .ref q1, .int (nI 0), .null, .null, .null, .null, .null, .int (nI 0), .int (nI 0), .int (nI 0), .double 0, .int (nI 0), .int (nI 0), .int (nI 0), .null, .null, .null, .null, .int (nI 0), .null, .int (nI 0), .int (nI 0), .int (nI 0), .int (nI 0), .int (nI 0), .int (nI 0), .int (nI 0), .null, .null])), aI ci q1 600 (fun _ => 0), aI ci q2 1024 (fun _ => 0)] H := hP
  have hD : va_D A [(h, .inr (8, [.int (nI 0), .ref q1, .int (nI 0), .null, .null, .null, .null, .null, .int (nI 0), .int (nI 0), .int (nI 0), .double 0, .int (nI 0), .int (nI 0), .int (nI 0), .null, .null, .null, .null, .int (nI 0), .null, .int (nI 0), .int (nI 0), .int (nI 0), .int (nI 0), .int (nI 0), .int (nI 0), .int (nI 0), .null, .null])), aI ci q1 600 (fun _ => 0), aI ci q2 1024 (fun _ => 0)] := hD
  refine W.widen (k := 2) (n := 1624) (by omega) (by omega) ?_
  refine va_put (D := G) (ci := 8) (v := .ref q2) (ty := (.array .int)) (C := RX9) (T := TX9) (N := 30) hx hb hts hi_X9 tyX9 tyX9_ok nmX9 hown hK hP hD hS 0 rfl rfl 3 (by decide) f_13 (fun _ h9 => h9) rfl (by decide +kernel) rfl rfl (Nat.le_of_ble_eq_true rfl) dX9_init_19 (fun H locs hP hD hS => ?_)
  have hP : va_P G vwCl [(h, .inr (8, [.int (nI 0), .ref q1, .int (nI 0), .ref q2, .null, .null, .null, .null, .int (nI 0), .int (nI 0), .int (nI 0), .double 0, .int (nI 0), .int (nI 0), .int (nI 0), .null, .null, .null, .null, .int (nI 0), .null, .int (nI 0), .int (nI 0), .int (nI 0), .int (nI 0), .int (nI 0), .int (nI 0), .int (nI 0), .null, .null])), aI ci q1 600 (fun _ => 0), aI ci q2 1024 (fun _ => 0)] H := hP
  have hD : va_D A [(h, .inr (8, [.int (nI 0), .ref q1, .int (nI 0), .ref q2, .null, .null, .null, .null, .int (nI 0), .int (nI 0), .int (nI 0), .double 0, .int (nI 0), .int (nI 0), .int (nI 0), .null, .null, .null, .null, .int (nI 0), .null, .int (nI 0), .int (nI 0), .int (nI 0), .int (nI 0), .int (nI 0), .int (nI 0), .int (nI 0), .null, .null])), aI ci q1 600 (fun _ => 0), aI ci q2 1024 (fun _ => 0)] := hD
  refine lv_aload_n hx hb dX9_init_22 rfl (lv_at hl 0 rfl) ?_
  refine lv_bipush (v := nI 8) hx hb dX9_init_23 (by decide) ?_
  refine va_newa hx hb ac_boolean rfl hK hP hD hS hA (n := nI 8) (N' := 8) (a0 := (8, .inl (fun _ => 0))) (fun _ => rfl) (by decide) (by decide) (by decide) (Nat.le_of_ble_eq_true rfl) (Nat.le_of_ble_eq_true rfl) dX9_init_25 (fun q3 cA3 H hK3 hP hD hS => ?_)
  have e3 := cA_eq (tys2 := []) 1 hK hK3 rfl rfl rfl
  subst e3
  clear hK3
  have hP : va_P G vwCl [(h, .inr (8, [.int (nI 0), .ref q1, .int (nI 0), .ref q2, .null, .null, .null, .null, .int (nI 0), .int (nI 0), .int (nI 0), .double 0, .int (nI 0), .int (nI 0), .int (nI 0), .null, .null, .null, .null, .int (nI 0), .null, .int (nI 0), .int (nI 0), .int (nI 0), .int (nI 0), .int (nI 0), .int (nI 0), .int (nI 0), .null, .null])), aI ci q1 600 (fun _ => 0), aI ci q2 1024 (fun _ => 0), aI cz q3 8 (fun _ => 0)] H := hP
  have hD : va_D A [(h, .inr (8, [.int (nI 0), .ref q1, .int (nI 0), .ref q2, .null, .null, .null, .null, .int (nI 0), .int (nI 0), .int (nI 0), .double 0, .int (nI 0), .int (nI 0), .int (nI 0), .null, .null, .null, .null, .int (nI 0), .null, .int (nI 0), .int (nI 0), .int (nI 0), .int (nI 0), .int (nI 0), .int (nI 0), .int (nI 0), .null, .null])), aI ci q1 600 (fun _ => 0), aI ci q2 1024 (fun _ => 0), aI cz q3 8 (fun _ => 0)] := hD
  refine W.widen (k := 3) (n := 1632) (by omega) (by omega) ?_
  refine va_put (D := G) (ci := 8) (v := .ref q3) (ty := (.array .boolean)) (C := RX9) (T := TX9) (N := 30) hx hb hts hi_X9 tyX9 tyX9_ok nmX9 hown hK hP hD hS 0 rfl rfl 4 (by decide) f_16 (fun _ h9 => h9) rfl (by decide +kernel) rfl rfl (Nat.le_of_ble_eq_true rfl) dX9_init_27 (fun H locs hP hD hS => ?_)
  have hP : va_P G vwCl [(h, .inr (8, [.int (nI 0), .ref q1, .int (nI 0), .ref q2, .ref q3, .null, .null, .null, .int (nI 0), .int (nI 0), .int (nI 0), .double 0, .int (nI 0), .int (nI 0), .int (nI 0), .null, .null, .null, .null, .int (nI 0), .null, .int (nI 0), .int (nI 0), .int (nI 0), .int (nI 0), .int (nI 0), .int (nI 0), .int (nI 0), .null, .null])), aI ci q1 600 (fun _ => 0), aI ci q2 1024 (fun _ => 0), aI cz q3 8 (fun _ => 0)] H := hP
  have hD : va_D A [(h, .inr (8, [.int (nI 0), .ref q1, .int (nI 0), .ref q2, .ref q3, .null, .null, .null, .int (nI 0), .int (nI 0), .int (nI 0), .double 0, .int (nI 0), .int (nI 0), .int (nI 0), .null, .null, .null, .null, .int (nI 0), .null, .int (nI 0), .int (nI 0), .int (nI 0), .int (nI 0), .int (nI 0), .int (nI 0), .int (nI 0), .null, .null])), aI ci q1 600 (fun _ => 0), aI ci q2 1024 (fun _ => 0), aI cz q3 8 (fun _ => 0)] := hD
  refine lv_aload_n hx hb dX9_init_30 rfl (lv_at hl 0 rfl) ?_
  refine lv_bipush (v := nI 8) hx hb dX9_init_31 (by decide) ?_
  refine va_newa hx hb ac_boolean rfl hK hP hD hS hA (n := nI 8) (N' := 8) (a0 := (8, .inl (fun _ => 0))) (fun _ => rfl) (by decide) (by decide) (by decide) (Nat.le_of_ble_eq_true rfl) (Nat.le_of_ble_eq_true rfl) dX9_init_33 (fun q4 cA4 H hK4 hP hD hS => ?_)
  have e4 := cA_eq (tys2 := []) 1 hK hK4 rfl rfl rfl
  subst e4
  clear hK4
  have hP : va_P G vwCl [(h, .inr (8, [.int (nI 0), .ref q1, .int (nI 0), .ref q2, .ref q3, .null, .null, .null, .int (nI 0), .int (nI 0), .int (nI 0), .double 0, .int (nI 0), .int (nI 0), .int (nI 0), .null, .null, .null, .null, .int (nI 0), .null, .int (nI 0), .int (nI 0), .int (nI 0), .int (nI 0), .int (nI 0), .int (nI 0), .int (nI 0), .null, .null])), aI ci q1 600 (fun _ => 0), aI ci q2 1024 (fun _ => 0), aI cz q3 8 (fun _ => 0), aI cz q4 8 (fun _ => 0)] H := hP
  have hD : va_D A [(h, .inr (8, [.int (nI 0), .ref q1, .int (nI 0), .ref q2, .ref q3, .null, .null, .null, .int (nI 0), .int (nI 0), .int (nI 0), .double 0, .int (nI 0), .int (nI 0), .int (nI 0), .null, .null, .null, .null, .int (nI 0), .null, .int (nI 0), .int (nI 0), .int (nI 0), .int (nI 0), .int (nI 0), .int (nI 0), .int (nI 0), .null, .null])), aI ci q1 600 (fun _ => 0), aI ci q2 1024 (fun _ => 0), aI cz q3 8 (fun _ => 0), aI cz q4 8 (fun _ => 0)] := hD
  refine W.widen (k := 4) (n := 1640) (by omega) (by omega) ?_
  refine va_put (D := G) (ci := 8) (v := .ref q4) (ty := (.array .boolean)) (C := RX9) (T := TX9) (N := 30) hx hb hts hi_X9 tyX9 tyX9_ok nmX9 hown hK hP hD hS 0 rfl rfl 5 (by decide) f_20 (fun _ h9 => h9) rfl (by decide +kernel) rfl rfl (Nat.le_of_ble_eq_true rfl) dX9_init_35 (fun H locs hP hD hS => ?_)
  have hP : va_P G vwCl [(h, .inr (8, [.int (nI 0), .ref q1, .int (nI 0), .ref q2, .ref q3, .ref q4, .null, .null, .int (nI 0), .int (nI 0), .int (nI 0), .double 0, .int (nI 0), .int (nI 0), .int (nI 0), .null, .null, .null, .null, .int (nI 0), .null, .int (nI 0), .int (nI 0), .int (nI 0), .int (nI 0), .int (nI 0), .int (nI 0), .int (nI 0), .null, .null])), aI ci q1 600 (fun _ => 0), aI ci q2 1024 (fun _ => 0), aI cz q3 8 (fun _ => 0), aI cz q4 8 (fun _ => 0)] H := hP
  have hD : va_D A [(h, .inr (8, [.int (nI 0), .ref q1, .int (nI 0), .ref q2, .ref q3, .ref q4, .null, .null, .int (nI 0), .int (nI 0), .int (nI 0), .double 0, .int (nI 0), .int (nI 0), .int (nI 0), .null, .null, .null, .null, .int (nI 0), .null, .int (nI 0), .int (nI 0), .int (nI 0), .int (nI 0), .int (nI 0), .int (nI 0), .int (nI 0), .null, .null])), aI ci q1 600 (fun _ => 0), aI ci q2 1024 (fun _ => 0), aI cz q3 8 (fun _ => 0), aI cz q4 8 (fun _ => 0)] := hD
  refine lv_aload_n hx hb dX9_init_38 rfl (lv_at hl 0 rfl) ?_
  refine lv_bipush (v := nI 8) hx hb dX9_init_39 (by decide) ?_
  refine va_newa hx hb ac_int rfl hK hP hD hS hA (n := nI 8) (N' := 8) (a0 := (8, .inl (fun _ => 0))) (fun _ => rfl) (by decide) (by decide) (by decide) (Nat.le_of_ble_eq_true rfl) (Nat.le_of_ble_eq_true rfl) dX9_init_41 (fun q5 cA5 H hK5 hP hD hS => ?_)
  have e5 := cA_eq (tys2 := []) 0 hK hK5 rfl rfl rfl
  subst e5
  clear hK5
  have hP : va_P G vwCl [(h, .inr (8, [.int (nI 0), .ref q1, .int (nI 0), .ref q2, .ref q3, .ref q4, .null, .null, .int (nI 0), .int (nI 0), .int (nI 0), .double 0, .int (nI 0), .int (nI 0), .int (nI 0), .null, .null, .null, .null, .int (nI 0), .null, .int (nI 0), .int (nI 0), .int (nI 0), .int (nI 0), .int (nI 0), .int (nI 0), .int (nI 0), .null, .null])), aI ci q1 600 (fun _ => 0), aI ci q2 1024 (fun _ => 0), aI cz q3 8 (fun _ => 0), aI cz q4 8 (fun _ => 0), aI ci q5 8 (fun _ => 0)] H := hP
  have hD : va_D A [(h, .inr (8, [.int (nI 0), .ref q1, .int (nI 0), .ref q2, .ref q3, .ref q4, .null, .null, .int (nI 0), .int (nI 0), .int (nI 0), .double 0, .int (nI 0), .int (nI 0), .int (nI 0), .null, .null, .null, .null, .int (nI 0), .null, .int (nI 0), .int (nI 0), .int (nI 0), .int (nI 0), .int (nI 0), .int (nI 0), .int (nI 0), .null, .null])), aI ci q1 600 (fun _ => 0), aI ci q2 1024 (fun _ => 0), aI cz q3 8 (fun _ => 0), aI cz q4 8 (fun _ => 0), aI ci q5 8 (fun _ => 0)] := hD
  refine W.widen (k := 5) (n := 1648) (by omega) (by omega) ?_
  refine va_put (D := G) (ci := 8) (v := .ref q5) (ty := (.array .int)) (C := RX9) (T := TX9) (N := 30) hx hb hts hi_X9 tyX9 tyX9_ok nmX9 hown hK hP hD hS 0 rfl rfl 6 (by decide) f_23 (fun _ h9 => h9) rfl (by decide +kernel) rfl rfl (Nat.le_of_ble_eq_true rfl) dX9_init_43 (fun H locs hP hD hS => ?_)
  have hP : va_P G vwCl [(h, .inr (8, [.int (nI 0), .ref q1, .int (nI 0), .ref q2, .ref q3, .ref q4, .ref q5, .null, .int (nI 0), .int (nI 0), .int (nI 0), .double 0, .int (nI 0), .int (nI 0), .int (nI 0), .null, .null, .null, .null, .int (nI 0), .null, .int (nI 0), .int (nI 0), .int (nI 0), .int (nI 0), .int (nI 0), .int (nI 0), .int (nI 0), .null, .null])), aI ci q1 600 (fun _ => 0), aI ci q2 1024 (fun _ => 0), aI cz q3 8 (fun _ => 0), aI cz q4 8 (fun _ => 0), aI ci q5 8 (fun _ => 0)] H := hP
  have hD : va_D A [(h, .inr (8, [.int (nI 0), .ref q1, .int (nI 0), .ref q2, .ref q3, .ref q4, .ref q5, .null, .int (nI 0), .int (nI 0), .int (nI 0), .double 0, .int (nI 0), .int (nI 0), .int (nI 0), .null, .null, .null, .null, .int (nI 0), .null, .int (nI 0), .int (nI 0), .int (nI 0), .int (nI 0), .int (nI 0), .int (nI 0), .int (nI 0), .null, .null])), aI ci q1 600 (fun _ => 0), aI ci q2 1024 (fun _ => 0), aI cz q3 8 (fun _ => 0), aI cz q4 8 (fun _ => 0), aI ci q5 8 (fun _ => 0)] := hD
  refine lv_aload_n hx hb dX9_init_46 rfl (lv_at hl 0 rfl) ?_
  refine lv_bipush (v := nI 8) hx hb dX9_init_47 (by decide) ?_
  refine va_newa hx hb ac_int rfl hK hP hD hS hA (n := nI 8) (N' := 8) (a0 := (8, .inl (fun _ => 0))) (fun _ => rfl) (by decide) (by decide) (by decide) (Nat.le_of_ble_eq_true rfl) (Nat.le_of_ble_eq_true rfl) dX9_init_49 (fun q6 cA6 H hK6 hP hD hS => ?_)
  have e6 := cA_eq (tys2 := []) 0 hK hK6 rfl rfl rfl
  subst e6
  clear hK6
  have hP : va_P G vwCl [(h, .inr (8, [.int (nI 0), .ref q1, .int (nI 0), .ref q2, .ref q3, .ref q4, .ref q5, .null, .int (nI 0), .int (nI 0), .int (nI 0), .double 0, .int (nI 0), .int (nI 0), .int (nI 0), .null, .null, .null, .null, .int (nI 0), .null, .int (nI 0), .int (nI 0), .int (nI 0), .int (nI 0), .int (nI 0), .int (nI 0), .int (nI 0), .null, .null])), aI ci q1 600 (fun _ => 0), aI ci q2 1024 (fun _ => 0), aI cz q3 8 (fun _ => 0), aI cz q4 8 (fun _ => 0), aI ci q5 8 (fun _ => 0), aI ci q6 8 (fun _ => 0)] H := hP
  have hD : va_D A [(h, .inr (8, [.int (nI 0), .ref q1, .int (nI 0), .ref q2, .ref q3, .ref q4, .ref q5, .null, .int (nI 0), .int (nI 0), .int (nI 0), .double 0, .int (nI 0), .int (nI 0), .int (nI 0), .null, .null, .null, .null, .int (nI 0), .null, .int (nI 0), .int (nI 0), .int (nI 0), .int (nI 0), .int (nI 0), .int (nI 0), .int (nI 0), .null, .null])), aI ci q1 600 (fun _ => 0), aI ci q2 1024 (fun _ => 0), aI cz q3 8 (fun _ => 0), aI cz q4 8 (fun _ => 0), aI ci q5 8 (fun _ => 0), aI ci q6 8 (fun _ => 0)] := hD
  refine W.widen (k := 6) (n := 1656) (by omega) (by omega) ?_
  refine va_put (D := G) (ci := 8) (v := .ref q6) (ty := (.array .int)) (C := RX9) (T := TX9) (N := 30) hx hb hts hi_X9 tyX9 tyX9_ok nmX9 hown hK hP hD hS 0 rfl rfl 7 (by decide) f_26 (fun _ h9 => h9) rfl (by decide +kernel) rfl rfl (Nat.le_of_ble_eq_true rfl) dX9_init_51 (fun H locs hP hD hS => ?_)
  have hP : va_P G vwCl [(h, .inr (8, [.int (nI 0), .ref q1, .int (nI 0), .ref q2, .ref q3, .ref q4, .ref q5, .ref q6, .int (nI 0), .int (nI 0), .int (nI 0), .double 0, .int (nI 0), .int (nI 0), .int (nI 0), .null, .null, .null, .null, .int (nI 0), .null, .int (nI 0), .int (nI 0), .int (nI 0), .int (nI 0), .int (nI 0), .int (nI 0), .int (nI 0), .null, .null])), aI ci q1 600 (fun _ => 0), aI ci q2 1024 (fun _ => 0), aI cz q3 8 (fun _ => 0), aI cz q4 8 (fun _ => 0), aI ci q5 8 (fun _ => 0), aI ci q6 8 (fun _ => 0)] H := hP
  have hD : va_D A [(h, .inr (8, [.int (nI 0), .ref q1, .int (nI 0), .ref q2, .ref q3, .ref q4, .ref q5, .ref q6, .int (nI 0), .int (nI 0), .int (nI 0), .double 0, .int (nI 0), .int (nI 0), .int (nI 0), .null, .null, .null, .null, .int (nI 0), .null, .int (nI 0), .int (nI 0), .int (nI 0), .int (nI 0), .int (nI 0), .int (nI 0), .int (nI 0), .null, .null])), aI ci q1 600 (fun _ => 0), aI ci q2 1024 (fun _ => 0), aI cz q3 8 (fun _ => 0), aI cz q4 8 (fun _ => 0), aI ci q5 8 (fun _ => 0), aI ci q6 8 (fun _ => 0)] := hD
  refine lv_aload_n hx hb dX9_init_54 rfl (lv_at hl 0 rfl) ?_
  refine lv_iconst (v := (-1)) hx hb dX9_init_55 (by decide) ?_
  refine va_put (D := G) (ci := 8) (v := .int (-1)) (ty := .int) (C := RX9) (T := TX9) (N := 30) hx hb hts hi_X9 tyX9 tyX9_ok nmX9 hown hK hP hD hS 0 rfl rfl 13 (by decide) f_29 (fun _ h9 => h9) rfl (by decide +kernel) rfl rfl (Nat.le_of_ble_eq_true rfl) dX9_init_56 (fun H locs hP hD hS => ?_)
  have hP : va_P G vwCl [(h, .inr (8, [.int (nI 0), .ref q1, .int (nI 0), .ref q2, .ref q3, .ref q4, .ref q5, .ref q6, .int (nI 0), .int (nI 0), .int (nI 0), .double 0, .int (nI 0), .int (-1), .int (nI 0), .null, .null, .null, .null, .int (nI 0), .null, .int (nI 0), .int (nI 0), .int (nI 0), .int (nI 0), .int (nI 0), .int (nI 0), .int (nI 0), .null, .null])), aI ci q1 600 (fun _ => 0), aI ci q2 1024 (fun _ => 0), aI cz q3 8 (fun _ => 0), aI cz q4 8 (fun _ => 0), aI ci q5 8 (fun _ => 0), aI ci q6 8 (fun _ => 0)] H := hP
  have hD : va_D A [(h, .inr (8, [.int (nI 0), .ref q1, .int (nI 0), .ref q2, .ref q3, .ref q4, .ref q5, .ref q6, .int (nI 0), .int (nI 0), .int (nI 0), .double 0, .int (nI 0), .int (-1), .int (nI 0), .null, .null, .null, .null, .int (nI 0), .null, .int (nI 0), .int (nI 0), .int (nI 0), .int (nI 0), .int (nI 0), .int (nI 0), .int (nI 0), .null, .null])), aI ci q1 600 (fun _ => 0), aI ci q2 1024 (fun _ => 0), aI cz q3 8 (fun _ => 0), aI cz q4 8 (fun _ => 0), aI ci q5 8 (fun _ => 0), aI ci q6 8 (fun _ => 0)] := hD
  refine lv_aload_n hx hb dX9_init_59 rfl (lv_at hl 0 rfl) ?_
  refine lv_bipush (v := nI 12) hx hb dX9_init_60 (by decide) ?_
  refine va_newa hx hb ac_int rfl hK hP hD hS hA (n := nI 12) (N' := 12) (a0 := (12, .inl (fun _ => 0))) (fun _ => rfl) (by decide) (by decide) (by decide) (Nat.le_of_ble_eq_true rfl) (Nat.le_of_ble_eq_true rfl) dX9_init_62 (fun q7 cA7 H hK7 hP hD hS => ?_)
  have e7 := cA_eq (tys2 := []) 0 hK hK7 rfl rfl rfl
  subst e7
  clear hK7
  have hP : va_P G vwCl [(h, .inr (8, [.int (nI 0), .ref q1, .int (nI 0), .ref q2, .ref q3, .ref q4, .ref q5, .ref q6, .int (nI 0), .int (nI 0), .int (nI 0), .double 0, .int (nI 0), .int (-1), .int (nI 0), .null, .null, .null, .null, .int (nI 0), .null, .int (nI 0), .int (nI 0), .int (nI 0), .int (nI 0), .int (nI 0), .int (nI 0), .int (nI 0), .null, .null])), aI ci q1 600 (fun _ => 0), aI ci q2 1024 (fun _ => 0), aI cz q3 8 (fun _ => 0), aI cz q4 8 (fun _ => 0), aI ci q5 8 (fun _ => 0), aI ci q6 8 (fun _ => 0), aI ci q7 12 (fun _ => 0)] H := hP
  have hD : va_D A [(h, .inr (8, [.int (nI 0), .ref q1, .int (nI 0), .ref q2, .ref q3, .ref q4, .ref q5, .ref q6, .int (nI 0), .int (nI 0), .int (nI 0), .double 0, .int (nI 0), .int (-1), .int (nI 0), .null, .null, .null, .null, .int (nI 0), .null, .int (nI 0), .int (nI 0), .int (nI 0), .int (nI 0), .int (nI 0), .int (nI 0), .int (nI 0), .null, .null])), aI ci q1 600 (fun _ => 0), aI ci q2 1024 (fun _ => 0), aI cz q3 8 (fun _ => 0), aI cz q4 8 (fun _ => 0), aI ci q5 8 (fun _ => 0), aI ci q6 8 (fun _ => 0), aI ci q7 12 (fun _ => 0)] := hD
  refine W.widen (k := 7) (n := 1668) (by omega) (by omega) ?_
  refine va_put (D := G) (ci := 8) (v := .ref q7) (ty := (.array .int)) (C := RX9) (T := TX9) (N := 30) hx hb hts hi_X9 tyX9 tyX9_ok nmX9 hown hK hP hD hS 0 rfl rfl 15 (by decide) f_33 (fun _ h9 => h9) rfl (by decide +kernel) rfl rfl (Nat.le_of_ble_eq_true rfl) dX9_init_64 (fun H locs hP hD hS => ?_)
  have hP : va_P G vwCl [(h, .inr (8, [.int (nI 0), .ref q1, .int (nI 0), .ref q2, .ref q3, .ref q4, .ref q5, .ref q6, .int (nI 0), .int (nI 0), .int (nI 0), .double 0, .int (nI 0), .int (-1), .int (nI 0), .ref q7, .null, .null, .null, .int (nI 0), .null, .int (nI 0), .int (nI 0), .int (nI 0), .int (nI 0), .int (nI 0), .int (nI 0), .int (nI 0), .null, .null])), aI ci q1 600 (fun _ => 0), aI ci q2 1024 (fun _ => 0), aI cz q3 8 (fun _ => 0), aI cz q4 8 (fun _ => 0), aI ci q5 8 (fun _ => 0), aI ci q6 8 (fun _ => 0), aI ci q7 12 (fun _ => 0)] H := hP
  have hD : va_D A [(h, .inr (8, [.int (nI 0), .ref q1, .int (nI 0), .ref q2, .ref q3, .ref q4, .ref q5, .ref q6, .int (nI 0), .int (nI 0), .int (nI 0), .double 0, .int (nI 0), .int (-1), .int (nI 0), .ref q7, .null, .null, .null, .int (nI 0), .null, .int (nI 0), .int (nI 0), .int (nI 0), .int (nI 0), .int (nI 0), .int (nI 0), .int (nI 0), .null, .null])), aI ci q1 600 (fun _ => 0), aI ci q2 1024 (fun _ => 0), aI cz q3 8 (fun _ => 0), aI cz q4 8 (fun _ => 0), aI ci q5 8 (fun _ => 0), aI ci q6 8 (fun _ => 0), aI ci q7 12 (fun _ => 0)] := hD
  refine lv_aload_n hx hb dX9_init_67 rfl (lv_at hl 0 rfl) ?_
  refine lv_bipush (v := nI 12) hx hb dX9_init_68 (by decide) ?_
  refine va_newa hx hb ac_int rfl hK hP hD hS hA (n := nI 12) (N' := 12) (a0 := (12, .inl (fun _ => 0))) (fun _ => rfl) (by decide) (by decide) (by decide) (Nat.le_of_ble_eq_true rfl) (Nat.le_of_ble_eq_true rfl) dX9_init_70 (fun q8 cA8 H hK8 hP hD hS => ?_)
  have e8 := cA_eq (tys2 := []) 0 hK hK8 rfl rfl rfl
  subst e8
  clear hK8
  have hP : va_P G vwCl [(h, .inr (8, [.int (nI 0), .ref q1, .int (nI 0), .ref q2, .ref q3, .ref q4, .ref q5, .ref q6, .int (nI 0), .int (nI 0), .int (nI 0), .double 0, .int (nI 0), .int (-1), .int (nI 0), .ref q7, .null, .null, .null, .int (nI 0), .null, .int (nI 0), .int (nI 0), .int (nI 0), .int (nI 0), .int (nI 0), .int (nI 0), .int (nI 0), .null, .null])), aI ci q1 600 (fun _ => 0), aI ci q2 1024 (fun _ => 0), aI cz q3 8 (fun _ => 0), aI cz q4 8 (fun _ => 0), aI ci q5 8 (fun _ => 0), aI ci q6 8 (fun _ => 0), aI ci q7 12 (fun _ => 0), aI ci q8 12 (fun _ => 0)] H := hP
  have hD : va_D A [(h, .inr (8, [.int (nI 0), .ref q1, .int (nI 0), .ref q2, .ref q3, .ref q4, .ref q5, .ref q6, .int (nI 0), .int (nI 0), .int (nI 0), .double 0, .int (nI 0), .int (-1), .int (nI 0), .ref q7, .null, .null, .null, .int (nI 0), .null, .int (nI 0), .int (nI 0), .int (nI 0), .int (nI 0), .int (nI 0), .int (nI 0), .int (nI 0), .null, .null])), aI ci q1 600 (fun _ => 0), aI ci q2 1024 (fun _ => 0), aI cz q3 8 (fun _ => 0), aI cz q4 8 (fun _ => 0), aI ci q5 8 (fun _ => 0), aI ci q6 8 (fun _ => 0), aI ci q7 12 (fun _ => 0), aI ci q8 12 (fun _ => 0)] := hD
  refine W.widen (k := 8) (n := 1680) (by omega) (by omega) ?_
  refine va_put (D := G) (ci := 8) (v := .ref q8) (ty := (.array .int)) (C := RX9) (T := TX9) (N := 30) hx hb hts hi_X9 tyX9 tyX9_ok nmX9 hown hK hP hD hS 0 rfl rfl 16 (by decide) f_36 (fun _ h9 => h9) rfl (by decide +kernel) rfl rfl (Nat.le_of_ble_eq_true rfl) dX9_init_72 (fun H locs hP hD hS => ?_)
  have hP : va_P G vwCl [(h, .inr (8, [.int (nI 0), .ref q1, .int (nI 0), .ref q2, .ref q3, .ref q4, .ref q5, .ref q6, .int (nI 0), .int (nI 0), .int (nI 0), .double 0, .int (nI 0), .int (-1), .int (nI 0), .ref q7, .ref q8, .null, .null, .int (nI 0), .null, .int (nI 0), .int (nI 0), .int (nI 0), .int (nI 0), .int (nI 0), .int (nI 0), .int (nI 0), .null, .null])), aI ci q1 600 (fun _ => 0), aI ci q2 1024 (fun _ => 0), aI cz q3 8 (fun _ => 0), aI cz q4 8 (fun _ => 0), aI ci q5 8 (fun _ => 0), aI ci q6 8 (fun _ => 0), aI ci q7 12 (fun _ => 0), aI ci q8 12 (fun _ => 0)] H := hP
  have hD : va_D A [(h, .inr (8, [.int (nI 0), .ref q1, .int (nI 0), .ref q2, .ref q3, .ref q4, .ref q5, .ref q6, .int (nI 0), .int (nI 0), .int (nI 0), .double 0, .int (nI 0), .int (-1), .int (nI 0), .ref q7, .ref q8, .null, .null, .int (nI 0), .null, .int (nI 0), .int (nI 0), .int (nI 0), .int (nI 0), .int (nI 0), .int (nI 0), .int (nI 0), .null, .null])), aI ci q1 600 (fun _ => 0), aI ci q2 1024 (fun _ => 0), aI cz q3 8 (fun _ => 0), aI cz q4 8 (fun _ => 0), aI ci q5 8 (fun _ => 0), aI ci q6 8 (fun _ => 0), aI ci q7 12 (fun _ => 0), aI ci q8 12 (fun _ => 0)] := hD
  refine lv_aload_n hx hb dX9_init_75 rfl (lv_at hl 0 rfl) ?_
  refine lv_bipush (v := nI 12) hx hb dX9_init_76 (by decide) ?_
  refine va_newa hx hb ac_int rfl hK hP hD hS hA (n := nI 12) (N' := 12) (a0 := (12, .inl (fun _ => 0))) (fun _ => rfl) (by decide) (by decide) (by decide) (Nat.le_of_ble_eq_true rfl) (Nat.le_of_ble_eq_true rfl) dX9_init_78 (fun q9 cA9 H hK9 hP hD hS => ?_)
  have e9 := cA_eq (tys2 := []) 0 hK hK9 rfl rfl rfl
  subst e9
  clear hK9
  have hP : va_P G vwCl [(h, .inr (8, [.int (nI 0), .ref q1, .int (nI 0), .ref q2, .ref q3, .ref q4, .ref q5, .ref q6, .int (nI 0), .int (nI 0), .int (nI 0), .double 0, .int (nI 0), .int (-1), .int (nI 0), .ref q7, .ref q8, .null, .null, .int (nI 0), .null, .int (nI 0), .int (nI 0), .int (nI 0), .int (nI 0), .int (nI 0), .int (nI 0), .int (nI 0), .null, .null])), aI ci q1 600 (fun _ => 0), aI ci q2 1024 (fun _ => 0), aI cz q3 8 (fun _ => 0), aI cz q4 8 (fun _ => 0), aI ci q5 8 (fun _ => 0), aI ci q6 8 (fun _ => 0), aI ci q7 12 (fun _ => 0), aI ci q8 12 (fun _ => 0), aI ci q9 12 (fun _ => 0)] H := hP
  have hD : va_D A [(h, .inr (8, [.int (nI 0), .ref q1, .int (nI 0), .ref q2, .ref q3, .ref q4, .ref q5, .ref q6, .int (nI 0), .int (nI 0), .int (nI 0), .double 0, .int (nI 0), .int (-1), .int (nI 0), .ref q7, .ref q8, .null, .null, .int (nI 0), .null, .int (nI 0), .int (nI 0), .int (nI 0), .int (nI 0), .int (nI 0), .int (nI 0), .int (nI 0), .null, .null])), aI ci q1 600 (fun _ => 0), aI ci q2 1024 (fun _ => 0), aI cz q3 8 (fun _ => 0), aI cz q4 8 (fun _ => 0), aI ci q5 8 (fun _ => 0), aI ci q6 8 (fun _ => 0), aI ci q7 12 (fun _ => 0), aI ci q8 12 (fun _ => 0), aI ci q9 12 (fun _ => 0)] := hD
  refine W.widen (k := 9) (n := 1692) (by omega) (by omega) ?_
  refine va_put (D := G) (ci := 8) (v := .ref q9) (ty := (.array .int)) (C := RX9) (T := TX9) (N := 30) hx hb hts hi_X9 tyX9 tyX9_ok nmX9 hown hK hP hD hS 0 rfl rfl 17 (by decide) f_39 (fun _ h9 => h9) rfl (by decide +kernel) rfl rfl (Nat.le_of_ble_eq_true rfl) dX9_init_80 (fun H locs hP hD hS => ?_)
  have hP : va_P G vwCl [(h, .inr (8, [.int (nI 0), .ref q1, .int (nI 0), .ref q2, .ref q3, .ref q4, .ref q5, .ref q6, .int (nI 0), .int (nI 0), .int (nI 0), .double 0, .int (nI 0), .int (-1), .int (nI 0), .ref q7, .ref q8, .ref q9, .null, .int (nI 0), .null, .int (nI 0), .int (nI 0), .int (nI 0), .int (nI 0), .int (nI 0), .int (nI 0), .int (nI 0), .null, .null])), aI ci q1 600 (fun _ => 0), aI ci q2 1024 (fun _ => 0), aI cz q3 8 (fun _ => 0), aI cz q4 8 (fun _ => 0), aI ci q5 8 (fun _ => 0), aI ci q6 8 (fun _ => 0), aI ci q7 12 (fun _ => 0), aI ci q8 12 (fun _ => 0), aI ci q9 12 (fun _ => 0)] H := hP
  have hD : va_D A [(h, .inr (8, [.int (nI 0), .ref q1, .int (nI 0), .ref q2, .ref q3, .ref q4, .ref q5, .ref q6, .int (nI 0), .int (nI 0), .int (nI 0), .double 0, .int (nI 0), .int (-1), .int (nI 0), .ref q7, .ref q8, .ref q9, .null, .int (nI 0), .null, .int (nI 0), .int (nI 0), .int (nI 0), .int (nI 0), .int (nI 0), .int (nI 0), .int (nI 0), .null, .null])), aI ci q1 600 (fun _ => 0), aI ci q2 1024 (fun _ => 0), aI cz q3 8 (fun _ => 0), aI cz q4 8 (fun _ => 0), aI ci q5 8 (fun _ => 0), aI ci q6 8 (fun _ => 0), aI ci q7 12 (fun _ => 0), aI ci q8 12 (fun _ => 0), aI ci q9 12 (fun _ => 0)] := hD
  refine lv_aload_n hx hb dX9_init_83 rfl (lv_at hl 0 rfl) ?_
  refine lv_bipush (v := nI 12) hx hb dX9_init_84 (by decide) ?_
  refine va_newa hx hb ac_int rfl hK hP hD hS hA (n := nI 12) (N' := 12) (a0 := (12, .inl (fun _ => 0))) (fun _ => rfl) (by decide) (by decide) (by decide) (Nat.le_of_ble_eq_true rfl) (Nat.le_of_ble_eq_true rfl) dX9_init_86 (fun q10 cA10 H hK10 hP hD hS => ?_)
  have e10 := cA_eq (tys2 := []) 0 hK hK10 rfl rfl rfl
  subst e10
  clear hK10
  have hP : va_P G vwCl [(h, .inr (8, [.int (nI 0), .ref q1, .int (nI 0), .ref q2, .ref q3, .ref q4, .ref q5, .ref q6, .int (nI 0), .int (nI 0), .int (nI 0), .double 0, .int (nI 0), .int (-1), .int (nI 0), .ref q7, .ref q8, .ref q9, .null, .int (nI 0), .null, .int (nI 0), .int (nI 0), .int (nI 0), .int (nI 0), .int (nI 0), .int (nI 0), .int (nI 0), .null, .null])), aI ci q1 600 (fun _ => 0), aI ci q2 1024 (fun _ => 0), aI cz q3 8 (fun _ => 0), aI cz q4 8 (fun _ => 0), aI ci q5 8 (fun _ => 0), aI ci q6 8 (fun _ => 0), aI ci q7 12 (fun _ => 0), aI ci q8 12 (fun _ => 0), aI ci q9 12 (fun _ => 0), aI ci q10 12 (fun _ => 0)] H := hP
  have hD : va_D A [(h, .inr (8, [.int (nI 0), .ref q1, .int (nI 0), .ref q2, .ref q3, .ref q4, .ref q5, .ref q6, .int (nI 0), .int (nI 0), .int (nI 0), .double 0, .int (nI 0), .int (-1), .int (nI 0), .ref q7, .ref q8, .ref q9, .null, .int (nI 0), .null, .int (nI 0), .int (nI 0), .int (nI 0), .int (nI 0), .int (nI 0), .int (nI 0), .int (nI 0), .null, .null])), aI ci q1 600 (fun _ => 0), aI ci q2 1024 (fun _ => 0), aI cz q3 8 (fun _ => 0), aI cz q4 8 (fun _ => 0), aI ci q5 8 (fun _ => 0), aI ci q6 8 (fun _ => 0), aI ci q7 12 (fun _ => 0), aI ci q8 12 (fun _ => 0), aI ci q9 12 (fun _ => 0), aI ci q10 12 (fun _ => 0)] := hD
  refine W.widen (k := 10) (n := 1704) (by omega) (by omega) ?_
  refine va_put (D := G) (ci := 8) (v := .ref q10) (ty := (.array .int)) (C := RX9) (T := TX9) (N := 30) hx hb hts hi_X9 tyX9 tyX9_ok nmX9 hown hK hP hD hS 0 rfl rfl 18 (by decide) f_42 (fun _ h9 => h9) rfl (by decide +kernel) rfl rfl (Nat.le_of_ble_eq_true rfl) dX9_init_88 (fun H locs hP hD hS => ?_)
  have hP : va_P G vwCl [(h, .inr (8, [.int (nI 0), .ref q1, .int (nI 0), .ref q2, .ref q3, .ref q4, .ref q5, .ref q6, .int (nI 0), .int (nI 0), .int (nI 0), .double 0, .int (nI 0), .int (-1), .int (nI 0), .ref q7, .ref q8, .ref q9, .ref q10, .int (nI 0), .null, .int (nI 0), .int (nI 0), .int (nI 0), .int (nI 0), .int (nI 0), .int (nI 0), .int (nI 0), .null, .null])), aI ci q1 600 (fun _ => 0), aI ci q2 1024 (fun _ => 0), aI cz q3 8 (fun _ => 0), aI cz q4 8 (fun _ => 0), aI ci q5 8 (fun _ => 0), aI ci q6 8 (fun _ => 0), aI ci q7 12 (fun _ => 0), aI ci q8 12 (fun _ => 0), aI ci q9 12 (fun _ => 0), aI ci q10 12 (fun _ => 0)] H := hP
  have hD : va_D A [(h, .inr (8, [.int (nI 0), .ref q1, .int (nI 0), .ref q2, .ref q3, .ref q4, .ref q5, .ref q6, .int (nI 0), .int (nI 0), .int (nI 0), .double 0, .int (nI 0), .int (-1), .int (nI 0), .ref q7, .ref q8, .ref q9, .ref q10, .int (nI 0), .null, .int (nI 0), .int (nI 0), .int (nI 0), .int (nI 0), .int (nI 0), .int (nI 0), .int (nI 0), .null, .null])), aI ci q1 600 (fun _ => 0), aI ci q2 1024 (fun _ => 0), aI cz q3 8 (fun _ => 0), aI cz q4 8 (fun _ => 0), aI ci q5 8 (fun _ => 0), aI ci q6 8 (fun _ => 0), aI ci q7 12 (fun _ => 0), aI ci q8 12 (fun _ => 0), aI ci q9 12 (fun _ => 0), aI ci q10 12 (fun _ => 0)] := hD
  refine lv_aload_n hx hb dX9_init_91 rfl (lv_at hl 0 rfl) ?_
  refine lv_sipush (v := nI 1800) hx hb dX9_init_92 (by decide) ?_
  refine va_newa hx hb ac_int rfl hK hP hD hS hA (n := nI 1800) (N' := 1800) (a0 := (1800, .inl (fun _ => 0))) (fun _ => rfl) (by decide) (by decide) (by decide) (Nat.le_of_ble_eq_true rfl) (Nat.le_of_ble_eq_true rfl) dX9_init_95 (fun q11 cA11 H hK11 hP hD hS => ?_)
  have e11 := cA_eq (tys2 := []) 0 hK hK11 rfl rfl rfl
  subst e11
  clear hK11
  have hP : va_P G vwCl [(h, .inr (8, [.int (nI 0), .ref q1, .int (nI 0), .ref q2, .ref q3, .ref q4, .ref q5, .ref q6, .int (nI 0), .int (nI 0), .int (nI 0), .double 0, .int (nI 0), .int (-1), .int (nI 0), .ref q7, .ref q8, .ref q9, .ref q10, .int (nI 0), .null, .int (nI 0), .int (nI 0), .int (nI 0), .int (nI 0), .int (nI 0), .int (nI 0), .int (nI 0), .null, .null])), aI ci q1 600 (fun _ => 0), aI ci q2 1024 (fun _ => 0), aI cz q3 8 (fun _ => 0), aI cz q4 8 (fun _ => 0), aI ci q5 8 (fun _ => 0), aI ci q6 8 (fun _ => 0), aI ci q7 12 (fun _ => 0), aI ci q8 12 (fun _ => 0), aI ci q9 12 (fun _ => 0), aI ci q10 12 (fun _ => 0), aI ci q11 1800 (fun _ => 0)] H := hP
  have hD : va_D A [(h, .inr (8, [.int (nI 0), .ref q1, .int (nI 0), .ref q2, .ref q3, .ref q4, .ref q5, .ref q6, .int (nI 0), .int (nI 0), .int (nI 0), .double 0, .int (nI 0), .int (-1), .int (nI 0), .ref q7, .ref q8, .ref q9, .ref q10, .int (nI 0), .null, .int (nI 0), .int (nI 0), .int (nI 0), .int (nI 0), .int (nI 0), .int (nI 0), .int (nI 0), .null, .null])), aI ci q1 600 (fun _ => 0), aI ci q2 1024 (fun _ => 0), aI cz q3 8 (fun _ => 0), aI cz q4 8 (fun _ => 0), aI ci q5 8 (fun _ => 0), aI ci q6 8 (fun _ => 0), aI ci q7 12 (fun _ => 0), aI ci q8 12 (fun _ => 0), aI ci q9 12 (fun _ => 0), aI ci q10 12 (fun _ => 0), aI ci q11 1800 (fun _ => 0)] := hD
  refine W.widen (k := 11) (n := 3504) (by omega) (by omega) ?_
  refine va_put (D := G) (ci := 8) (v := .ref q11) (ty := (.array .int)) (C := RX9) (T := TX9) (N := 30) hx hb hts hi_X9 tyX9 tyX9_ok nmX9 hown hK hP hD hS 0 rfl rfl 20 (by decide) f_45 (fun _ h9 => h9) rfl (by decide +kernel) rfl rfl (Nat.le_of_ble_eq_true rfl) dX9_init_97 (fun H locs hP hD hS => ?_)
  have hP : va_P G vwCl [(h, .inr (8, [.int (nI 0), .ref q1, .int (nI 0), .ref q2, .ref q3, .ref q4, .ref q5, .ref q6, .int (nI 0), .int (nI 0), .int (nI 0), .double 0, .int (nI 0), .int (-1), .int (nI 0), .ref q7, .ref q8, .ref q9, .ref q10, .int (nI 0), .ref q11, .int (nI 0), .int (nI 0), .int (nI 0), .int (nI 0), .int (nI 0), .int (nI 0), .int (nI 0), .null, .null])), aI ci q1 600 (fun _ => 0), aI ci q2 1024 (fun _ => 0), aI cz q3 8 (fun _ => 0), aI cz q4 8 (fun _ => 0), aI ci q5 8 (fun _ => 0), aI ci q6 8 (fun _ => 0), aI ci q7 12 (fun _ => 0), aI ci q8 12 (fun _ => 0), aI ci q9 12 (fun _ => 0), aI ci q10 12 (fun _ => 0), aI ci q11 1800 (fun _ => 0)] H := hP
  have hD : va_D A [(h, .inr (8, [.int (nI 0), .ref q1, .int (nI 0), .ref q2, .ref q3, .ref q4, .ref q5, .ref q6, .int (nI 0), .int (nI 0), .int (nI 0), .double 0, .int (nI 0), .int (-1), .int (nI 0), .ref q7, .ref q8, .ref q9, .ref q10, .int (nI 0), .ref q11, .int (nI 0), .int (nI 0), .int (nI 0), .int (nI 0), .int (nI 0), .int (nI 0), .int (nI 0), .null, .null])), aI ci q1 600 (fun _ => 0), aI ci q2 1024 (fun _ => 0), aI cz q3 8 (fun _ => 0), aI cz q4 8 (fun _ => 0), aI ci q5 8 (fun _ => 0), aI ci q6 8 (fun _ => 0), aI ci q7 12 (fun _ => 0), aI ci q8 12 (fun _ => 0), aI ci q9 12 (fun _ => 0), aI ci q10 12 (fun _ => 0), aI ci q11 1800 (fun _ => 0)] := hD
  refine lv_aload_n hx hb dX9_init_100 rfl (lv_at hl 0 rfl) ?_
  refine lv_bipush (v := nI 8) hx hb dX9_init_101 (by decide) ?_
  refine va_newa hx hb ac_int rfl hK hP hD hS hA (n := nI 8) (N' := 8) (a0 := (8, .inl (fun _ => 0))) (fun _ => rfl) (by decide) (by decide) (by decide) (Nat.le_of_ble_eq_true rfl) (Nat.le_of_ble_eq_true rfl) dX9_init_103 (fun q12 cA12 H hK12 hP hD hS => ?_)
  have e12 := cA_eq (tys2 := []) 0 hK hK12 rfl rfl rfl
  subst e12
  clear hK12
  have hP : va_P G vwCl [(h, .inr (8, [.int (nI 0), .ref q1, .int (nI 0), .ref q2, .ref q3, .ref q4, .ref q5, .ref q6, .int (nI 0), .int (nI 0), .int (nI 0), .double 0, .int (nI 0), .int (-1), .int (nI 0), .ref q7, .ref q8, .ref q9, .ref q10, .int (nI 0), .ref q11, .int (nI 0), .int (nI 0), .int (nI 0), .int (nI 0), .int (nI 0), .int (nI 0), .int (nI 0), .null, .null])), aI ci q1 600 (fun _ => 0), aI ci q2 1024 (fun _ => 0), aI cz q3 8 (fun _ => 0), aI cz q4 8 (fun _ => 0), aI ci q5 8 (fun _ => 0), aI ci q6 8 (fun _ => 0), aI ci q7 12 (fun _ => 0), aI ci q8 12 (fun _ => 0), aI ci q9 12 (fun _ => 0), aI ci q10 12 (fun _ => 0), aI ci q11 1800 (fun _ => 0), aI ci q12 8 (fun _ => 0)] H := hP
  have hD : va_D A [(h, .inr (8, [.int (nI 0), .ref q1, .int (nI 0), .ref q2, .ref q3, .ref q4, .ref q5, .ref q6, .int (nI 0), .int (nI 0), .int (nI 0), .double 0, .int (nI 0), .int (-1), .int (nI 0), .ref q7, .ref q8, .ref q9, .ref q10, .int (nI 0), .ref q11, .int (nI 0), .int (nI 0), .int (nI 0), .int (nI 0), .int (nI 0), .int (nI 0), .int (nI 0), .null, .null])), aI ci q1 600 (fun _ => 0), aI ci q2 1024 (fun _ => 0), aI cz q3 8 (fun _ => 0), aI cz q4 8 (fun _ => 0), aI ci q5 8 (fun _ => 0), aI ci q6 8 (fun _ => 0), aI ci q7 12 (fun _ => 0), aI ci q8 12 (fun _ => 0), aI ci q9 12 (fun _ => 0), aI ci q10 12 (fun _ => 0), aI ci q11 1800 (fun _ => 0), aI ci q12 8 (fun _ => 0)] := hD
  refine W.widen (k := 12) (n := 3512) (by omega) (by omega) ?_
  refine va_put (D := G) (ci := 8) (v := .ref q12) (ty := (.array .int)) (C := RX9) (T := TX9) (N := 30) hx hb hts hi_X9 tyX9 tyX9_ok nmX9 hown hK hP hD hS 0 rfl rfl 28 (by decide) f_48 (fun _ h9 => h9) rfl (by decide +kernel) rfl rfl (Nat.le_of_ble_eq_true rfl) dX9_init_105 (fun H locs hP hD hS => ?_)
  have hP : va_P G vwCl [(h, .inr (8, [.int (nI 0), .ref q1, .int (nI 0), .ref q2, .ref q3, .ref q4, .ref q5, .ref q6, .int (nI 0), .int (nI 0), .int (nI 0), .double 0, .int (nI 0), .int (-1), .int (nI 0), .ref q7, .ref q8, .ref q9, .ref q10, .int (nI 0), .ref q11, .int (nI 0), .int (nI 0), .int (nI 0), .int (nI 0), .int (nI 0), .int (nI 0), .int (nI 0), .ref q12, .null])), aI ci q1 600 (fun _ => 0), aI ci q2 1024 (fun _ => 0), aI cz q3 8 (fun _ => 0), aI cz q4 8 (fun _ => 0), aI ci q5 8 (fun _ => 0), aI ci q6 8 (fun _ => 0), aI ci q7 12 (fun _ => 0), aI ci q8 12 (fun _ => 0), aI ci q9 12 (fun _ => 0), aI ci q10 12 (fun _ => 0), aI ci q11 1800 (fun _ => 0), aI ci q12 8 (fun _ => 0)] H := hP
  have hD : va_D A [(h, .inr (8, [.int (nI 0), .ref q1, .int (nI 0), .ref q2, .ref q3, .ref q4, .ref q5, .ref q6, .int (nI 0), .int (nI 0), .int (nI 0), .double 0, .int (nI 0), .int (-1), .int (nI 0), .ref q7, .ref q8, .ref q9, .ref q10, .int (nI 0), .ref q11, .int (nI 0), .int (nI 0), .int (nI 0), .int (nI 0), .int (nI 0), .int (nI 0), .int (nI 0), .ref q12, .null])), aI ci q1 600 (fun _ => 0), aI ci q2 1024 (fun _ => 0), aI cz q3 8 (fun _ => 0), aI cz q4 8 (fun _ => 0), aI ci q5 8 (fun _ => 0), aI ci q6 8 (fun _ => 0), aI ci q7 12 (fun _ => 0), aI ci q8 12 (fun _ => 0), aI ci q9 12 (fun _ => 0), aI ci q10 12 (fun _ => 0), aI ci q11 1800 (fun _ => 0), aI ci q12 8 (fun _ => 0)] := hD
  refine lv_aload_n hx hb dX9_init_108 rfl (lv_at hl 0 rfl) ?_
  refine lv_sipush (v := nI 160) hx hb dX9_init_109 (by decide) ?_
  refine va_newa hx hb ac_int rfl hK hP hD hS hA (n := nI 160) (N' := 160) (a0 := (160, .inl (fun _ => 0))) (fun _ => rfl) (by decide) (by decide) (by decide) (Nat.le_of_ble_eq_true rfl) (Nat.le_of_ble_eq_true rfl) dX9_init_112 (fun q13 cA13 H hK13 hP hD hS => ?_)
  have e13 := cA_eq (tys2 := []) 0 hK hK13 rfl rfl rfl
  subst e13
  clear hK13
  have hP : va_P G vwCl [(h, .inr (8, [.int (nI 0), .ref q1, .int (nI 0), .ref q2, .ref q3, .ref q4, .ref q5, .ref q6, .int (nI 0), .int (nI 0), .int (nI 0), .double 0, .int (nI 0), .int (-1), .int (nI 0), .ref q7, .ref q8, .ref q9, .ref q10, .int (nI 0), .ref q11, .int (nI 0), .int (nI 0), .int (nI 0), .int (nI 0), .int (nI 0), .int (nI 0), .int (nI 0), .ref q12, .null])), aI ci q1 600 (fun _ => 0), aI ci q2 1024 (fun _ => 0), aI cz q3 8 (fun _ => 0), aI cz q4 8 (fun _ => 0), aI ci q5 8 (fun _ => 0), aI ci q6 8 (fun _ => 0), aI ci q7 12 (fun _ => 0), aI ci q8 12 (fun _ => 0), aI ci q9 12 (fun _ => 0), aI ci q10 12 (fun _ => 0), aI ci q11 1800 (fun _ => 0), aI ci q12 8 (fun _ => 0), aI ci q13 160 (fun _ => 0)] H := hP
  have hD : va_D A [(h, .inr (8, [.int (nI 0), .ref q1, .int (nI 0), .ref q2, .ref q3, .ref q4, .ref q5, .ref q6, .int (nI 0), .int (nI 0), .int (nI 0), .double 0, .int (nI 0), .int (-1), .int (nI 0), .ref q7, .ref q8, .ref q9, .ref q10, .int (nI 0), .ref q11, .int (nI 0), .int (nI 0), .int (nI 0), .int (nI 0), .int (nI 0), .int (nI 0), .int (nI 0), .ref q12, .null])), aI ci q1 600 (fun _ => 0), aI ci q2 1024 (fun _ => 0), aI cz q3 8 (fun _ => 0), aI cz q4 8 (fun _ => 0), aI ci q5 8 (fun _ => 0), aI ci q6 8 (fun _ => 0), aI ci q7 12 (fun _ => 0), aI ci q8 12 (fun _ => 0), aI ci q9 12 (fun _ => 0), aI ci q10 12 (fun _ => 0), aI ci q11 1800 (fun _ => 0), aI ci q12 8 (fun _ => 0), aI ci q13 160 (fun _ => 0)] := hD
  refine W.widen (k := 13) (n := 3672) (by omega) (by omega) ?_
  refine va_put (D := G) (ci := 8) (v := .ref q13) (ty := (.array .int)) (C := RX9) (T := TX9) (N := 30) hx hb hts hi_X9 tyX9 tyX9_ok nmX9 hown hK hP hD hS 0 rfl rfl 29 (by decide) f_51 (fun _ h9 => h9) rfl (by decide +kernel) rfl rfl (Nat.le_of_ble_eq_true rfl) dX9_init_114 (fun H locs hP hD hS => ?_)
  have hP : va_P G vwCl [(h, .inr (8, [.int (nI 0), .ref q1, .int (nI 0), .ref q2, .ref q3, .ref q4, .ref q5, .ref q6, .int (nI 0), .int (nI 0), .int (nI 0), .double 0, .int (nI 0), .int (-1), .int (nI 0), .ref q7, .ref q8, .ref q9, .ref q10, .int (nI 0), .ref q11, .int (nI 0), .int (nI 0), .int (nI 0), .int (nI 0), .int (nI 0), .int (nI 0), .int (nI 0), .ref q12, .ref q13])), aI ci q1 600 (fun _ => 0), aI ci q2 1024 (fun _ => 0), aI cz q3 8 (fun _ => 0), aI cz q4 8 (fun _ => 0), aI ci q5 8 (fun _ => 0), aI ci q6 8 (fun _ => 0), aI ci q7 12 (fun _ => 0), aI ci q8 12 (fun _ => 0), aI ci q9 12 (fun _ => 0), aI ci q10 12 (fun _ => 0), aI ci q11 1800 (fun _ => 0), aI ci q12 8 (fun _ => 0), aI ci q13 160 (fun _ => 0)] H := hP
  have hD : va_D A [(h, .inr (8, [.int (nI 0), .ref q1, .int (nI 0), .ref q2, .ref q3, .ref q4, .ref q5, .ref q6, .int (nI 0), .int (nI 0), .int (nI 0), .double 0, .int (nI 0), .int (-1), .int (nI 0), .ref q7, .ref q8, .ref q9, .ref q10, .int (nI 0), .ref q11, .int (nI 0), .int (nI 0), .int (nI 0), .int (nI 0), .int (nI 0), .int (nI 0), .int (nI 0), .ref q12, .ref q13])), aI ci q1 600 (fun _ => 0), aI ci q2 1024 (fun _ => 0), aI cz q3 8 (fun _ => 0), aI cz q4 8 (fun _ => 0), aI ci q5 8 (fun _ => 0), aI ci q6 8 (fun _ => 0), aI ci q7 12 (fun _ => 0), aI ci q8 12 (fun _ => 0), aI ci q9 12 (fun _ => 0), aI ci q10 12 (fun _ => 0), aI ci q11 1800 (fun _ => 0), aI ci q12 8 (fun _ => 0), aI ci q13 160 (fun _ => 0)] := hD
  exact rV hx hb hr hlocks hK hP hD hS [0, 1, 2, 3, 4, 5, 6, 7, 8, 9, 10, 11, 12, 13] (q1, q2, q3, q4, q5, q6, q7, q8, q9, q10, q11, q12, q13) rfl (by decide) trivial dX9_init_117
