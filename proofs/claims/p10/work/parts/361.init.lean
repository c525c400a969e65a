set_option maxHeartbeats 4000000 in
set_option maxRecDepth 100000 in
theorem c_X3_init (l : Launch) (G : va_G) (ci cz cl : ClassId) (q : Nat → Nat) (sz : Nat) (h : Nat) : CtV l yX3_init wsX3_init ({ frames := 1, cells := 5, slots := 1448, locals := 16 }) G (TY ci cz cl) O0 [.ref h] [(h, .inr (2, [.null, .null, .null, .null, .null, .int (nI 0), .int (nI 0)]))] sz (fun (u : Nat × Nat × Nat × Nat × Nat) => True) (fun u : Nat × Nat × Nat × Nat × Nat => [(h, .inr (2, [.ref u.1, .ref u.2.1, .ref u.2.2.1, .ref u.2.2.2.1, .ref u.2.2.2.2, .int (nI 0), .int (nI 0)])), aI ci u.1 12 (fun _ => 0), aI ci u.2.1 12 (fun _ => 0), aI ci u.2.2.1 12 (fun _ => 0), aI ci u.2.2.2.1 12 (fun _ => 0), aI ci u.2.2.2.2 1400 (fun _ => 0)]) 5 1448 := by
  refine Met.ofW (cc := cX3_init) (maxL := 1) (ret := none) (by decide) rfl ?_
  intro p e s m args below meth c s₁ B hml hv
  obtain ⟨rfl, ⟨hsz, hP, hK, hD0⟩, hO⟩ := hv
  have hx := B.exec
  have hb := B.bytes
  have hr := B.returns
  have hts := atoms_spec (ws := wsX3_init) B.pre
  have hown : s.vm.findClass RX3 = some m.cls := findClass_of_methodNamed B.named
  have hlocks := B.notSynchronized
  have hin : meth.name = "<init>" := (name_of_methodNamed B.named B.method).1
  subst hsz
  have hD := hD0.self (sz := s.heap.size)
  generalize hAe : va_A [(h, .inr (2, [.null, .null, .null, .null, .null, .int (nI 0), .int (nI 0)]))] s.heap.size = A at hD hO ⊢
  have hA : ∀ q : Nat, s.heap.size ≤ q → A q := fun q h => by rw [← hAe]; exact Or.inr h
  have ok := ok0
  refine startH (A := A) (fun H locs hP hS => ?_) hP
  have m_1 := hts (.methodLink RX3 1 objectInit) (by decide +kernel)
  have m_oi := hts (.instanceMethod objectInit) (by decide +kernel)
  have m_oc := hts (.code objectInit ⟨#[0xb1]⟩ 1 none) (List.mem_cons_of_mem _ (List.mem_append_left _ (List.mem_of_getElem? (i := 2) rfl)))
  have ac_int := hts (.arrayClass .int) (by decide +kernel)
  have hi_X3 := (by decide +kernel : ∀ w ∈ wsX30, w ∈ wsX3_init)
  have f_9 := hts (.fieldLink RX3 9 "PageReader$Pages" "numbers" "[I") (by decide +kernel)
  have f_13 := hts (.fieldLink RX3 13 "PageReader$Pages" "addresses" "[I") (by decide +kernel)
  have f_16 := hts (.fieldLink RX3 16 "PageReader$Pages" "firstItems" "[I") (by decide +kernel)
  have f_19 := hts (.fieldLink RX3 19 "PageReader$Pages" "itemCounts" "[I") (by decide +kernel)
  have f_22 := hts (.fieldLink RX3 22 "PageReader$Pages" "items" "[I") (by decide +kernel)
  have f_25 := hts (.fieldLink RX3 25 "PageReader$Pages" "count" "I") (by decide +kernel)
  have f_29 := hts (.fieldLink RX3 29 "PageReader$Pages" "itemCount" "I") (by decide +kernel)
  have hl := lv_entry ([.ref h]) (n := 1) (Nat.le_of_ble_eq_true rfl)
  rw [lg_entry_eq]
  generalize (lg_sl ([.ref h]) ++ List.replicate (1 - (lg_sl ([.ref h])).length) Slot.unset).toArray = ls at hl ⊢
  have hl : lv_has ls 1 [(0, .ref h)] := hl
  refine lv_aload_n hx hb dX3_init_0 rfl (lv_at hl 0 rfl) ?_
  refine W.objInit hx hb hown m_1 m_oi m_oc rfl (by rw [hml]; exact hl.1) rfl dX3_init_1 (Nat.le_of_ble_eq_true rfl) (Nat.le_of_ble_eq_true rfl) ?_
  refine W.eq (g2 := F0 m 4 ls []) rfl ?_
  refine lv_aload_n hx hb dX3_init_4 rfl (lv_at hl 0 rfl) ?_
  refine lv_bipush (v := nI 12) hx hb dX3_init_5 (by decide) ?_
  refine va_newa (atype := .int) (ty := .int) hx hb ac_int rfl hK hP hD hS hA (n := nI 12) (N' := 12) (a0 := (12, .inl (fun _ => 0))) (na_i 12) (nI_pos (by omega)) (nI_clamp (by omega)) (na_b4 (by omega)) (show 0 + 1 ≤ 5 by omega) (show 0 + 12 ≤ 1448 by omega) dX3_init_7 (fun q1 cA1 H hK1 hP hD hS => ?_)
  have e1 : ci = cA1 := (cA_eq (tys2 := []) 0 hK hK1 rfl rfl rfl).symm
  subst e1
  clear hK1
  have hP : va_P G vwCl [(h, .inr (2, [.null, .null, .null, .null, .null, .int (nI 0), .int (nI 0)])), aI ci q1 12 (fun _ => 0)] H := hP
  have hD : va_D A [(h, .inr (2, [.null, .null, .null, .null, .null, .int (nI 0), .int (nI 0)])), aI ci q1 12 (fun _ => 0)] := hD
  refine W.widen (k := 1) (n := 12) (by omega) (by omega) ?_
  refine va_putF (D := G) (ci := 2) (v := .ref q1) (ty := (.array .int)) (C := RX3) (T := TX3) (N := 7) hx hb hts hi_X3 tyX3 tyX3_ok nmX3 hown hK hP hD hS 0 rfl rfl 0 (by decide) f_9 (fun _ h9 => h9) rfl hin rfl (by decide +kernel) rfl rfl (Nat.le_of_ble_eq_true rfl) dX3_init_9 (fun H locs hP hD hS => ?_)
  have hP : va_P G vwCl [(h, .inr (2, [.ref q1, .null, .null, .null, .null, .int (nI 0), .int (nI 0)])), aI ci q1 12 (fun _ => 0)] H := hP
  have hD : va_D A [(h, .inr (2, [.ref q1, .null, .null, .null, .null, .int (nI 0), .int (nI 0)])), aI ci q1 12 (fun _ => 0)] := hD
  refine lv_aload_n hx hb dX3_init_12 rfl (lv_at hl 0 rfl) ?_
  refine lv_bipush (v := nI 12) hx hb dX3_init_13 (by decide) ?_
  refine va_newa (atype := .int) (ty := .int) hx hb ac_int rfl hK hP hD hS hA (n := nI 12) (N' := 12) (a0 := (12, .inl (fun _ => 0))) (na_i 12) (nI_pos (by omega)) (nI_clamp (by omega)) (na_b4 (by omega)) (show 1 + 1 ≤ 5 by omega) (show 12 + 12 ≤ 1448 by omega) dX3_init_15 (fun q2 cA2 H hK2 hP hD hS => ?_)
  have e2 : ci = cA2 := (cA_eq (tys2 := []) 0 hK hK2 rfl rfl rfl).symm
  subst e2
  clear hK2
  have hP : va_P G vwCl [(h, .inr (2, [.ref q1, .null, .null, .null, .null, .int (nI 0), .int (nI 0)])), aI ci q1 12 (fun _ => 0), aI ci q2 12 (fun _ => 0)] H := hP
  have hD : va_D A [(h, .inr (2, [.ref q1, .null, .null, .null, .null, .int (nI 0), .int (nI 0)])), aI ci q1 12 (fun _ => 0), aI ci q2 12 (fun _ => 0)] := hD
  refine W.widen (k := 2) (n := 24) (by omega) (by omega) ?_
  refine va_putF (D := G) (ci := 2) (v := .ref q2) (ty := (.array .int)) (C := RX3) (T := TX3) (N := 7) hx hb hts hi_X3 tyX3 tyX3_ok nmX3 hown hK hP hD hS 0 rfl rfl 1 (by decide) f_13 (fun _ h9 => h9) rfl hin rfl (by decide +kernel) rfl rfl (Nat.le_of_ble_eq_true rfl) dX3_init_17 (fun H locs hP hD hS => ?_)
  have hP : va_P G vwCl [(h, .inr (2, [.ref q1, .ref q2, .null, .null, .null, .int (nI 0), .int (nI 0)])), aI ci q1 12 (fun _ => 0), aI ci q2 12 (fun _ => 0)] H := hP
  have hD : va_D A [(h, .inr (2, [.ref q1, .ref q2, .null, .null, .null, .int (nI 0), .int (nI 0)])), aI ci q1 12 (fun _ => 0), aI ci q2 12 (fun _ => 0)] := hD
  refine lv_aload_n hx hb dX3_init_20 rfl (lv_at hl 0 rfl) ?_
  refine lv_bipush (v := nI 12) hx hb dX3_init_21 (by decide) ?_
  refine va_newa (atype := .int) (ty := .int) hx hb ac_int rfl hK hP hD hS hA (n := nI 12) (N' := 12) (a0 := (12, .inl (fun _ => 0))) (na_i 12) (nI_pos (by omega)) (nI_clamp (by omega)) (na_b4 (by omega)) (show 2 + 1 ≤ 5 by omega) (show 24 + 12 ≤ 1448 by omega) dX3_init_23 (fun q3 cA3 H hK3 hP hD hS => ?_)
  have e3 : ci = cA3 := (cA_eq (tys2 := []) 0 hK hK3 rfl rfl rfl).symm
  subst e3
  clear hK3
  have hP : va_P G vwCl [(h, .inr (2, [.ref q1, .ref q2, .null, .null, .null, .int (nI 0), .int (nI 0)])), aI ci q1 12 (fun _ => 0), aI ci q2 12 (fun _ => 0), aI ci q3 12 (fun _ => 0)] H := hP
  have hD : va_D A [(h, .inr (2, [.ref q1, .ref q2, .null, .null, .null, .int (nI 0), .int (nI 0)])), aI ci q1 12 (fun _ => 0), aI ci q2 12 (fun _ => 0), aI ci q3 12 (fun _ => 0)] := hD
  refine W.widen (k := 3) (n := 36) (by omega) (by omega) ?_
  refine va_putF (D := G) (ci := 2) (v := .ref q3) (ty := (.array .int)) (C := RX3) (T := TX3) (N := 7) hx hb hts hi_X3 tyX3 tyX3_ok nmX3 hown hK hP hD hS 0 rfl rfl 2 (by decide) f_16 (fun _ h9 => h9) rfl hin rfl (by decide +kernel) rfl rfl (Nat.le_of_ble_eq_true rfl) dX3_init_25 (fun H locs hP hD hS => ?_)
  have hP : va_P G vwCl [(h, .inr (2, [.ref q1, .ref q2, .ref q3, .null, .null, .int (nI 0), .int (nI 0)])), aI ci q1 12 (fun _ => 0), aI ci q2 12 (fun _ => 0), aI ci q3 12 (fun _ => 0)] H := hP
  have hD : va_D A [(h, .inr (2, [.ref q1, .ref q2, .ref q3, .null, .null, .int (nI 0), .int (nI 0)])), aI ci q1 12 (fun _ => 0), aI ci q2 12 (fun _ => 0), aI ci q3 12 (fun _ => 0)] := hD
  refine lv_aload_n hx hb dX3_init_28 rfl (lv_at hl 0 rfl) ?_
  refine lv_bipush (v := nI 12) hx hb dX3_init_29 (by decide) ?_
  refine va_newa (atype := .int) (ty := .int) hx hb ac_int rfl hK hP hD hS hA (n := nI 12) (N' := 12) (a0 := (12, .inl (fun _ => 0))) (na_i 12) (nI_pos (by omega)) (nI_clamp (by omega)) (na_b4 (by omega)) (show 3 + 1 ≤ 5 by omega) (show 36 + 12 ≤ 1448 by omega) dX3_init_31 (fun q4 cA4 H hK4 hP hD hS => ?_)
  have e4 : ci = cA4 := (cA_eq (tys2 := []) 0 hK hK4 rfl rfl rfl).symm
  subst e4
  clear hK4
  have hP : va_P G vwCl [(h, .inr (2, [.ref q1, .ref q2, .ref q3, .null, .null, .int (nI 0), .int (nI 0)])), aI ci q1 12 (fun _ => 0), aI ci q2 12 (fun _ => 0), aI ci q3 12 (fun _ => 0), aI ci q4 12 (fun _ => 0)] H := hP
  have hD : va_D A [(h, .inr (2, [.ref q1, .ref q2, .ref q3, .null, .null, .int (nI 0), .int (nI 0)])), aI ci q1 12 (fun _ => 0), aI ci q2 12 (fun _ => 0), aI ci q3 12 (fun _ => 0), aI ci q4 12 (fun _ => 0)] := hD
  refine W.widen (k := 4) (n := 48) (by omega) (by omega) ?_
  refine va_putF (D := G) (ci := 2) (v := .ref q4) (ty := (.array .int)) (C := RX3) (T := TX3) (N := 7) hx hb hts hi_X3 tyX3 tyX3_ok nmX3 hown hK hP hD hS 0 rfl rfl 3 (by decide) f_19 (fun _ h9 => h9) rfl hin rfl (by decide +kernel) rfl rfl (Nat.le_of_ble_eq_true rfl) dX3_init_33 (fun H locs hP hD hS => ?_)
  have hP : va_P G vwCl [(h, .inr (2, [.ref q1, .ref q2, .ref q3, .ref q4, .null, .int (nI 0), .int (nI 0)])), aI ci q1 12 (fun _ => 0), aI ci q2 12 (fun _ => 0), aI ci q3 12 (fun _ => 0), aI ci q4 12 (fun _ => 0)] H := hP
  have hD : va_D A [(h, .inr (2, [.ref q1, .ref q2, .ref q3, .ref q4, .null, .int (nI 0), .int (nI 0)])), aI ci q1 12 (fun _ => 0), aI ci q2 12 (fun _ => 0), aI ci q3 12 (fun _ => 0), aI ci q4 12 (fun _ => 0)] := hD
  refine lv_aload_n hx hb dX3_init_36 rfl (lv_at hl 0 rfl) ?_
  refine lv_sipush (v := nI 1400) hx hb dX3_init_37 (by decide) ?_
  refine va_newa (atype := .int) (ty := .int) hx hb ac_int rfl hK hP hD hS hA (n := nI 1400) (N' := 1400) (a0 := (1400, .inl (fun _ => 0))) (na_i 1400) (nI_pos (by omega)) (nI_clamp (by omega)) (na_b4 (by omega)) (show 4 + 1 ≤ 5 by omega) (show 48 + 1400 ≤ 1448 by omega) dX3_init_40 (fun q5 cA5 H hK5 hP hD hS => ?_)
  have e5 : ci = cA5 := (cA_eq (tys2 := []) 0 hK hK5 rfl rfl rfl).symm
  subst e5
  clear hK5
  have hP : va_P G vwCl [(h, .inr (2, [.ref q1, .ref q2, .ref q3, .ref q4, .null, .int (nI 0), .int (nI 0)])), aI ci q1 12 (fun _ => 0), aI ci q2 12 (fun _ => 0), aI ci q3 12 (fun _ => 0), aI ci q4 12 (fun _ => 0), aI ci q5 1400 (fun _ => 0)] H := hP
  have hD : va_D A [(h, .inr (2, [.ref q1, .ref q2, .ref q3, .ref q4, .null, .int (nI 0), .int (nI 0)])), aI ci q1 12 (fun _ => 0), aI ci q2 12 (fun _ => 0), aI ci q3 12 (fun _ => 0), aI ci q4 12 (fun _ => 0), aI ci q5 1400 (fun _ => 0)] := hD
  refine W.widen (k := 5) (n := 1448) (by omega) (by omega) ?_
  refine va_putF (D := G) (ci := 2) (v := .ref q5) (ty := (.array .int)) (C := RX3) (T := TX3) (N := 7) hx hb hts hi_X3 tyX3 tyX3_ok nmX3 hown hK hP hD hS 0 rfl rfl 4 (by decide) f_22 (fun _ h9 => h9) rfl hin rfl (by decide +kernel) rfl rfl (Nat.le_of_ble_eq_true rfl) dX3_init_42 (fun H locs hP hD hS => ?_)
  have hP : va_P G vwCl [(h, .inr (2, [.ref q1, .ref q2, .ref q3, .ref q4, .ref q5, .int (nI 0), .int (nI 0)])), aI ci q1 12 (fun _ => 0), aI ci q2 12 (fun _ => 0), aI ci q3 12 (fun _ => 0), aI ci q4 12 (fun _ => 0), aI ci q5 1400 (fun _ => 0)] H := hP
  have hD : va_D A [(h, .inr (2, [.ref q1, .ref q2, .ref q3, .ref q4, .ref q5, .int (nI 0), .int (nI 0)])), aI ci q1 12 (fun _ => 0), aI ci q2 12 (fun _ => 0), aI ci q3 12 (fun _ => 0), aI ci q4 12 (fun _ => 0), aI ci q5 1400 (fun _ => 0)] := hD
  refine lv_aload_n hx hb dX3_init_45 rfl (lv_at hl 0 rfl) ?_
  refine lv_iconst (v := nI 0) hx hb dX3_init_46 (by decide) ?_
  refine va_put (D := G) (ci := 2) (v := .int (nI 0)) (ty := .int) (C := RX3) (T := TX3) (N := 7) hx hb hts hi_X3 tyX3 tyX3_ok nmX3 hown hK hP hD hS 0 rfl rfl 5 (by decide) f_25 (fun _ h9 => h9) rfl (by decide +kernel) rfl rfl (Nat.le_of_ble_eq_true rfl) dX3_init_47 (fun H locs hP hD hS => ?_)
  have hP : va_P G vwCl [(h, .inr (2, [.ref q1, .ref q2, .ref q3, .ref q4, .ref q5, .int (nI 0), .int (nI 0)])), aI ci q1 12 (fun _ => 0), aI ci q2 12 (fun _ => 0), aI ci q3 12 (fun _ => 0), aI ci q4 12 (fun _ => 0), aI ci q5 1400 (fun _ => 0)] H := hP
  have hD : va_D A [(h, .inr (2, [.ref q1, .ref q2, .ref q3, .ref q4, .ref q5, .int (nI 0), .int (nI 0)])), aI ci q1 12 (fun _ => 0), aI ci q2 12 (fun _ => 0), aI ci q3 12 (fun _ => 0), aI ci q4 12 (fun _ => 0), aI ci q5 1400 (fun _ => 0)] := hD
  refine lv_aload_n hx hb dX3_init_50 rfl (lv_at hl 0 rfl) ?_
  refine lv_iconst (v := nI 0) hx hb dX3_init_51 (by decide) ?_
  refine va_put (D := G) (ci := 2) (v := .int (nI 0)) (ty := .int) (C := RX3) (T := TX3) (N := 7) hx hb hts hi_X3 tyX3 tyX3_ok nmX3 hown hK hP hD hS 0 rfl rfl 6 (by decide) f_29 (fun _ h9 => h9) rfl (by decide +kernel) rfl rfl (Nat.le_of_ble_eq_true rfl) dX3_init_52 (fun H locs hP hD hS => ?_)
  have hP : va_P G vwCl [(h, .inr (2, [.ref q1, .ref q2, .ref q3, .ref q4, .ref q5, .int (nI 0), .int (nI 0)])), aI ci q1 12 (fun _ => 0), aI ci q2 12 (fun _ => 0), aI ci q3 12 (fun _ => 0), aI ci q4 12 (fun _ => 0), aI ci q5 1400 (fun _ => 0)] H := hP
  have hD : va_D A [(h, .inr (2, [.ref q1, .ref q2, .ref q3, .ref q4, .ref q5, .int (nI 0), .int (nI 0)])), aI ci q1 12 (fun _ => 0), aI ci q2 12 (fun _ => 0), aI ci q3 12 (fun _ => 0), aI ci q4 12 (fun _ => 0), aI ci q5 1400 (fun _ => 0)] := hD
  exact rV hx hb hr hlocks hK hP hD hS [0, 1, 2, 3, 4, 5] (q1, q2, q3, q4, q5) rfl (by decide) trivial dX3_init_55
set_option maxHeartbeats 4000000 in
set_option maxRecDepth 100000 in
theorem c_X1_init (l : Launch) (G : va_G) (ci cz cl : ClassId) (q : Nat → Nat) (sz : Nat) (h : Nat) : CtV l yX1_init wsX1_init ({ frames := 1, cells := 3, slots := 24, locals := 16 }) G (TY ci cz cl) O0 [.ref h] [(h, .inr (1, [.null, .null, .null]))] sz (fun (u : Nat × Nat × Nat) => True) (fun u : Nat × Nat × Nat => [(h, .inr (1, [.ref u.1, .ref u.2.1, .ref u.2.2])), aI ci u.1 8 (fun _ => 0), aI ci u.2.1 8 (fun _ => 0), aI ci u.2.2 8 (fun _ => 0)]) 3 24 := by
  refine Met.ofW (cc := cX1_init) (maxL := 1) (ret := none) (by decide) rfl ?_
  intro p e s m args below meth c s₁ B hml hv
  obtain ⟨rfl, ⟨hsz, hP, hK, hD0⟩, hO⟩ := hv
  have hx := B.exec
  have hb := B.bytes
  have hr := B.returns
  have hts := atoms_spec (ws := wsX1_init) B.pre
  have hown : s.vm.findClass RX1 = some m.cls := findClass_of_methodNamed B.named
  have hlocks := B.notSynchronized
  have hin : meth.name = "<init>" := (name_of_methodNamed B.named B.method).1
  subst hsz
  have hD := hD0.self (sz := s.heap.size)
  generalize hAe : va_A [(h, .inr (1, [.null, .null, .null]))] s.heap.size = A at hD hO ⊢
  have hA : ∀ q : Nat, s.heap.size ≤ q → A q := fun q h => by rw [← hAe]; exact Or.inr h
  have ok := ok0
  refine startH (A := A) (fun H locs hP hS => ?_) hP
  have m_1 := hts (.methodLink RX1 1 objectInit) (by decide +kernel)
  have m_oi := hts (.instanceMethod objectInit) (by decide +kernel)
  have m_oc := hts (.code objectInit ⟨#[0xb1]⟩ 1 none) (List.mem_cons_of_mem _ (List.mem_append_left _ (List.mem_of_getElem? (i := 2) rfl)))
  have ac_int := hts (.arrayClass .int) (by decide +kernel)
  have hi_X1 := (by decide +kernel : ∀ w ∈ wsX10, w ∈ wsX1_init)
  have f_9 := hts (.fieldLink RX1 9 "PageReader$Fonts" "states" "[I") (by decide +kernel)
  have f_13 := hts (.fieldLink RX1 13 "PageReader$Fonts" "marks" "[I") (by decide +kernel)
  have f_16 := hts (.fieldLink RX1 16 "PageReader$Fonts" "scales" "[I") (by decide +kernel)
  have hl := lv_entry ([.ref h]) (n := 1) (Nat.le_of_ble_eq_true rfl)
  rw [lg_entry_eq]
  generalize (lg_sl ([.ref h]) ++ List.replicate (1 - (lg_sl ([.ref h])).length) Slot.unset).toArray = ls at hl ⊢
  have hl : lv_has ls 1 [(0, .ref h)] := hl
  refine lv_aload_n hx hb dX1_init_0 rfl (lv_at hl 0 rfl) ?_
  refine W.objInit hx hb hown m_1 m_oi m_oc rfl (by rw [hml]; exact hl.1) rfl dX1_init_1 (Nat.le_of_ble_eq_true rfl) (Nat.le_of_ble_eq_true rfl) ?_
  refine W.eq (g2 := F0 m 4 ls []) rfl ?_
  refine lv_aload_n hx hb dX1_init_4 rfl (lv_at hl 0 rfl) ?_
  refine lv_bipush (v := nI 8) hx hb dX1_init_5 (by decide) ?_
  refine va_newa (atype := .int) (ty := .int) hx hb ac_int rfl hK hP hD hS hA (n := nI 8) (N' := 8) (a0 := (8, .inl (fun _ => 0))) (na_i 8) (nI_pos (by omega)) (nI_clamp (by omega)) (na_b4 (by omega)) (show 0 + 1 ≤ 3 by omega) (show 0 + 8 ≤ 24 by omega) dX1_init_7 (fun q1 cA1 H hK1 hP hD hS => ?_)
  have e1 : ci = cA1 := (cA_eq (tys2 := []) 0 hK hK1 rfl rfl rfl).symm
  subst e1
  clear hK1
  have hP : va_P G vwCl [(h, .inr (1, [.null, .null, .null])), aI ci q1 8 (fun _ => 0)] H := hP
  have hD : va_D A [(h, .inr (1, [.null, .null, .null])), aI ci q1 8 (fun _ => 0)] := hD
  refine W.widen (k := 1) (n := 8) (by omega) (by omega) ?_
  refine va_putF (D := G) (ci := 1) (v := .ref q1) (ty := (.array .int)) (C := RX1) (T := TX1) (N := 3) hx hb hts hi_X1 tyX1 tyX1_ok nmX1 hown hK hP hD hS 0 rfl rfl 0 (by decide) f_9 (fun _ h9 => h9) rfl hin rfl (by decide +kernel) rfl rfl (Nat.le_of_ble_eq_true rfl) dX1_init_9 (fun H locs hP hD hS => ?_)
  have hP : va_P G vwCl [(h, .inr (1, [.ref q1, .null, .null])), aI ci q1 8 (fun _ => 0)] H := hP
  have hD : va_D A [(h, .inr (1, [.ref q1, .null, .null])), aI ci q1 8 (fun _ => 0)] := hD
  refine lv_aload_n hx hb dX1_init_12 rfl (lv_at hl 0 rfl) ?_
  refine lv_bipush (v := nI 8) hx hb dX1_init_13 (by decide) ?_
  refine va_newa (atype := .int) (ty := .int) hx hb ac_int rfl hK hP hD hS hA (n := nI 8) (N' := 8) (a0 := (8, .inl (fun _ => 0))) (na_i 8) (nI_pos (by omega)) (nI_clamp (by omega)) (na_b4 (by omega)) (show 1 + 1 ≤ 3 by omega) (show 8 + 8 ≤ 24 by omega) dX1_init_15 (fun q2 cA2 H hK2 hP hD hS => ?_)
  have e2 : ci = cA2 := (cA_eq (tys2 := []) 0 hK hK2 rfl rfl rfl).symm
  subst e2
  clear hK2
  have hP : va_P G vwCl [(h, .inr (1, [.ref q1, .null, .null])), aI ci q1 8 (fun _ => 0), aI ci q2 8 (fun _ => 0)] H := hP
  have hD : va_D A [(h, .inr (1, [.ref q1, .null, .null])), aI ci q1 8 (fun _ => 0), aI ci q2 8 (fun _ => 0)] := hD
  refine W.widen (k := 2) (n := 16) (by omega) (by omega) ?_
  refine va_putF (D := G) (ci := 1) (v := .ref q2) (ty := (.array .int)) (C := RX1) (T := TX1) (N := 3) hx hb hts hi_X1 tyX1 tyX1_ok nmX1 hown hK hP hD hS 0 rfl rfl 1 (by decide) f_13 (fun _ h9 => h9) rfl hin rfl (by decide +kernel) rfl rfl (Nat.le_of_ble_eq_true rfl) dX1_init_17 (fun H locs hP hD hS => ?_)
  have hP : va_P G vwCl [(h, .inr (1, [.ref q1, .ref q2, .null])), aI ci q1 8 (fun _ => 0), aI ci q2 8 (fun _ => 0)] H := hP
  have hD : va_D A [(h, .inr (1, [.ref q1, .ref q2, .null])), aI ci q1 8 (fun _ => 0), aI ci q2 8 (fun _ => 0)] := hD
  refine lv_aload_n hx hb dX1_init_20 rfl (lv_at hl 0 rfl) ?_
  refine lv_bipush (v := nI 8) hx hb dX1_init_21 (by decide) ?_
  refine va_newa (atype := .int) (ty := .int) hx hb ac_int rfl hK hP hD hS hA (n := nI 8) (N' := 8) (a0 := (8, .inl (fun _ => 0))) (na_i 8) (nI_pos (by omega)) (nI_clamp (by omega)) (na_b4 (by omega)) (show 2 + 1 ≤ 3 by omega) (show 16 + 8 ≤ 24 by omega) dX1_init_23 (fun q3 cA3 H hK3 hP hD hS => ?_)
  have e3 : ci = cA3 := (cA_eq (tys2 := []) 0 hK hK3 rfl rfl rfl).symm
  subst e3
  clear hK3
  have hP : va_P G vwCl [(h, .inr (1, [.ref q1, .ref q2, .null])), aI ci q1 8 (fun _ => 0), aI ci q2 8 (fun _ => 0), aI ci q3 8 (fun _ => 0)] H := hP
  have hD : va_D A [(h, .inr (1, [.ref q1, .ref q2, .null])), aI ci q1 8 (fun _ => 0), aI ci q2 8 (fun _ => 0), aI ci q3 8 (fun _ => 0)] := hD
  refine W.widen (k := 3) (n := 24) (by omega) (by omega) ?_
  refine va_putF (D := G) (ci := 1) (v := .ref q3) (ty := (.array .int)) (C := RX1) (T := TX1) (N := 3) hx hb hts hi_X1 tyX1 tyX1_ok nmX1 hown hK hP hD hS 0 rfl rfl 2 (by decide) f_16 (fun _ h9 => h9) rfl hin rfl (by decide +kernel) rfl rfl (Nat.le_of_ble_eq_true rfl) dX1_init_25 (fun H locs hP hD hS => ?_)
  have hP : va_P G vwCl [(h, .inr (1, [.ref q1, .ref q2, .ref q3])), aI ci q1 8 (fun _ => 0), aI ci q2 8 (fun _ => 0), aI ci q3 8 (fun _ => 0)] H := hP
  have hD : va_D A [(h, .inr (1, [.ref q1, .ref q2, .ref q3])), aI ci q1 8 (fun _ => 0), aI ci q2 8 (fun _ => 0), aI ci q3 8 (fun _ => 0)] := hD
  exact rV hx hb hr hlocks hK hP hD hS [0, 1, 2, 3] (q1, q2, q3) rfl (by decide) trivial dX1_init_28
set_option maxHeartbeats 4000000 in
set_option maxRecDepth 100000 in
theorem c_X5_init (l : Launch) (G : va_G) (ci cz cl : ClassId) (q : Nat → Nat) (sz : Nat) (h : Nat) (p5 : Nat) : CtV l yX5_init wsX5_init ({ frames := 1, cells := 2, slots := 168, locals := 16 }) G (TY ci cz cl) O0 [.ref h, .ref p5] [(h, .inr (4, [.null, .null, .null, .int (nI 0), .int (nI 0), .int (nI 0), .int (nI 0)]))] sz (fun (u : Nat × Nat) => True) (fun u : Nat × Nat => [(h, .inr (4, [.ref p5, .ref u.1, .ref u.2, .int (nI 0), .int (nI 0), .int (-1), .int (nI 0)])), aI ci u.1 8 (fun _ => 0), aI ci u.2 160 (fun _ => 0)]) 2 168 := by
  refine Met.ofW (cc := cX5_init) (maxL := 2) (ret := none) (by decide) rfl ?_
  intro p e s m args below meth c s₁ B hml hv
  obtain ⟨rfl, ⟨hsz, hP, hK, hD0⟩, hO⟩ := hv
  have hx := B.exec
  have hb := B.bytes
  have hr := B.returns
  have hts := atoms_spec (ws := wsX5_init) B.pre
  have hown : s.vm.findClass RX5 = some m.cls := findClass_of_methodNamed B.named
  have hlocks := B.notSynchronized
  have hin : meth.name = "<init>" := (name_of_methodNamed B.named B.method).1
  subst hsz
  have hD := hD0.self (sz := s.heap.size)
  generalize hAe : va_A [(h, .inr (4, [.null, .null, .null, .int (nI 0), .int (nI 0), .int (nI 0), .int (nI 0)]))] s.heap.size = A at hD hO ⊢
  have hA : ∀ q : Nat, s.heap.size ≤ q → A q := fun q h => by rw [← hAe]; exact Or.inr h
  have ok := ok0
  refine startH (A := A) (fun H locs hP hS => ?_) hP
  have m_1 := hts (.methodLink RX5 1 objectInit) (by decide +kernel)
  have m_oi := hts (.instanceMethod objectInit) (by decide +kernel)
  have m_oc := hts (.code objectInit ⟨#[0xb1]⟩ 1 none) (List.mem_cons_of_mem _ (List.mem_append_left _ (List.mem_of_getElem? (i := 2) rfl)))
  have hi_X5 := (by decide +kernel : ∀ w ∈ wsX50, w ∈ wsX5_init)
  have f_7 := hts (.fieldLink RX5 7 "PageReader$Place" "pixels" "LPageReader$Pixels;") (by decide +kernel)
  have ac_int := hts (.arrayClass .int) (by decide +kernel)
  have f_13 := hts (.fieldLink RX5 13 "PageReader$Place" "now" "[I") (by decide +kernel)
  have f_17 := hts (.fieldLink RX5 17 "PageReader$Place" "kept" "[I") (by decide +kernel)
  have f_20 := hts (.fieldLink RX5 20 "PageReader$Place" "keptCount" "I") (by decide +kernel)
  have f_24 := hts (.fieldLink RX5 24 "PageReader$Place" "depth" "I") (by decide +kernel)
  have f_27 := hts (.fieldLink RX5 27 "PageReader$Place" "font" "I") (by decide +kernel)
  have f_30 := hts (.fieldLink RX5 30 "PageReader$Place" "scale" "I") (by decide +kernel)
  have hl := lv_entry ([.ref h, .ref p5]) (n := 2) (Nat.le_of_ble_eq_true rfl)
  rw [lg_entry_eq]
  generalize (lg_sl ([.ref h, .ref p5]) ++ List.replicate (2 - (lg_sl ([.ref h, .ref p5])).length) Slot.unset).toArray = ls at hl ⊢
  have hl : lv_has ls 2 [(0, .ref h), (1, .ref p5)] := hl
  refine lv_aload_n hx hb dX5_init_0 rfl (lv_at hl 0 rfl) ?_
  refine W.objInit hx hb hown m_1 m_oi m_oc rfl (by rw [hml]; exact hl.1) rfl dX5_init_1 (Nat.le_of_ble_eq_true rfl) (Nat.le_of_ble_eq_true rfl) ?_
  refine W.eq (g2 := F0 m 4 ls []) rfl ?_
  refine lv_aload_n hx hb dX5_init_4 rfl (lv_at hl 0 rfl) ?_
  refine lv_aload_n hx hb dX5_init_5 rfl (lv_at hl 1 rfl) ?_
  refine va_putF (D := G) (ci := 4) (v := .ref p5) (ty := (.object "PageReader$Pixels")) (C := RX5) (T := TX5) (N := 7) hx hb hts hi_X5 tyX5 tyX5_ok nmX5 hown hK hP hD hS 0 rfl rfl 0 (by decide) f_7 (fun _ h9 => h9) rfl hin rfl (by decide +kernel) rfl rfl (Nat.le_of_ble_eq_true rfl) dX5_init_6 (fun H locs hP hD hS => ?_)
  have hP : va_P G vwCl [(h, .inr (4, [.ref p5, .null, .null, .int (nI 0), .int (nI 0), .int (nI 0), .int (nI 0)]))] H := hP
  have hD : va_D A [(h, .inr (4, [.ref p5, .null, .null, .int (nI 0), .int (nI 0), .int (nI 0), .int (nI 0)]))] := hD
  refine lv_aload_n hx hb dX5_init_9 rfl (lv_at hl 0 rfl) ?_
  refine lv_bipush (v := nI 8) hx hb dX5_init_10 (by decide) ?_
  refine va_newa (atype := .int) (ty := .int) hx hb ac_int rfl hK hP hD hS hA (n := nI 8) (N' := 8) (a0 := (8, .inl (fun _ => 0))) (na_i 8) (nI_pos (by omega)) (nI_clamp (by omega)) (na_b4 (by omega)) (show 0 + 1 ≤ 2 by omega) (show 0 + 8 ≤ 168 by omega) dX5_init_12 (fun q1 cA1 H hK1 hP hD hS => ?_)
  have e1 : ci = cA1 := (cA_eq (tys2 := []) 0 hK hK1 rfl rfl rfl).symm
  subst e1
  clear hK1
  have hP : va_P G vwCl [(h, .inr (4, [.ref p5, .null, .null, .int (nI 0), .int (nI 0), .int (nI 0), .int (nI 0)])), aI ci q1 8 (fun _ => 0)] H := hP
  have hD : va_D A [(h, .inr (4, [.ref p5, .null, .null, .int (nI 0), .int (nI 0), .int (nI 0), .int (nI 0)])), aI ci q1 8 (fun _ => 0)] := hD
  refine W.widen (k := 1) (n := 8) (by omega) (by omega) ?_
  refine va_putF (D := G) (ci := 4) (v := .ref q1) (ty := (.array .int)) (C := RX5) (T := TX5) (N := 7) hx hb hts hi_X5 tyX5 tyX5_ok nmX5 hown hK hP hD hS 0 rfl rfl 1 (by decide) f_13 (fun _ h9 => h9) rfl hin rfl (by decide +kernel) rfl rfl (Nat.le_of_ble_eq_true rfl) dX5_init_14 (fun H locs hP hD hS => ?_)
  have hP : va_P G vwCl [(h, .inr (4, [.ref p5, .ref q1, .null, .int (nI 0), .int (nI 0), .int (nI 0), .int (nI 0)])), aI ci q1 8 (fun _ => 0)] H := hP
  have hD : va_D A [(h, .inr (4, [.ref p5, .ref q1, .null, .int (nI 0), .int (nI 0), .int (nI 0), .int (nI 0)])), aI ci q1 8 (fun _ => 0)] := hD
  refine lv_aload_n hx hb dX5_init_17 rfl (lv_at hl 0 rfl) ?_
  refine lv_sipush (v := nI 160) hx hb dX5_init_18 (by decide) ?_
  refine va_newa (atype := .int) (ty := .int) hx hb ac_int rfl hK hP hD hS hA (n := nI 160) (N' := 160) (a0 := (160, .inl (fun _ => 0))) (na_i 160) (nI_pos (by omega)) (nI_clamp (by omega)) (na_b4 (by omega)) (show 1 + 1 ≤ 2 by omega) (show 8 + 160 ≤ 168 by omega) dX5_init_21 (fun q2 cA2 H hK2 hP hD hS => ?_)
  have e2 : ci = cA2 := (cA_eq (tys2 := []) 0 hK hK2 rfl rfl rfl).symm
  subst e2
  clear hK2
  have hP : va_P G vwCl [(h, .inr (4, [.ref p5, .ref q1, .null, .int (nI 0), .int (nI 0), .int (nI 0), .int (nI 0)])), aI ci q1 8 (fun _ => 0), aI ci q2 160 (fun _ => 0)] H := hP
  have hD : va_D A [(h, .inr (4, [.ref p5, .ref q1, .null, .int (nI 0), .int (nI 0), .int (nI 0), .int (nI 0)])), aI ci q1 8 (fun _ => 0), aI ci q2 160 (fun _ => 0)] := hD
  refine W.widen (k := 2) (n := 168) (by omega) (by omega) ?_
  refine va_putF (D := G) (ci := 4) (v := .ref q2) (ty := (.array .int)) (C := RX5) (T := TX5) (N := 7) hx hb hts hi_X5 tyX5 tyX5_ok nmX5 hown hK hP hD hS 0 rfl rfl 2 (by decide) f_17 (fun _ h9 => h9) rfl hin rfl (by decide +kernel) rfl rfl (Nat.le_of_ble_eq_true rfl) dX5_init_23 (fun H locs hP hD hS => ?_)
  have hP : va_P G vwCl [(h, .inr (4, [.ref p5, .ref q1, .ref q2, .int (nI 0), .int (nI 0), .int (nI 0), .int (nI 0)])), aI ci q1 8 (fun _ => 0), aI ci q2 160 (fun _ => 0)] H := hP
  have hD : va_D A [(h, .inr (4, [.ref p5, .ref q1, .ref q2, .int (nI 0), .int (nI 0), .int (nI 0), .int (nI 0)])), aI ci q1 8 (fun _ => 0), aI ci q2 160 (fun _ => 0)] := hD
  refine lv_aload_n hx hb dX5_init_26 rfl (lv_at hl 0 rfl) ?_
  refine lv_iconst (v := nI 0) hx hb dX5_init_27 (by decide) ?_
  refine va_put (D := G) (ci := 4) (v := .int (nI 0)) (ty := .int) (C := RX5) (T := TX5) (N := 7) hx hb hts hi_X5 tyX5 tyX5_ok nmX5 hown hK hP hD hS 0 rfl rfl 3 (by decide) f_20 (fun _ h9 => h9) rfl (by decide +kernel) rfl rfl (Nat.le_of_ble_eq_true rfl) dX5_init_28 (fun H locs hP hD hS => ?_)
  have hP : va_P G vwCl [(h, .inr (4, [.ref p5, .ref q1, .ref q2, .int (nI 0), .int (nI 0), .int (nI 0), .int (nI 0)])), aI ci q1 8 (fun _ => 0), aI ci q2 160 (fun _ => 0)] H := hP
  have hD : va_D A [(h, .inr (4, [.ref p5, .ref q1, .ref q2, .int (nI 0), .int (nI 0), .int (nI 0), .int (nI 0)])), aI ci q1 8 (fun _ => 0), aI ci q2 160 (fun _ => 0)] := hD
  refine lv_aload_n hx hb dX5_init_31 rfl (lv_at hl 0 rfl) ?_
  refine lv_iconst (v := nI 0) hx hb dX5_init_32 (by decide) ?_
  refine va_put (D := G) (ci := 4) (v := .int (nI 0)) (ty := .int) (C := RX5) (T := TX5) (N := 7) hx hb hts hi_X5 tyX5 tyX5_ok nmX5 hown hK hP hD hS 0 rfl rfl 4 (by decide) f_24 (fun _ h9 => h9) rfl (by decide +kernel) rfl rfl (Nat.le_of_ble_eq_true rfl) dX5_init_33 (fun H locs hP hD hS => ?_)
  have hP : va_P G vwCl [(h, .inr (4, [.ref p5, .ref q1, .ref q2, .int (nI 0), .int (nI 0), .int (nI 0), .int (nI 0)])), aI ci q1 8 (fun _ => 0), aI ci q2 160 (fun _ => 0)] H := hP
  have hD : va_D A [(h, .inr (4, [.ref p5, .ref q1, .ref q2, .int (nI 0), .int (nI 0), .int (nI 0), .int (nI 0)])), aI ci q1 8 (fun _ => 0), aI ci q2 160 (fun _ => 0)] := hD
  refine lv_aload_n hx hb dX5_init_36 rfl (lv_at hl 0 rfl) ?_
  refine lv_iconst (v := (-1)) hx hb dX5_init_37 (by decide) ?_
  refine va_put (D := G) (ci := 4) (v := .int (-1)) (ty := .int) (C := RX5) (T := TX5) (N := 7) hx hb hts hi_X5 tyX5 tyX5_ok nmX5 hown hK hP hD hS 0 rfl rfl 5 (by decide) f_27 (fun _ h9 => h9) rfl (by decide +kernel) rfl rfl (Nat.le_of_ble_eq_true rfl) dX5_init_38 (fun H locs hP hD hS => ?_)
  have hP : va_P G vwCl [(h, .inr (4, [.ref p5, .ref q1, .ref q2, .int (nI 0), .int (nI 0), .int (-1), .int (nI 0)])), aI ci q1 8 (fun _ => 0), aI ci q2 160 (fun _ => 0)] H := hP
  have hD : va_D A [(h, .inr (4, [.ref p5, .ref q1, .ref q2, .int (nI 0), .int (nI 0), .int (-1), .int (nI 0)])), aI ci q1 8 (fun _ => 0), aI ci q2 160 (fun _ => 0)] := hD
  refine lv_aload_n hx hb dX5_init_41 rfl (lv_at hl 0 rfl) ?_
  refine lv_iconst (v := nI 0) hx hb dX5_init_42 (by decide) ?_
  refine va_put (D := G) (ci := 4) (v := .int (nI 0)) (ty := .int) (C := RX5) (T := TX5) (N := 7) hx hb hts hi_X5 tyX5 tyX5_ok nmX5 hown hK hP hD hS 0 rfl rfl 6 (by decide) f_30 (fun _ h9 => h9) rfl (by decide +kernel) rfl rfl (Nat.le_of_ble_eq_true rfl) dX5_init_43 (fun H locs hP hD hS => ?_)
  have hP : va_P G vwCl [(h, .inr (4, [.ref p5, .ref q1, .ref q2, .int (nI 0), .int (nI 0), .int (-1), .int (nI 0)])), aI ci q1 8 (fun _ => 0), aI ci q2 160 (fun _ => 0)] H := hP
  have hD : va_D A [(h, .inr (4, [.ref p5, .ref q1, .ref q2, .int (nI 0), .int (nI 0), .int (-1), .int (nI 0)])), aI ci q1 8 (fun _ => 0), aI ci q2 160 (fun _ => 0)] := hD
  exact rV hx hb hr hlocks hK hP hD hS [0, 1, 2] (q1, q2) rfl (by decide) trivial dX5_init_46
