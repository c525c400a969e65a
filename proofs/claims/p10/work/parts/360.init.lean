set_option maxHeartbeats 4000000 in
set_option maxRecDepth 100000 in
theorem c_X0_init (l : Launch) (G : va_G) (ci cz cl : ClassId) (q : Nat → Nat) (sz : Nat) (h : Nat) : CtV l yX0_init wsX0_init ({ frames := 1, cells := 1, slots := 600, locals := 16 }) G (TY ci cz cl) O0 [.ref h] [(h, .inr (0, [.null, .int (nI 0)]))] sz (fun (u : Nat) => True) (fun u : Nat => [(h, .inr (0, [.ref u, .int (nI 0)])), aI ci u 600 (fun _ => 0)]) 1 600 := by
  refine Met.ofW (cc := cX0_init) (maxL := 1) (ret := none) (by decide) rfl ?_
  intro p e s m args below meth c s₁ B hml hv
  obtain ⟨rfl, ⟨hsz, hP, hK, hD0⟩, hO⟩ := hv
  have hx := B.exec
  have hb := B.bytes
  have hr := B.returns
  have hts := atoms_spec (ws := wsX0_init) B.pre
  have hown : s.vm.findClass RX0 = some m.cls := findClass_of_methodNamed B.named
  have hlocks := B.notSynchronized
  have hin : meth.name = "<init>" := (name_of_methodNamed B.named B.method).1
  subst hsz
  have hD := hD0.self (sz := s.heap.size)
  generalize hAe : va_A [(h, .inr (0, [.null, .int (nI 0)]))] s.heap.size = A at hD hO ⊢
  have hA : ∀ q : Nat, s.heap.size ≤ q → A q := fun q h => by rw [← hAe]; exact Or.inr h
  have ok := ok0
  refine startH (A := A) (fun H locs hP hS => ?_) hP
  have m_1 := hts (.methodLink RX0 1 objectInit) (by decide +kernel)
  have m_oi := hts (.instanceMethod objectInit) (by decide +kernel)
  have m_oc := hts (.code objectInit ⟨#[0xb1]⟩ 1 none) (List.mem_cons_of_mem _ (List.mem_append_left _ (List.mem_of_getElem? (i := 2) rfl)))
  have ac_int := hts (.arrayClass .int) (by decide +kernel)
  have hi_X0 := (by decide +kernel : ∀ w ∈ wsX00, w ∈ wsX0_init)
  have f_9 := hts (.fieldLink RX0 9 "PageReader$Bytes" "row" "[I") (by decide +kernel)
  have f_13 := hts (.fieldLink RX0 13 "PageReader$Bytes" "count" "I") (by decide +kernel)
  have hl := lv_entry ([.ref h]) (n := 1) (Nat.le_of_ble_eq_true rfl)
  rw [lg_entry_eq]
  generalize (lg_sl ([.ref h]) ++ List.replicate (1 - (lg_sl ([.ref h])).length) Slot.unset).toArray = ls at hl ⊢
  have hl : lv_has ls 1 [(0, .ref h)] := hl
  refine lv_aload_n hx hb dX0_init_0 rfl (lv_at hl 0 rfl) ?_
  refine W.objInit hx hb hown m_1 m_oi m_oc rfl (by rw [hml]; exact hl.1) rfl dX0_init_1 (Nat.le_of_ble_eq_true rfl) (Nat.le_of_ble_eq_true rfl) ?_
  refine W.eq (g2 := F0 m 4 ls []) rfl ?_
  refine lv_aload_n hx hb dX0_init_4 rfl (lv_at hl 0 rfl) ?_
  refine lv_sipush (v := nI 600) hx hb dX0_init_5 (by decide) ?_
  refine va_newa (atype := .int) (ty := .int) hx hb ac_int rfl hK hP hD hS hA (n := nI 600) (N' := 600) (a0 := (600, .inl (fun _ => 0))) (na_i 600) (nI_pos (by omega)) (nI_clamp (by omega)) (na_b4 (by omega)) (show 0 + 1 ≤ 1 by omega) (show 0 + 600 ≤ 600 by omega) dX0_init_8 (fun q1 cA1 H hK1 hP hD hS => ?_)
  have e1 : ci = cA1 := (cA_eq (tys2 := []) 0 hK hK1 rfl rfl rfl).symm
  subst e1
  clear hK1
  have hP : va_P G vwCl [(h, .inr (0, [.null, .int (nI 0)])), aI ci q1 600 (fun _ => 0)] H := hP
  have hD : va_D A [(h, .inr (0, [.null, .int (nI 0)])), aI ci q1 600 (fun _ => 0)] := hD
  refine W.widen (k := 1) (n := 600) (by omega) (by omega) ?_
  refine va_putF (D := G) (ci := 0) (v := .ref q1) (ty := (.array .int)) (C := RX0) (T := TX0) (N := 2) hx hb hts hi_X0 tyX0 tyX0_ok nmX0 hown hK hP hD hS 0 rfl rfl 0 (by decide) f_9 (fun _ h9 => h9) rfl hin rfl (by decide +kernel) rfl rfl (Nat.le_of_ble_eq_true rfl) dX0_init_10 (fun H locs hP hD hS => ?_)
  have hP : va_P G vwCl [(h, .inr (0, [.ref q1, .int (nI 0)])), aI ci q1 600 (fun _ => 0)] H := hP
  have hD : va_D A [(h, .inr (0, [.ref q1, .int (nI 0)])), aI ci q1 600 (fun _ => 0)] := hD
  refine lv_aload_n hx hb dX0_init_13 rfl (lv_at hl 0 rfl) ?_
  refine lv_iconst (v := nI 0) hx hb dX0_init_14 (by decide) ?_
  refine va_put (D := G) (ci := 0) (v := .int (nI 0)) (ty := .int) (C := RX0) (T := TX0) (N := 2) hx hb hts hi_X0 tyX0 tyX0_ok nmX0 hown hK hP hD hS 0 rfl rfl 1 (by decide) f_13 (fun _ h9 => h9) rfl (by decide +kernel) rfl rfl (Nat.le_of_ble_eq_true rfl) dX0_init_15 (fun H locs hP hD hS => ?_)
  have hP : va_P G vwCl [(h, .inr (0, [.ref q1, .int (nI 0)])), aI ci q1 600 (fun _ => 0)] H := hP
  have hD : va_D A [(h, .inr (0, [.ref q1, .int (nI 0)])), aI ci q1 600 (fun _ => 0)] := hD
  exact rV hx hb hr hlocks hK hP hD hS [0, 1] q1 rfl (by decide) trivial dX0_init_18
set_option maxHeartbeats 4000000 in
set_option maxRecDepth 100000 in
theorem c_X7_init (l : Launch) (G : va_G) (ci cz cl : ClassId) (q : Nat → Nat) (sz : Nat) (h : Nat) : CtV l yX7_init wsX7_init ({ frames := 1, cells := 1, slots := 1024, locals := 16 }) G (TY ci cz cl) O0 [.ref h] [(h, .inr (6, [.null]))] sz (fun (u : Nat) => True) (fun u : Nat => [(h, .inr (6, [.ref u])), aI ci u 1024 (fun _ => 0)]) 1 1024 := by
  refine Met.ofW (cc := cX7_init) (maxL := 1) (ret := none) (by decide) rfl ?_
  intro p e s m args below meth c s₁ B hml hv
  obtain ⟨rfl, ⟨hsz, hP, hK, hD0⟩, hO⟩ := hv
  have hx := B.exec
  have hb := B.bytes
  have hr := B.returns
  have hts := atoms_spec (ws := wsX7_init) B.pre
  have hown : s.vm.findClass RX7 = some m.cls := findClass_of_methodNamed B.named
  have hlocks := B.notSynchronized
  have hin : meth.name = "<init>" := (name_of_methodNamed B.named B.method).1
  subst hsz
  have hD := hD0.self (sz := s.heap.size)
  generalize hAe : va_A [(h, .inr (6, [.null]))] s.heap.size = A at hD hO ⊢
  have hA : ∀ q : Nat, s.heap.size ≤ q → A q := fun q h => by rw [← hAe]; exact Or.inr h
  have ok := ok0
  refine startH (A := A) (fun H locs hP hS => ?_) hP
  have m_1 := hts (.methodLink RX7 1 objectInit) (by decide +kernel)
  have m_oi := hts (.instanceMethod objectInit) (by decide +kernel)
  have m_oc := hts (.code objectInit ⟨#[0xb1]⟩ 1 none) (List.mem_cons_of_mem _ (List.mem_append_left _ (List.mem_of_getElem? (i := 2) rfl)))
  have ac_int := hts (.arrayClass .int) (by decide +kernel)
  have hi_X7 := (by decide +kernel : ∀ w ∈ wsX70, w ∈ wsX7_init)
  have f_11 := hts (.fieldLink RX7 11 "PageReader$Widths" "row" "[I") (by decide +kernel)
  have hl := lv_entry ([.ref h]) (n := 1) (Nat.le_of_ble_eq_true rfl)
  rw [lg_entry_eq]
  generalize (lg_sl ([.ref h]) ++ List.replicate (1 - (lg_sl ([.ref h])).length) Slot.unset).toArray = ls at hl ⊢
  have hl : lv_has ls 1 [(0, .ref h)] := hl
  refine lv_aload_n hx hb dX7_init_0 rfl (lv_at hl 0 rfl) ?_
  refine W.objInit hx hb hown m_1 m_oi m_oc rfl (by rw [hml]; exact hl.1) rfl dX7_init_1 (Nat.le_of_ble_eq_true rfl) (Nat.le_of_ble_eq_true rfl) ?_
  refine W.eq (g2 := F0 m 4 ls []) rfl ?_
  refine lv_aload_n hx hb dX7_init_4 rfl (lv_at hl 0 rfl) ?_
  refine lv_sipush (v := nI 1024) hx hb dX7_init_5 (by decide) ?_
  refine va_newa (atype := .int) (ty := .int) hx hb ac_int rfl hK hP hD hS hA (n := nI 1024) (N' := 1024) (a0 := (1024, .inl (fun _ => 0))) (na_i 1024) (nI_pos (by omega)) (nI_clamp (by omega)) (na_b4 (by omega)) (show 0 + 1 ≤ 1 by omega) (show 0 + 1024 ≤ 1024 by omega) dX7_init_8 (fun q1 cA1 H hK1 hP hD hS => ?_)
  have e1 : ci = cA1 := (cA_eq (tys2 := []) 0 hK hK1 rfl rfl rfl).symm
  subst e1
  clear hK1
  have hP : va_P G vwCl [(h, .inr (6, [.null])), aI ci q1 1024 (fun _ => 0)] H := hP
  have hD : va_D A [(h, .inr (6, [.null])), aI ci q1 1024 (fun _ => 0)] := hD
  refine W.widen (k := 1) (n := 1024) (by omega) (by omega) ?_
  refine va_putF (D := G) (ci := 6) (v := .ref q1) (ty := (.array .int)) (C := RX7) (T := TX7) (N := 1) hx hb hts hi_X7 tyX7 tyX7_ok nmX7 hown hK hP hD hS 0 rfl rfl 0 (by decide) f_11 (fun _ h9 => h9) rfl hin rfl (by decide +kernel) rfl rfl (Nat.le_of_ble_eq_true rfl) dX7_init_10 (fun H locs hP hD hS => ?_)
  have hP : va_P G vwCl [(h, .inr (6, [.ref q1])), aI ci q1 1024 (fun _ => 0)] H := hP
  have hD : va_D A [(h, .inr (6, [.ref q1])), aI ci q1 1024 (fun _ => 0)] := hD
  exact rV hx hb hr hlocks hK hP hD hS [0, 1] q1 rfl (by decide) trivial dX7_init_13
