set_option maxHeartbeats 4000000 in
set_option maxRecDepth 100000 in
theorem c_X6_init (l : Launch) (G : va_G) (ci cz cl : ClassId) (q : Nat → Nat) (sz : Nat) (h : Nat) (h1 : Nat) (h3 : Nat) (h5 : Nat) (h6 : Nat) : CtV l yX6_init wsX6_init ({ frames := 2, cells := 7, slots := 202, locals := 37 }) G (TY ci cz cl) O0 [.ref h, .ref h1, .ref h3, .ref h5, .ref h6] [(h, .inr (5, [.null, .null, .null, .null, .null, .null, .int (nI 0), .int (nI 0), .int (nI 0)]))] sz (fun (u : Nat × Nat × Nat × Nat × Nat × Nat × Nat) => True) (fun u : Nat × Nat × Nat × Nat × Nat × Nat × Nat => [(h, .inr (5, [.ref h1, .ref h3, .ref h5, .ref h6, .ref u.1, .ref u.2.1, .int (nI 0), .int (nI 65535), .int (nI 65535)])), (u.1, .inr (1, [.ref u.2.2.1, .ref u.2.2.2.1, .ref u.2.2.2.2.1])), aI ci u.2.2.1 8 (fun _ => 0), aI ci u.2.2.2.1 8 (fun _ => 0), aI ci u.2.2.2.2.1 8 (fun _ => 0), (u.2.1, .inr (4, [.ref h5, .ref u.2.2.2.2.2.1, .ref u.2.2.2.2.2.2, .int (nI 0), .int (nI 0), .int (-1), .int (nI 0)])), aI ci u.2.2.2.2.2.1 8 (fun _ => 0), aI ci u.2.2.2.2.2.2 160 (fun _ => 0)]) 7 202 := by
  refine Met.ofW (cc := cX6_init) (maxL := 5) (ret := none) (by decide) rfl ?_
  intro p e s m args below meth c s₁ B hml hv
  obtain ⟨rfl, ⟨hsz, hP, hK, hD0⟩, hO⟩ := hv
  have hx := B.exec
  have hb := B.bytes
  have hr := B.returns
  have hts := atoms_spec (ws := wsX6_init) B.pre
  have hown : s.vm.findClass RX6 = some m.cls := findClass_of_methodNamed B.named
  have hlocks := B.notSynchronized
  have hin : meth.name = "<init>" := (name_of_methodNamed B.named B.method).1
  subst hsz
  have hD := hD0.self (sz := s.heap.size)
  generalize hAe : va_A [(h, .inr (5, [.null, .null, .null, .null, .null, .null, .int (nI 0), .int (nI 0), .int (nI 0)]))] s.heap.size = A at hD hO ⊢
  have hA : ∀ q : Nat, s.heap.size ≤ q → A q := fun q h => by rw [← hAe]; exact Or.inr h
  have ok := ok0
  refine startH (A := A) (fun H locs hP hS => ?_) hP
  have m_3 := hts (.methodLink RX6 3 objectInit) (by decide +kernel)
  have m_oi := hts (.instanceMethod objectInit) (by decide +kernel)
  have m_oc := hts (.code objectInit ⟨#[0xb1]⟩ 1 none) (List.mem_cons_of_mem _ (List.mem_append_left _ (List.mem_of_getElem? (i := 2) rfl)))
  have hi_X6 := (by decide +kernel : ∀ w ∈ wsX60, w ∈ wsX6_init)
  have f_9 := hts (.fieldLink RX6 9 "PageReader$Reading" "file" "LPageReader$Bytes;") (by decide +kernel)
  have f_15 := hts (.fieldLink RX6 15 "PageReader$Reading" "widths" "LPageReader$Widths;") (by decide +kernel)
  have f_19 := hts (.fieldLink RX6 19 "PageReader$Reading" "pixels" "LPageReader$Pixels;") (by decide +kernel)
  have f_23 := hts (.fieldLink RX6 23 "PageReader$Reading" "pages" "LPageReader$Pages;") (by decide +kernel)
  have hi_X1 := (by decide +kernel : ∀ w ∈ wsX10, w ∈ wsX6_init)
  have in_RX1 := hts (.initialized RX1) (by decide +kernel)
  have m_29 := hts (.methodLink RX6 29 yX1_init) (by decide +kernel)
  have im_X1_init := hts (.instanceMethod yX1_init) (by decide +kernel)
  have f_30 := hts (.fieldLink RX6 30 "PageReader$Reading" "fonts" "LPageReader$Fonts;") (by decide +kernel)
  have hi_X5 := (by decide +kernel : ∀ w ∈ wsX50, w ∈ wsX6_init)
  have in_RX5 := hts (.initialized RX5) (by decide +kernel)
  have m_36 := hts (.methodLink RX6 36 yX5_init) (by decide +kernel)
  have im_X5_init := hts (.instanceMethod yX5_init) (by decide +kernel)
  have f_39 := hts (.fieldLink RX6 39 "PageReader$Reading" "place" "LPageReader$Place;") (by decide +kernel)
  have f_43 := hts (.fieldLink RX6 43 "PageReader$Reading" "phase" "I") (by decide +kernel)
  have k_47 := hts (.constant RX6 47 (65535)) (by decide +kernel)
  have f_48 := hts (.fieldLink RX6 48 "PageReader$Reading" "beginAddress" "I") (by decide +kernel)
  have f_51 := hts (.fieldLink RX6 51 "PageReader$Reading" "lastAddress" "I") (by decide +kernel)
  have hl := lv_entry ([.ref h, .ref h1, .ref h3, .ref h5, .ref h6]) (n := 5) (Nat.le_of_ble_eq_true rfl)
  rw [lg_entry_eq]
  generalize (lg_sl ([.ref h, .ref h1, .ref h3, .ref h5, .ref h6]) ++ List.replicate (5 - (lg_sl ([.ref h, .ref h1, .ref h3, .ref h5, .ref h6])).length) Slot.unset).toArray = ls at hl ⊢
  have hl : lv_has ls 5 [(0, .ref h), (1, .ref h1), (2, .ref h3), (3, .ref h5), (4, .ref h6)] := hl
  refine lv_aload_n hx hb dX6_init_0 rfl (lv_at hl 0 rfl) ?_
  refine W.objInit hx hb hown m_3 m_oi m_oc rfl (by rw [hml]; exact hl.1) rfl dX6_init_1 (Nat.le_of_ble_eq_true rfl) (Nat.le_of_ble_eq_true rfl) ?_
  refine W.eq (g2 := F0 m 4 ls []) rfl ?_
  refine lv_aload_n hx hb dX6_init_4 rfl (lv_at hl 0 rfl) ?_
  refine lv_aload_n hx hb dX6_init_5 rfl (lv_at hl 1 rfl) ?_
  refine va_putF (D := G) (ci := 5) (v := .ref h1) (ty := (.object "PageReader$Bytes")) (C := RX6) (T := TX6) (N := 9) hx hb hts hi_X6 tyX6 tyX6_ok nmX6 hown hK hP hD hS 0 rfl rfl 0 (by decide) f_9 (fun _ h9 => h9) rfl hin rfl (by decide +kernel) rfl rfl (Nat.le_of_ble_eq_true rfl) dX6_init_6 (fun H locs hP hD hS => ?_)
  have hP : va_P G vwCl [(h, .inr (5, [.ref h1, .null, .null, .null, .null, .null, .int (nI 0), .int (nI 0), .int (nI 0)]))] H := hP
  have hD : va_D A [(h, .inr (5, [.ref h1, .null, .null, .null, .null, .null, .int (nI 0), .int (nI 0), .int (nI 0)]))] := hD
  refine lv_aload_n hx hb dX6_init_9 rfl (lv_at hl 0 rfl) ?_
  refine lv_aload_n hx hb dX6_init_10 rfl (lv_at hl 2 rfl) ?_
  refine va_putF (D := G) (ci := 5) (v := .ref h3) (ty := (.object "PageReader$Widths")) (C := RX6) (T := TX6) (N := 9) hx hb hts hi_X6 tyX6 tyX6_ok nmX6 hown hK hP hD hS 0 rfl rfl 1 (by decide) f_15 (fun _ h9 => h9) rfl hin rfl (by decide +kernel) rfl rfl (Nat.le_of_ble_eq_true rfl) dX6_init_11 (fun H locs hP hD hS => ?_)
  have hP : va_P G vwCl [(h, .inr (5, [.ref h1, .ref h3, .null, .null, .null, .null, .int (nI 0), .int (nI 0), .int (nI 0)]))] H := hP
  have hD : va_D A [(h, .inr (5, [.ref h1, .ref h3, .null, .null, .null, .null, .int (nI 0), .int (nI 0), .int (nI 0)]))] := hD
  refine lv_aload_n hx hb dX6_init_14 rfl (lv_at hl 0 rfl) ?_
  refine lv_aload_n hx hb dX6_init_15 rfl (lv_at hl 3 rfl) ?_
  refine va_putF (D := G) (ci := 5) (v := .ref h5) (ty := (.object "PageReader$Pixels")) (C := RX6) (T := TX6) (N := 9) hx hb hts hi_X6 tyX6 tyX6_ok nmX6 hown hK hP hD hS 0 rfl rfl 2 (by decide) f_19 (fun _ h9 => h9) rfl hin rfl (by decide +kernel) rfl rfl (Nat.le_of_ble_eq_true rfl) dX6_init_16 (fun H locs hP hD hS => ?_)
  have hP : va_P G vwCl [(h, .inr (5, [.ref h1, .ref h3, .ref h5, .null, .null, .null, .int (nI 0), .int (nI 0), .int (nI 0)]))] H := hP
  have hD : va_D A [(h, .inr (5, [.ref h1, .ref h3, .ref h5, .null, .null, .null, .int (nI 0), .int (nI 0), .int (nI 0)]))] := hD
  refine lv_aload_n hx hb dX6_init_19 rfl (lv_at hl 0 rfl) ?_
  refine lv_aload hx hb dX6_init_20 (lv_at hl 4 rfl) ?_
  refine va_putF (D := G) (ci := 5) (v := .ref h6) (ty := (.object "PageReader$Pages")) (C := RX6) (T := TX6) (N := 9) hx hb hts hi_X6 tyX6 tyX6_ok nmX6 hown hK hP hD hS 0 rfl rfl 3 (by decide) f_23 (fun _ h9 => h9) rfl hin rfl (by decide +kernel) rfl rfl (Nat.le_of_ble_eq_true rfl) dX6_init_22 (fun H locs hP hD hS => ?_)
  have hP : va_P G vwCl [(h, .inr (5, [.ref h1, .ref h3, .ref h5, .ref h6, .null, .null, .int (nI 0), .int (nI 0), .int (nI 0)]))] H := hP
  have hD : va_D A [(h, .inr (5, [.ref h1, .ref h3, .ref h5, .ref h6, .null, .null, .int (nI 0), .int (nI 0), .int (nI 0)]))] := hD
  refine lv_aload_n hx hb dX6_init_25 rfl (lv_at hl 0 rfl) ?_
  refine va_new (ci := 1) (fs := [.null, .null, .null]) (C := RX1) (T := TX1) (N := 3) hx hb hts hi_X1 tyX1 tyX1_ok hown (hts (.classLink RX6 27 RX1) (by decide +kernel)) (hts (.instantiable RX1 3) (by decide +kernel)) (hts (.initialized RX1) (by decide +kernel)) hK hP hD hS hA rfl (fun j hj => by rcases (show j = 0 ∨ j = 1 ∨ j = 2 by omega) with rfl | rfl | rfl <;> rfl) (show 0 + 1 ≤ 7 by omega) (show 0 + 3 ≤ 202 by omega) dX6_init_26 (fun q1 H hP hD hS => ?_)
  have hP : va_P G vwCl [(h, .inr (5, [.ref h1, .ref h3, .ref h5, .ref h6, .null, .null, .int (nI 0), .int (nI 0), .int (nI 0)])), (q1, .inr (1, [.null, .null, .null]))] H := hP
  have hD : va_D A [(h, .inr (5, [.ref h1, .ref h3, .ref h5, .ref h6, .null, .null, .int (nI 0), .int (nI 0), .int (nI 0)])), (q1, .inr (1, [.null, .null, .null]))] := hD
  refine W.widen (k := 1) (n := 3) (by omega) (by omega) ?_
  refine lv_dup hx hb dX6_init_29 rfl ?_
  refine jV (va_runI (As := []) (rest := [.ref q1, .ref h]) ⟨hx, hb, hml, hown, hts⟩ (c_X1_init l G ci cz cl q H.size q1 ) (cwI 0 hts gX6_init_X1_init rfl rfl rfl in_RX1 m_29 im_X1_init rfl (by decide +kernel) ⟨(Nat.le_of_ble_eq_true rfl), (Nat.le_of_ble_eq_true rfl)⟩) (pS (wc := [(q1, .inr (1, [.null, .null, .null]))]) ok hK hP hD hS hA hO [1] rfl (by decide)) rfl rfl hl.1 rfl (lv_room (Nat.le_of_ble_eq_true rfl)) dX6_init_30 ⟨show 1 + 3 ≤ 7 by omega, show 3 + 24 ≤ 202 by omega⟩) (wr := [(h, .inr (5, [.ref h1, .ref h3, .ref h5, .ref h6, .null, .null, .int (nI 0), .int (nI 0), .int (nI 0)]))]) hP hD hS hA [1] [0] rfl rfl (by decide) (by decide) (fun u H locs hw_2 hP hD hS => ?_)
  obtain ⟨u14_2, u15_2, u16_2⟩ := u
  try dsimp only at hw_2
  have hP : va_P G vwCl [(h, .inr (5, [.ref h1, .ref h3, .ref h5, .ref h6, .null, .null, .int (nI 0), .int (nI 0), .int (nI 0)])), (q1, .inr (1, [.ref u14_2, .ref u15_2, .ref u16_2])), aI ci u14_2 8 (fun _ => 0), aI ci u15_2 8 (fun _ => 0), aI ci u16_2 8 (fun _ => 0)] H := hP
  have hD : va_D A [(h, .inr (5, [.ref h1, .ref h3, .ref h5, .ref h6, .null, .null, .int (nI 0), .int (nI 0), .int (nI 0)])), (q1, .inr (1, [.ref u14_2, .ref u15_2, .ref u16_2])), aI ci u14_2 8 (fun _ => 0), aI ci u15_2 8 (fun _ => 0), aI ci u16_2 8 (fun _ => 0)] := hD
  refine W.widen (k := 4) (n := 27) (by omega) (by omega) ?_
  refine va_putF (D := G) (ci := 5) (v := .ref q1) (ty := (.object "PageReader$Fonts")) (C := RX6) (T := TX6) (N := 9) hx hb hts hi_X6 tyX6 tyX6_ok nmX6 hown hK hP hD hS 0 rfl rfl 4 (by decide) f_30 (fun _ h9 => h9) rfl hin rfl (by decide +kernel) rfl rfl (Nat.le_of_ble_eq_true rfl) dX6_init_33 (fun H locs hP hD hS => ?_)
  have hP : va_P G vwCl [(h, .inr (5, [.ref h1, .ref h3, .ref h5, .ref h6, .ref q1, .null, .int (nI 0), .int (nI 0), .int (nI 0)])), (q1, .inr (1, [.ref u14_2, .ref u15_2, .ref u16_2])), aI ci u14_2 8 (fun _ => 0), aI ci u15_2 8 (fun _ => 0), aI ci u16_2 8 (fun _ => 0)] H := hP
  have hD : va_D A [(h, .inr (5, [.ref h1, .ref h3, .ref h5, .ref h6, .ref q1, .null, .int (nI 0), .int (nI 0), .int (nI 0)])), (q1, .inr (1, [.ref u14_2, .ref u15_2, .ref u16_2])), aI ci u14_2 8 (fun _ => 0), aI ci u15_2 8 (fun _ => 0), aI ci u16_2 8 (fun _ => 0)] := hD
  refine lv_aload_n hx hb dX6_init_36 rfl (lv_at hl 0 rfl) ?_
  refine va_new (ci := 4) (fs := [.null, .null, .null, .int (nI 0), .int (nI 0), .int (nI 0), .int (nI 0)]) (C := RX5) (T := TX5) (N := 7) hx hb hts hi_X5 tyX5 tyX5_ok hown (hts (.classLink RX6 34 RX5) (by decide +kernel)) (hts (.instantiable RX5 7) (by decide +kernel)) (hts (.initialized RX5) (by decide +kernel)) hK hP hD hS hA rfl (fun j hj => by rcases (show j = 0 ∨ j = 1 ∨ j = 2 ∨ j = 3 ∨ j = 4 ∨ j = 5 ∨ j = 6 by omega) with rfl | rfl | rfl | rfl | rfl | rfl | rfl <;> rfl) (show 4 + 1 ≤ 7 by omega) (show 27 + 7 ≤ 202 by omega) dX6_init_37 (fun q3 H hP hD hS => ?_)
  have hP : va_P G vwCl [(h, .inr (5, [.ref h1, .ref h3, .ref h5, .ref h6, .ref q1, .null, .int (nI 0), .int (nI 0), .int (nI 0)])), (q1, .inr (1, [.ref u14_2, .ref u15_2, .ref u16_2])), aI ci u14_2 8 (fun _ => 0), aI ci u15_2 8 (fun _ => 0), aI ci u16_2 8 (fun _ => 0), (q3, .inr (4, [.null, .null, .null, .int (nI 0), .int (nI 0), .int (nI 0), .int (nI 0)]))] H := hP
  have hD : va_D A [(h, .inr (5, [.ref h1, .ref h3, .ref h5, .ref h6, .ref q1, .null, .int (nI 0), .int (nI 0), .int (nI 0)])), (q1, .inr (1, [.ref u14_2, .ref u15_2, .ref u16_2])), aI ci u14_2 8 (fun _ => 0), aI ci u15_2 8 (fun _ => 0), aI ci u16_2 8 (fun _ => 0), (q3, .inr (4, [.null, .null, .null, .int (nI 0), .int (nI 0), .int (nI 0), .int (nI 0)]))] := hD
  refine W.widen (k := 5) (n := 34) (by omega) (by omega) ?_
  refine lv_dup hx hb dX6_init_40 rfl ?_
  refine lv_aload_n hx hb dX6_init_41 rfl (lv_at hl 3 rfl) ?_
  refine jV (va_runI (As := [.ref h5]) (rest := [.ref q3, .ref h]) ⟨hx, hb, hml, hown, hts⟩ (c_X5_init l G ci cz cl q H.size q3 h5 ) (cwI 1 hts gX6_init_X5_init rfl rfl rfl in_RX5 m_36 im_X5_init rfl (by decide +kernel) ⟨(Nat.le_of_ble_eq_true rfl), (Nat.le_of_ble_eq_true rfl)⟩) (pS (wc := [(q3, .inr (4, [.null, .null, .null, .int (nI 0), .int (nI 0), .int (nI 0), .int (nI 0)]))]) ok hK hP hD hS hA hO [5] rfl (by decide)) rfl rfl hl.1 rfl (lv_room (Nat.le_of_ble_eq_true rfl)) dX6_init_42 ⟨show 5 + 2 ≤ 7 by omega, show 34 + 168 ≤ 202 by omega⟩) (wr := [(h, .inr (5, [.ref h1, .ref h3, .ref h5, .ref h6, .ref q1, .null, .int (nI 0), .int (nI 0), .int (nI 0)])), (q1, .inr (1, [.ref u14_2, .ref u15_2, .ref u16_2])), aI ci u14_2 8 (fun _ => 0), aI ci u15_2 8 (fun _ => 0), aI ci u16_2 8 (fun _ => 0)]) hP hD hS hA [5] [0, 1, 2, 3, 4] rfl rfl (by decide) (by decide) (fun u H locs hw_4 hP hD hS => ?_)
  obtain ⟨u18_4, u19_4⟩ := u
  try dsimp only at hw_4
  have hP : va_P G vwCl [(h, .inr (5, [.ref h1, .ref h3, .ref h5, .ref h6, .ref q1, .null, .int (nI 0), .int (nI 0), .int (nI 0)])), (q1, .inr (1, [.ref u14_2, .ref u15_2, .ref u16_2])), aI ci u14_2 8 (fun _ => 0), aI ci u15_2 8 (fun _ => 0), aI ci u16_2 8 (fun _ => 0), (q3, .inr (4, [.ref h5, .ref u18_4, .ref u19_4, .int (nI 0), .int (nI 0), .int (-1), .int (nI 0)])), aI ci u18_4 8 (fun _ => 0), aI ci u19_4 160 (fun _ => 0)] H := hP
  have hD : va_D A [(h, .inr (5, [.ref h1, .ref h3, .ref h5, .ref h6, .ref q1, .null, .int (nI 0), .int (nI 0), .int (nI 0)])), (q1, .inr (1, [.ref u14_2, .ref u15_2, .ref u16_2])), aI ci u14_2 8 (fun _ => 0), aI ci u15_2 8 (fun _ => 0), aI ci u16_2 8 (fun _ => 0), (q3, .inr (4, [.ref h5, .ref u18_4, .ref u19_4, .int (nI 0), .int (nI 0), .int (-1), .int (nI 0)])), aI ci u18_4 8 (fun _ => 0), aI ci u19_4 160 (fun _ => 0)] := hD
  refine W.widen (k := 7) (n := 202) (by omega) (by omega) ?_
  refine va_putF (D := G) (ci := 5) (v := .ref q3) (ty := (.object "PageReader$Place")) (C := RX6) (T := TX6) (N := 9) hx hb hts hi_X6 tyX6 tyX6_ok nmX6 hown hK hP hD hS 0 rfl rfl 5 (by decide) f_39 (fun _ h9 => h9) rfl hin rfl (by decide +kernel) rfl rfl (Nat.le_of_ble_eq_true rfl) dX6_init_45 (fun H locs hP hD hS => ?_)
  have hP : va_P G vwCl [(h, .inr (5, [.ref h1, .ref h3, .ref h5, .ref h6, .ref q1, .ref q3, .int (nI 0), .int (nI 0), .int (nI 0)])), (q1, .inr (1, [.ref u14_2, .ref u15_2, .ref u16_2])), aI ci u14_2 8 (fun _ => 0), aI ci u15_2 8 (fun _ => 0), aI ci u16_2 8 (fun _ => 0), (q3, .inr (4, [.ref h5, .ref u18_4, .ref u19_4, .int (nI 0), .int (nI 0), .int (-1), .int (nI 0)])), aI ci u18_4 8 (fun _ => 0), aI ci u19_4 160 (fun _ => 0)] H := hP
  have hD : va_D A [(h, .inr (5, [.ref h1, .ref h3, .ref h5, .ref h6, .ref q1, .ref q3, .int (nI 0), .int (nI 0), .int (nI 0)])), (q1, .inr (1, [.ref u14_2, .ref u15_2, .ref u16_2])), aI ci u14_2 8 (fun _ => 0), aI ci u15_2 8 (fun _ => 0), aI ci u16_2 8 (fun _ => 0), (q3, .inr (4, [.ref h5, .ref u18_4, .ref u19_4, .int (nI 0), .int (nI 0), .int (-1), .int (nI 0)])), aI ci u18_4 8 (fun _ => 0), aI ci u19_4 160 (fun _ => 0)] := hD
  refine lv_aload_n hx hb dX6_init_48 rfl (lv_at hl 0 rfl) ?_
  refine lv_iconst (v := nI 0) hx hb dX6_init_49 (by decide) ?_
  refine va_put (D := G) (ci := 5) (v := .int (nI 0)) (ty := .int) (C := RX6) (T := TX6) (N := 9) hx hb hts hi_X6 tyX6 tyX6_ok nmX6 hown hK hP hD hS 0 rfl rfl 6 (by decide) f_43 (fun _ h9 => h9) rfl (by decide +kernel) rfl rfl (Nat.le_of_ble_eq_true rfl) dX6_init_50 (fun H locs hP hD hS => ?_)
  have hP : va_P G vwCl [(h, .inr (5, [.ref h1, .ref h3, .ref h5, .ref h6, .ref q1, .ref q3, .int (nI 0), .int (nI 0), .int (nI 0)])), (q1, .inr (1, [.ref u14_2, .ref u15_2, .ref u16_2])), aI ci u14_2 8 (fun _ => 0), aI ci u15_2 8 (fun _ => 0), aI ci u16_2 8 (fun _ => 0), (q3, .inr (4, [.ref h5, .ref u18_4, .ref u19_4, .int (nI 0), .int (nI 0), .int (-1), .int (nI 0)])), aI ci u18_4 8 (fun _ => 0), aI ci u19_4 160 (fun _ => 0)] H := hP
  have hD : va_D A [(h, .inr (5, [.ref h1, .ref h3, .ref h5, .ref h6, .ref q1, .ref q3, .int (nI 0), .int (nI 0), .int (nI 0)])), (q1, .inr (1, [.ref u14_2, .ref u15_2, .ref u16_2])), aI ci u14_2 8 (fun _ => 0), aI ci u15_2 8 (fun _ => 0), aI ci u16_2 8 (fun _ => 0), (q3, .inr (4, [.ref h5, .ref u18_4, .ref u19_4, .int (nI 0), .int (nI 0), .int (-1), .int (nI 0)])), aI ci u18_4 8 (fun _ => 0), aI ci u19_4 160 (fun _ => 0)] := hD
  refine lv_aload_n hx hb dX6_init_53 rfl (lv_at hl 0 rfl) ?_
  refine lv_ldc hx hb hown k_47 dX6_init_54 ?_
  refine tp (y := nI 65535) rfl ?_
  refine va_put (D := G) (ci := 5) (v := .int (nI 65535)) (ty := .int) (C := RX6) (T := TX6) (N := 9) hx hb hts hi_X6 tyX6 tyX6_ok nmX6 hown hK hP hD hS 0 rfl rfl 7 (by decide) f_48 (fun _ h9 => h9) rfl (by decide +kernel) rfl rfl (Nat.le_of_ble_eq_true rfl) dX6_init_56 (fun H locs hP hD hS => ?_)
  have hP : va_P G vwCl [(h, .inr (5, [.ref h1, .ref h3, .ref h5, .ref h6, .ref q1, .ref q3, .int (nI 0), .int (nI 65535), .int (nI 0)])), (q1, .inr (1, [.ref u14_2, .ref u15_2, .ref u16_2])), aI ci u14_2 8 (fun _ => 0), aI ci u15_2 8 (fun _ => 0), aI ci u16_2 8 (fun _ => 0), (q3, .inr (4, [.ref h5, .ref u18_4, .ref u19_4, .int (nI 0), .int (nI 0), .int (-1), .int (nI 0)])), aI ci u18_4 8 (fun _ => 0), aI ci u19_4 160 (fun _ => 0)] H := hP
  have hD : va_D A [(h, .inr (5, [.ref h1, .ref h3, .ref h5, .ref h6, .ref q1, .ref q3, .int (nI 0), .int (nI 65535), .int (nI 0)])), (q1, .inr (1, [.ref u14_2, .ref u15_2, .ref u16_2])), aI ci u14_2 8 (fun _ => 0), aI ci u15_2 8 (fun _ => 0), aI ci u16_2 8 (fun _ => 0), (q3, .inr (4, [.ref h5, .ref u18_4, .ref u19_4, .int (nI 0), .int (nI 0), .int (-1), .int (nI 0)])), aI ci u18_4 8 (fun _ => 0), aI ci u19_4 160 (fun _ => 0)] := hD
  refine lv_aload_n hx hb dX6_init_59 rfl (lv_at hl 0 rfl) ?_
  refine lv_ldc hx hb hown k_47 dX6_init_60 ?_
  refine tp (y := nI 65535) rfl ?_
  refine va_put (D := G) (ci := 5) (v := .int (nI 65535)) (ty := .int) (C := RX6) (T := TX6) (N := 9) hx hb hts hi_X6 tyX6 tyX6_ok nmX6 hown hK hP hD hS 0 rfl rfl 8 (by decide) f_51 (fun _ h9 => h9) rfl (by decide +kernel) rfl rfl (Nat.le_of_ble_eq_true rfl) dX6_init_62 (fun H locs hP hD hS => ?_)
  have hP : va_P G vwCl [(h, .inr (5, [.ref h1, .ref h3, .ref h5, .ref h6, .ref q1, .ref q3, .int (nI 0), .int (nI 65535), .int (nI 65535)])), (q1, .inr (1, [.ref u14_2, .ref u15_2, .ref u16_2])), aI ci u14_2 8 (fun _ => 0), aI ci u15_2 8 (fun _ => 0), aI ci u16_2 8 (fun _ => 0), (q3, .inr (4, [.ref h5, .ref u18_4, .ref u19_4, .int (nI 0), .int (nI 0), .int (-1), .int (nI 0)])), aI ci u18_4 8 (fun _ => 0), aI ci u19_4 160 (fun _ => 0)] H := hP
  have hD : va_D A [(h, .inr (5, [.ref h1, .ref h3, .ref h5, .ref h6, .ref q1, .ref q3, .int (nI 0), .int (nI 65535), .int (nI 65535)])), (q1, .inr (1, [.ref u14_2, .ref u15_2, .ref u16_2])), aI ci u14_2 8 (fun _ => 0), aI ci u15_2 8 (fun _ => 0), aI ci u16_2 8 (fun _ => 0), (q3, .inr (4, [.ref h5, .ref u18_4, .ref u19_4, .int (nI 0), .int (nI 0), .int (-1), .int (nI 0)])), aI ci u18_4 8 (fun _ => 0), aI ci u19_4 160 (fun _ => 0)] := hD
  exact rV hx hb hr hlocks hK hP hD hS [0, 1, 2, 3, 4, 5, 6, 7] (q1, q3, u14_2, u15_2, u16_2, u18_4, u19_4) rfl (by decide) trivial dX6_init_65
