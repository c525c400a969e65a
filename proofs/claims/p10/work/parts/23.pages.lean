set_option maxHeartbeats 4000000 in
set_option maxRecDepth 100000 in
theorem c_X3_clear (l : Launch) (G : va_G) (ci cz cl : ClassId) (q : Nat → Nat) (sz : Nat) (pc : Nat) (ic : Nat) (nu : Nat → Int32) (ad : Nat → Int32) (fi : Nat → Int32) (co : Nat → Int32) (it : Nat → Int32) : CtV l yX3_clear wsX3_clear ({ frames := 0, cells := 0, slots := 0, locals := 0 }) G (TY ci cz cl) O0 [.ref (q 6)] [(q 6, .inr (2, [.ref (q 7), .ref (q 8), .ref (q 9), .ref (q 10), .ref (q 11), .int (nI pc), .int (nI ic)])), aI ci (q 7) 12 nu, aI ci (q 8) 12 ad, aI ci (q 9) 12 fi, aI ci (q 10) 12 co, aI ci (q 11) 1400 it] sz (fun (u : Unit) => True) (fun u : Unit => [(q 6, .inr (2, [.ref (q 7), .ref (q 8), .ref (q 9), .ref (q 10), .ref (q 11), .int (nI 0), .int (nI 0)])), aI ci (q 7) 12 nu, aI ci (q 8) 12 ad, aI ci (q 9) 12 fi, aI ci (q 10) 12 co, aI ci (q 11) 1400 it]) 0 0 := by
  refine Met.ofW (cc := cX3_clear) (maxL := 1) (ret := none) (by decide) rfl ?_
  intro p e s m args below meth c s₁ B hml hv
  obtain ⟨rfl, ⟨hsz, hP, hK, hD0⟩, hO⟩ := hv
  have hx := B.exec
  have hb := B.bytes
  have hr := B.returns
  have hts := atoms_spec (ws := wsX3_clear) B.pre
  have hown : s.vm.findClass RX3 = some m.cls := findClass_of_methodNamed B.named
  have hlocks := B.notSynchronized
  subst hsz
  have hD := hD0.self (sz := s.heap.size)
  generalize hAe : va_A [(q 6, .inr (2, [.ref (q 7), .ref (q 8), .ref (q 9), .ref (q 10), .ref (q 11), .int (nI pc), .int (nI ic)])), aI ci (q 7) 12 nu, aI ci (q 8) 12 ad, aI ci (q 9) 12 fi, aI ci (q 10) 12 co, aI ci (q 11) 1400 it] s.heap.size = A at hD hO ⊢
  have hA : ∀ q : Nat, s.heap.size ≤ q → A q := fun q h => by rw [← hAe]; exact Or.inr h
  have ok := ok0
  refine startH (A := A) (fun H locs hP hS => ?_) hP
  have hi_X3 := (by decide +kernel : ∀ w ∈ wsX30, w ∈ wsX3_clear)
  have f_25 := hts (.fieldLink RX3 25 "PageReader$Pages" "count" "I") (by decide +kernel)
  have f_29 := hts (.fieldLink RX3 29 "PageReader$Pages" "itemCount" "I") (by decide +kernel)
  have hl := lv_entry ([.ref (q 6)]) (n := 1) (Nat.le_of_ble_eq_true rfl)
  rw [lg_entry_eq]
  generalize (lg_sl ([.ref (q 6)]) ++ List.replicate (1 - (lg_sl ([.ref (q 6)])).length) Slot.unset).toArray = ls at hl ⊢
  have hl : lv_has ls 1 [(0, .ref (q 6))] := hl
  refine lv_aload_n hx hb dX3_clear_0 rfl (lv_at hl 0 rfl) ?_
  refine lv_iconst (v := nI 0) hx hb dX3_clear_1 (by decide) ?_
  refine va_put (D := G) (ci := 2) (v := .int (nI 0)) (ty := .int) (C := RX3) (T := TX3) (N := 7) hx hb hts hi_X3 tyX3 tyX3_ok nmX3 hown hK hP hD hS 0 rfl rfl 5 (by decide) f_25 (fun _ h9 => h9) rfl (by decide +kernel) rfl rfl (Nat.le_of_ble_eq_true rfl) dX3_clear_2 (fun H locs hP hD hS => ?_)
  have hP : va_P G vwCl [(q 6, .inr (2, [.ref (q 7), .ref (q 8), .ref (q 9), .ref (q 10), .ref (q 11), .int (nI 0), .int (nI ic)])), aI ci (q 7) 12 nu, aI ci (q 8) 12 ad, aI ci (q 9) 12 fi, aI ci (q 10) 12 co, aI ci (q 11) 1400 it] H := hP
  have hD : va_D A [(q 6, .inr (2, [.ref (q 7), .ref (q 8), .ref (q 9), .ref (q 10), .ref (q 11), .int (nI 0), .int (nI ic)])), aI ci (q 7) 12 nu, aI ci (q 8) 12 ad, aI ci (q 9) 12 fi, aI ci (q 10) 12 co, aI ci (q 11) 1400 it] := hD
  refine lv_aload_n hx hb dX3_clear_5 rfl (lv_at hl 0 rfl) ?_
  refine lv_iconst (v := nI 0) hx hb dX3_clear_6 (by decide) ?_
  refine va_put (D := G) (ci := 2) (v := .int (nI 0)) (ty := .int) (C := RX3) (T := TX3) (N := 7) hx hb hts hi_X3 tyX3 tyX3_ok nmX3 hown hK hP hD hS 0 rfl rfl 6 (by decide) f_29 (fun _ h9 => h9) rfl (by decide +kernel) rfl rfl (Nat.le_of_ble_eq_true rfl) dX3_clear_7 (fun H locs hP hD hS => ?_)
  have hP : va_P G vwCl [(q 6, .inr (2, [.ref (q 7), .ref (q 8), .ref (q 9), .ref (q 10), .ref (q 11), .int (nI 0), .int (nI 0)])), aI ci (q 7) 12 nu, aI ci (q 8) 12 ad, aI ci (q 9) 12 fi, aI ci (q 10) 12 co, aI ci (q 11) 1400 it] H := hP
  have hD : va_D A [(q 6, .inr (2, [.ref (q 7), .ref (q 8), .ref (q 9), .ref (q 10), .ref (q 11), .int (nI 0), .int (nI 0)])), aI ci (q 7) 12 nu, aI ci (q 8) 12 ad, aI ci (q 9) 12 fi, aI ci (q 10) 12 co, aI ci (q 11) 1400 it] := hD
  exact rV hx hb hr hlocks hK hP hD hS [0, 1, 2, 3, 4, 5] () rfl (by decide) trivial dX3_clear_10
set_option maxHeartbeats 4000000 in
set_option maxRecDepth 100000 in
theorem c_X3_count (l : Launch) (G : va_G) (ci cz cl : ClassId) (q : Nat → Nat) (sz : Nat) (pc : Nat) (ic : Nat) (nu : Nat → Int32) (ad : Nat → Int32) (fi : Nat → Int32) (co : Nat → Int32) (it : Nat → Int32) : CtI l yX3_count wsX3_count ({ frames := 0, cells := 0, slots := 0, locals := 0 }) G (TY ci cz cl) O0 [.ref (q 6)] [(q 6, .inr (2, [.ref (q 7), .ref (q 8), .ref (q 9), .ref (q 10), .ref (q 11), .int (nI pc), .int (nI ic)])), aI ci (q 7) 12 nu, aI ci (q 8) 12 ad, aI ci (q 9) 12 fi, aI ci (q 10) 12 co, aI ci (q 11) 1400 it] sz (fun (r : Int32) (u : Unit) => r = nI pc) (fun u : Unit => [(q 6, .inr (2, [.ref (q 7), .ref (q 8), .ref (q 9), .ref (q 10), .ref (q 11), .int (nI pc), .int (nI ic)])), aI ci (q 7) 12 nu, aI ci (q 8) 12 ad, aI ci (q 9) 12 fi, aI ci (q 10) 12 co, aI ci (q 11) 1400 it]) 0 0 := by
  refine Met.ofW (cc := cX3_count) (maxL := 1) (ret := (some .int)) (by decide) rfl ?_
  intro p e s m args below meth c s₁ B hml hv
  obtain ⟨rfl, ⟨hsz, hP, hK, hD0⟩, hO⟩ := hv
  have hx := B.exec
  have hb := B.bytes
  have hr := B.returns
  have hts := atoms_spec (ws := wsX3_count) B.pre
  have hown : s.vm.findClass RX3 = some m.cls := findClass_of_methodNamed B.named
  have hlocks := B.notSynchronized
  subst hsz
  have hD := hD0.self (sz := s.heap.size)
  generalize hAe : va_A [(q 6, .inr (2, [.ref (q 7), .ref (q 8), .ref (q 9), .ref (q 10), .ref (q 11), .int (nI pc), .int (nI ic)])), aI ci (q 7) 12 nu, aI ci (q 8) 12 ad, aI ci (q 9) 12 fi, aI ci (q 10) 12 co, aI ci (q 11) 1400 it] s.heap.size = A at hD hO ⊢
  have hA : ∀ q : Nat, s.heap.size ≤ q → A q := fun q h => by rw [← hAe]; exact Or.inr h
  have ok := ok0
  refine startH (A := A) (fun H locs hP hS => ?_) hP
  have hi_X3 := (by decide +kernel : ∀ w ∈ wsX30, w ∈ wsX3_count)
  have f_25 := hts (.fieldLink RX3 25 "PageReader$Pages" "count" "I") (by decide +kernel)
  have hl := lv_entry ([.ref (q 6)]) (n := 1) (Nat.le_of_ble_eq_true rfl)
  rw [lg_entry_eq]
  generalize (lg_sl ([.ref (q 6)]) ++ List.replicate (1 - (lg_sl ([.ref (q 6)])).length) Slot.unset).toArray = ls at hl ⊢
  have hl : lv_has ls 1 [(0, .ref (q 6))] := hl
  refine lv_aload_n hx hb dX3_count_0 rfl (lv_at hl 0 rfl) ?_
  refine va_get (D := G) (ci := 2) (v := .int (nI pc)) (C := RX3) (T := TX3) (N := 7) hx hb hts hi_X3 hown hK hP 0 rfl rfl 5 (by decide) f_25 (fun _ h9 => h9) rfl dX3_count_1 ?_
  exact rI (v := nI pc) hx hb hr hlocks rfl hK hP hD hS [0, 1, 2, 3, 4, 5] () rfl (by decide) rfl dX3_count_4
set_option maxHeartbeats 4000000 in
set_option maxRecDepth 100000 in
theorem c_X3_begin (l : Launch) (G : va_G) (ci cz cl : ClassId) (q : Nat → Nat) (sz : Nat) (x : Int32) (a : Nat) (pc : Nat) (ic : Nat) (nu : Nat → Int32) (ad : Nat → Int32) (fi : Nat → Int32) (co : Nat → Int32) (it : Nat → Int32) (hpc : pc ≤ 12) (hic : ic ≤ 200) (hPI : PI pc ic fi co) : CtI l yX3_begin wsX3_begin ({ frames := 0, cells := 0, slots := 0, locals := 0 }) G (TY ci cz cl) O0 [.ref (q 6), .int x, .int (nI a)] [(q 6, .inr (2, [.ref (q 7), .ref (q 8), .ref (q 9), .ref (q 10), .ref (q 11), .int (nI pc), .int (nI ic)])), aI ci (q 7) 12 nu, aI ci (q 8) 12 ad, aI ci (q 9) 12 fi, aI ci (q 10) 12 co, aI ci (q 11) 1400 it] sz (fun (r : Int32) (u : Nat × Nat × (Nat → Int32) × (Nat → Int32) × (Nat → Int32) × (Nat → Int32)) => r = nI u.1 ∧ ((u.1 = 1 ∧ pc + 1 = u.2.1 ∧ upd nu pc x = u.2.2.1 ∧ upd ad pc (nI a) = u.2.2.2.1 ∧ upd fi pc (nI ic) = u.2.2.2.2.1 ∧ upd co pc (nI 0) = u.2.2.2.2.2 ∧ pc < 12) ∨ (u.1 = 0 ∧ pc = u.2.1 ∧ nu = u.2.2.1 ∧ ad = u.2.2.2.1 ∧ fi = u.2.2.2.2.1 ∧ co = u.2.2.2.2.2 ∧ 12 ≤ pc)) ∧ PI u.2.1 ic u.2.2.2.2.1 u.2.2.2.2.2) (fun u : Nat × Nat × (Nat → Int32) × (Nat → Int32) × (Nat → Int32) × (Nat → Int32) => [(q 6, .inr (2, [.ref (q 7), .ref (q 8), .ref (q 9), .ref (q 10), .ref (q 11), .int (nI u.2.1), .int (nI ic)])), aI ci (q 7) 12 u.2.2.1, aI ci (q 8) 12 u.2.2.2.1, aI ci (q 9) 12 u.2.2.2.2.1, aI ci (q 10) 12 u.2.2.2.2.2, aI ci (q 11) 1400 it]) 0 0 := by
  refine Met.ofW (cc := cX3_begin) (maxL := 3) (ret := (some .boolean)) (by decide) rfl ?_
  intro p e s m args below meth c s₁ B hml hv
  obtain ⟨rfl, ⟨hsz, hP, hK, hD0⟩, hO⟩ := hv
  have hx := B.exec
  have hb := B.bytes
  have hr := B.returns
  have hts := atoms_spec (ws := wsX3_begin) B.pre
  have hown : s.vm.findClass RX3 = some m.cls := findClass_of_methodNamed B.named
  have hlocks := B.notSynchronized
  subst hsz
  have hD := hD0.self (sz := s.heap.size)
  generalize hAe : va_A [(q 6, .inr (2, [.ref (q 7), .ref (q 8), .ref (q 9), .ref (q 10), .ref (q 11), .int (nI pc), .int (nI ic)])), aI ci (q 7) 12 nu, aI ci (q 8) 12 ad, aI ci (q 9) 12 fi, aI ci (q 10) 12 co, aI ci (q 11) 1400 it] s.heap.size = A at hD hO ⊢
  have hA : ∀ q : Nat, s.heap.size ≤ q → A q := fun q h => by rw [← hAe]; exact Or.inr h
  have ok := ok0
  refine startH (A := A) (fun H locs hP hS => ?_) hP
  have hi_X3 := (by decide +kernel : ∀ w ∈ wsX30, w ∈ wsX3_begin)
  have f_25 := hts (.fieldLink RX3 25 "PageReader$Pages" "count" "I") (by decide +kernel)
  have f_9 := hts (.fieldLink RX3 9 "PageReader$Pages" "numbers" "[I") (by decide +kernel)
  have f_13 := hts (.fieldLink RX3 13 "PageReader$Pages" "addresses" "[I") (by decide +kernel)
  have f_16 := hts (.fieldLink RX3 16 "PageReader$Pages" "firstItems" "[I") (by decide +kernel)
  have f_29 := hts (.fieldLink RX3 29 "PageReader$Pages" "itemCount" "I") (by decide +kernel)
  have f_19 := hts (.fieldLink RX3 19 "PageReader$Pages" "itemCounts" "[I") (by decide +kernel)
  have hl := lv_entry ([.ref (q 6), .int x, .int (nI a)]) (n := 3) (Nat.le_of_ble_eq_true rfl)
  rw [lg_entry_eq]
  generalize (lg_sl ([.ref (q 6), .int x, .int (nI a)]) ++ List.replicate (3 - (lg_sl ([.ref (q 6), .int x, .int (nI a)])).length) Slot.unset).toArray = ls at hl ⊢
  have hl : lv_has ls 3 [(0, .ref (q 6)), (1, .int x), (2, .int (nI a))] := hl
  refine lv_aload_n hx hb dX3_begin_0 rfl (lv_at hl 0 rfl) ?_
  refine va_get (D := G) (ci := 2) (v := .int (nI pc)) (C := RX3) (T := TX3) (N := 7) hx hb hts hi_X3 hown hK hP 0 rfl rfl 5 (by decide) f_25 (fun _ h9 => h9) rfl dX3_begin_1 ?_
  refine lv_bipush (v := nI 12) hx hb dX3_begin_4 (by decide) ?_
  refine lv_icmp_lt (tgt := 11) hx hb dX3_begin_6 (by decide) (fun c_1 => ?_) (fun c_1 => ?_)
  · skip
    have z_1 := (nI_ltI (a := pc) (b := 12) (by omega) (by omega)).mp c_1
    refine lv_aload_n hx hb dX3_begin_11 rfl (lv_at hl 0 rfl) ?_
    refine va_get (D := G) (ci := 2) (v := .ref (q 7)) (C := RX3) (T := TX3) (N := 7) hx hb hts hi_X3 hown hK hP 0 rfl rfl 0 (by decide) f_9 (fun _ h9 => h9) rfl dX3_begin_12 ?_
    refine lv_aload_n hx hb dX3_begin_15 rfl (lv_at hl 0 rfl) ?_
    refine va_get (D := G) (ci := 2) (v := .int (nI pc)) (C := RX3) (T := TX3) (N := 7) hx hb hts hi_X3 hown hK hP 0 rfl rfl 5 (by decide) f_25 (fun _ h9 => h9) rfl dX3_begin_16 ?_
    refine lv_iload_n hx hb dX3_begin_19 rfl (lv_at hl 1 rfl) ?_
    refine va_iast hx hb hK hP hD hS 1 0 rfl rfl (vp_in_nI (by omega) (by omega)) dX3_begin_20 (fun H locs hP hD hS => ?_)
    rw [nI_clamp (by omega)] at hP hD
    have hP : va_P G vwCl [(q 6, .inr (2, [.ref (q 7), .ref (q 8), .ref (q 9), .ref (q 10), .ref (q 11), .int (nI pc), .int (nI ic)])), aI ci (q 7) 12 (upd nu pc x), aI ci (q 8) 12 ad, aI ci (q 9) 12 fi, aI ci (q 10) 12 co, aI ci (q 11) 1400 it] H := hP
    have hD : va_D A [(q 6, .inr (2, [.ref (q 7), .ref (q 8), .ref (q 9), .ref (q 10), .ref (q 11), .int (nI pc), .int (nI ic)])), aI ci (q 7) 12 (upd nu pc x), aI ci (q 8) 12 ad, aI ci (q 9) 12 fi, aI ci (q 10) 12 co, aI ci (q 11) 1400 it] := hD
    refine lv_aload_n hx hb dX3_begin_21 rfl (lv_at hl 0 rfl) ?_
    refine va_get (D := G) (ci := 2) (v := .ref (q 8)) (C := RX3) (T := TX3) (N := 7) hx hb hts hi_X3 hown hK hP 0 rfl rfl 1 (by decide) f_13 (fun _ h9 => h9) rfl dX3_begin_22 ?_
    refine lv_aload_n hx hb dX3_begin_25 rfl (lv_at hl 0 rfl) ?_
    refine va_get (D := G) (ci := 2) (v := .int (nI pc)) (C := RX3) (T := TX3) (N := 7) hx hb hts hi_X3 hown hK hP 0 rfl rfl 5 (by decide) f_25 (fun _ h9 => h9) rfl dX3_begin_26 ?_
    refine lv_iload_n hx hb dX3_begin_29 rfl (lv_at hl 2 rfl) ?_
    refine va_iast hx hb hK hP hD hS 2 0 rfl rfl (vp_in_nI (by omega) (by omega)) dX3_begin_30 (fun H locs hP hD hS => ?_)
    rw [nI_clamp (by omega)] at hP hD
    have hP : va_P G vwCl [(q 6, .inr (2, [.ref (q 7), .ref (q 8), .ref (q 9), .ref (q 10), .ref (q 11), .int (nI pc), .int (nI ic)])), aI ci (q 7) 12 (upd nu pc x), aI ci (q 8) 12 (upd ad pc (nI a)), aI ci (q 9) 12 fi, aI ci (q 10) 12 co, aI ci (q 11) 1400 it] H := hP
    have hD : va_D A [(q 6, .inr (2, [.ref (q 7), .ref (q 8), .ref (q 9), .ref (q 10), .ref (q 11), .int (nI pc), .int (nI ic)])), aI ci (q 7) 12 (upd nu pc x), aI ci (q 8) 12 (upd ad pc (nI a)), aI ci (q 9) 12 fi, aI ci (q 10) 12 co, aI ci (q 11) 1400 it] := hD
    refine lv_aload_n hx hb dX3_begin_31 rfl (lv_at hl 0 rfl) ?_
    refine va_get (D := G) (ci := 2) (v := .ref (q 9)) (C := RX3) (T := TX3) (N := 7) hx hb hts hi_X3 hown hK hP 0 rfl rfl 2 (by decide) f_16 (fun _ h9 => h9) rfl dX3_begin_32 ?_
    refine lv_aload_n hx hb dX3_begin_35 rfl (lv_at hl 0 rfl) ?_
    refine va_get (D := G) (ci := 2) (v := .int (nI pc)) (C := RX3) (T := TX3) (N := 7) hx hb hts hi_X3 hown hK hP 0 rfl rfl 5 (by decide) f_25 (fun _ h9 => h9) rfl dX3_begin_36 ?_
    refine lv_aload_n hx hb dX3_begin_39 rfl (lv_at hl 0 rfl) ?_
    refine va_get (D := G) (ci := 2) (v := .int (nI ic)) (C := RX3) (T := TX3) (N := 7) hx hb hts hi_X3 hown hK hP 0 rfl rfl 6 (by decide) f_29 (fun _ h9 => h9) rfl dX3_begin_40 ?_
    refine va_iast hx hb hK hP hD hS 3 0 rfl rfl (vp_in_nI (by omega) (by omega)) dX3_begin_43 (fun H locs hP hD hS => ?_)
    rw [nI_clamp (by omega)] at hP hD
    have hP : va_P G vwCl [(q 6, .inr (2, [.ref (q 7), .ref (q 8), .ref (q 9), .ref (q 10), .ref (q 11), .int (nI pc), .int (nI ic)])), aI ci (q 7) 12 (upd nu pc x), aI ci (q 8) 12 (upd ad pc (nI a)), aI ci (q 9) 12 (upd fi pc (nI ic)), aI ci (q 10) 12 co, aI ci (q 11) 1400 it] H := hP
    have hD : va_D A [(q 6, .inr (2, [.ref (q 7), .ref (q 8), .ref (q 9), .ref (q 10), .ref (q 11), .int (nI pc), .int (nI ic)])), aI ci (q 7) 12 (upd nu pc x), aI ci (q 8) 12 (upd ad pc (nI a)), aI ci (q 9) 12 (upd fi pc (nI ic)), aI ci (q 10) 12 co, aI ci (q 11) 1400 it] := hD
    refine lv_aload_n hx hb dX3_begin_44 rfl (lv_at hl 0 rfl) ?_
    refine va_get (D := G) (ci := 2) (v := .ref (q 10)) (C := RX3) (T := TX3) (N := 7) hx hb hts hi_X3 hown hK hP 0 rfl rfl 3 (by decide) f_19 (fun _ h9 => h9) rfl dX3_begin_45 ?_
    refine lv_aload_n hx hb dX3_begin_48 rfl (lv_at hl 0 rfl) ?_
    refine va_get (D := G) (ci := 2) (v := .int (nI pc)) (C := RX3) (T := TX3) (N := 7) hx hb hts hi_X3 hown hK hP 0 rfl rfl 5 (by decide) f_25 (fun _ h9 => h9) rfl dX3_begin_49 ?_
    refine lv_iconst (v := nI 0) hx hb dX3_begin_52 (by decide) ?_
    refine va_iast hx hb hK hP hD hS 4 0 rfl rfl (vp_in_nI (by omega) (by omega)) dX3_begin_53 (fun H locs hP hD hS => ?_)
    rw [nI_clamp (by omega)] at hP hD
    have hP : va_P G vwCl [(q 6, .inr (2, [.ref (q 7), .ref (q 8), .ref (q 9), .ref (q 10), .ref (q 11), .int (nI pc), .int (nI ic)])), aI ci (q 7) 12 (upd nu pc x), aI ci (q 8) 12 (upd ad pc (nI a)), aI ci (q 9) 12 (upd fi pc (nI ic)), aI ci (q 10) 12 (upd co pc (nI 0)), aI ci (q 11) 1400 it] H := hP
    have hD : va_D A [(q 6, .inr (2, [.ref (q 7), .ref (q 8), .ref (q 9), .ref (q 10), .ref (q 11), .int (nI pc), .int (nI ic)])), aI ci (q 7) 12 (upd nu pc x), aI ci (q 8) 12 (upd ad pc (nI a)), aI ci (q 9) 12 (upd fi pc (nI ic)), aI ci (q 10) 12 (upd co pc (nI 0)), aI ci (q 11) 1400 it] := hD
    refine lv_aload_n hx hb dX3_begin_54 rfl (lv_at hl 0 rfl) ?_
    refine lv_dup hx hb dX3_begin_55 rfl ?_
    refine va_get (D := G) (ci := 2) (v := .int (nI pc)) (C := RX3) (T := TX3) (N := 7) hx hb hts hi_X3 hown hK hP 0 rfl rfl 5 (by decide) f_25 (fun _ h9 => h9) rfl dX3_begin_56 ?_
    refine lv_iconst (v := nI 1) hx hb dX3_begin_59 (by decide) ?_
    refine lv_iadd hx hb dX3_begin_60 ?_
    refine tp (nI_add _ _) ?_
    refine va_put (D := G) (ci := 2) (v := .int (nI (pc + 1))) (ty := .int) (C := RX3) (T := TX3) (N := 7) hx hb hts hi_X3 tyX3 tyX3_ok nmX3 hown hK hP hD hS 0 rfl rfl 5 (by decide) f_25 (fun _ h9 => h9) rfl (by decide +kernel) rfl rfl (Nat.le_of_ble_eq_true rfl) dX3_begin_61 (fun H locs hP hD hS => ?_)
    have hP : va_P G vwCl [(q 6, .inr (2, [.ref (q 7), .ref (q 8), .ref (q 9), .ref (q 10), .ref (q 11), .int (nI (pc + 1)), .int (nI ic)])), aI ci (q 7) 12 (upd nu pc x), aI ci (q 8) 12 (upd ad pc (nI a)), aI ci (q 9) 12 (upd fi pc (nI ic)), aI ci (q 10) 12 (upd co pc (nI 0)), aI ci (q 11) 1400 it] H := hP
    have hD : va_D A [(q 6, .inr (2, [.ref (q 7), .ref (q 8), .ref (q 9), .ref (q 10), .ref (q 11), .int (nI (pc + 1)), .int (nI ic)])), aI ci (q 7) 12 (upd nu pc x), aI ci (q 8) 12 (upd ad pc (nI a)), aI ci (q 9) 12 (upd fi pc (nI ic)), aI ci (q 10) 12 (upd co pc (nI 0)), aI ci (q 11) 1400 it] := hD
    refine lv_iconst (v := nI 1) hx hb dX3_begin_64 (by decide) ?_
    exact rI (v := nI 1) hx hb hr hlocks nb1 hK hP hD hS [0, 1, 2, 3, 4, 5] (1, pc + 1, upd nu pc x, upd ad pc (nI a), upd fi pc (nI ic), upd co pc (nI 0)) rfl (by decide) ⟨rfl, Or.inl ⟨rfl, rfl, rfl, rfl, rfl, rfl, by (try dsimp only); omega⟩, PI_begin hPI⟩ dX3_begin_65
  · skip
    have z_1 := mt (nI_ltI (a := pc) (b := 12) (by omega) (by omega)).mpr c_1
    refine lv_iconst (v := nI 0) hx hb dX3_begin_9 (by decide) ?_
    exact rI (v := nI 0) hx hb hr hlocks nb0 hK hP hD hS [0, 1, 2, 3, 4, 5] (0, pc, nu, ad, fi, co) rfl (by decide) ⟨rfl, Or.inr ⟨rfl, rfl, rfl, rfl, rfl, rfl, by (try dsimp only); omega⟩, hPI⟩ dX3_begin_10
set_option maxHeartbeats 4000000 in
set_option maxRecDepth 100000 in
theorem c_X3_place (l : Launch) (G : va_G) (ci cz cl : ClassId) (q : Nat → Nat) (sz : Nat) (x : Int32) (y : Int32) (z : Int32) (pc : Nat) (ic : Nat) (nu : Nat → Int32) (ad : Nat → Int32) (fi : Nat → Int32) (co : Nat → Int32) (it : Nat → Int32) (kc : Nat) (dp : Nat) (fo : Int32) (sl : Int32) (now : Nat → Int32) (kept : Nat → Int32) (hpc : pc ≤ 12) (hic : ic ≤ 200) (hPI : PI pc ic fi co) : CtI l yX3_place wsX3_place ({ frames := 1, cells := 0, slots := 0, locals := 21 }) G (TY ci cz cl) O0 [.ref (q 6), .int x, .int y, .int z, .ref (q 17)] [(q 6, .inr (2, [.ref (q 7), .ref (q 8), .ref (q 9), .ref (q 10), .ref (q 11), .int (nI pc), .int (nI ic)])), aI ci (q 7) 12 nu, aI ci (q 8) 12 ad, aI ci (q 9) 12 fi, aI ci (q 10) 12 co, aI ci (q 11) 1400 it, (q 17, .inr (4, [.ref (q 5), .ref (q 18), .ref (q 19), .int (nI kc), .int (nI dp), .int fo, .int sl])), aI ci (q 18) 8 now, aI ci (q 19) 160 kept] sz (fun (r : Int32) (u : Nat × Nat × (Nat → Int32) × (Nat → Int32)) => r = nI u.1 ∧ ((u.1 = 1 ∧ ic + 1 = u.2.1 ∧ upd co (pc - 1) (co (pc - 1) + nI 1) = u.2.2.1 ∧ 0 < pc ∧ ic < 200 ∧ QPut ic now it u.2.2.2) ∨ (u.1 = 0 ∧ ic = u.2.1 ∧ co = u.2.2.1 ∧ it = u.2.2.2 ∧ (pc = 0 ∨ 200 ≤ ic))) ∧ PI pc u.2.1 fi u.2.2.1) (fun u : Nat × Nat × (Nat → Int32) × (Nat → Int32) => [(q 6, .inr (2, [.ref (q 7), .ref (q 8), .ref (q 9), .ref (q 10), .ref (q 11), .int (nI pc), .int (nI u.2.1)])), aI ci (q 7) 12 nu, aI ci (q 8) 12 ad, aI ci (q 9) 12 fi, aI ci (q 10) 12 u.2.2.1, aI ci (q 11) 1400 u.2.2.2, (q 17, .inr (4, [.ref (q 5), .ref (q 18), .ref (q 19), .int (nI kc), .int (nI dp), .int fo, .int sl])), aI ci (q 18) 8 now, aI ci (q 19) 160 kept]) 0 0 := by
  refine Met.ofW (cc := cX3_place) (maxL := 6) (ret := (some .boolean)) (by decide) rfl ?_
  intro p e s m args below meth c s₁ B hml hv
  obtain ⟨rfl, ⟨hsz, hP, hK, hD0⟩, hO⟩ := hv
  have hx := B.exec
  have hb := B.bytes
  have hr := B.returns
  have hts := atoms_spec (ws := wsX3_place) B.pre
  have hown : s.vm.findClass RX3 = some m.cls := findClass_of_methodNamed B.named
  have hlocks := B.notSynchronized
  subst hsz
  have hD := hD0.self (sz := s.heap.size)
  generalize hAe : va_A [(q 6, .inr (2, [.ref (q 7), .ref (q 8), .ref (q 9), .ref (q 10), .ref (q 11), .int (nI pc), .int (nI ic)])), aI ci (q 7) 12 nu, aI ci (q 8) 12 ad, aI ci (q 9) 12 fi, aI ci (q 10) 12 co, aI ci (q 11) 1400 it, (q 17, .inr (4, [.ref (q 5), .ref (q 18), .ref (q 19), .int (nI kc), .int (nI dp), .int fo, .int sl])), aI ci (q 18) 8 now, aI ci (q 19) 160 kept] s.heap.size = A at hD hO ⊢
  have hA : ∀ q : Nat, s.heap.size ≤ q → A q := fun q h => by rw [← hAe]; exact Or.inr h
  have ok := ok0
  refine startH (A := A) (fun H locs hP hS => ?_) hP
  have hi_X3 := (by decide +kernel : ∀ w ∈ wsX30, w ∈ wsX3_place)
  have f_25 := hts (.fieldLink RX3 25 "PageReader$Pages" "count" "I") (by decide +kernel)
  have f_29 := hts (.fieldLink RX3 29 "PageReader$Pages" "itemCount" "I") (by decide +kernel)
  have f_22 := hts (.fieldLink RX3 22 "PageReader$Pages" "items" "[I") (by decide +kernel)
  have f_19 := hts (.fieldLink RX3 19 "PageReader$Pages" "itemCounts" "[I") (by decide +kernel)
  have hl := lv_entry ([.ref (q 6), .int x, .int y, .int z, .ref (q 17)]) (n := 6) (Nat.le_of_ble_eq_true rfl)
  rw [lg_entry_eq]
  generalize (lg_sl ([.ref (q 6), .int x, .int y, .int z, .ref (q 17)]) ++ List.replicate (6 - (lg_sl ([.ref (q 6), .int x, .int y, .int z, .ref (q 17)])).length) Slot.unset).toArray = ls at hl ⊢
  have hl : lv_has ls 6 [(0, .ref (q 6)), (1, .int x), (2, .int y), (3, .int z), (4, .ref (q 17))] := hl
  refine lv_aload_n hx hb dX3_place_0 rfl (lv_at hl 0 rfl) ?_
  refine va_get (D := G) (ci := 2) (v := .int (nI pc)) (C := RX3) (T := TX3) (N := 7) hx hb hts hi_X3 hown hK hP 0 rfl rfl 5 (by decide) f_25 (fun _ h9 => h9) rfl dX3_place_1 ?_
  refine lv_if_eq (tgt := 17) hx hb dX3_place_4 (by decide) (fun c_1 => ?_) (fun c_1 => ?_)
  · skip
    have z_1 := (nI_eq (a := pc) (b := 0) (by omega) (by omega)).mp c_1
    refine lv_iconst (v := nI 0) hx hb dX3_place_17 (by decide) ?_
    exact rI (v := nI 0) hx hb hr hlocks nb0 hK hP hD hS [0, 1, 2, 3, 4, 5, 6, 7, 8] (0, ic, co, it) rfl (by decide) ⟨rfl, Or.inr ⟨rfl, rfl, rfl, rfl, by (try dsimp only); omega⟩, hPI⟩ dX3_place_18
  · skip
    have z_1 := mt (nI_eq (a := pc) (b := 0) (by omega) (by omega)).mpr c_1
    refine lv_aload_n hx hb dX3_place_7 rfl (lv_at hl 0 rfl) ?_
    refine va_get (D := G) (ci := 2) (v := .int (nI ic)) (C := RX3) (T := TX3) (N := 7) hx hb hts hi_X3 hown hK hP 0 rfl rfl 6 (by decide) f_29 (fun _ h9 => h9) rfl dX3_place_8 ?_
    refine lv_sipush (v := nI 200) hx hb dX3_place_11 (by decide) ?_
    refine lv_icmp_lt (tgt := 19) hx hb dX3_place_14 (by decide) (fun c_2 => ?_) (fun c_2 => ?_)
    · skip
      have z_2 := (nI_ltI (a := ic) (b := 200) (by omega) (by omega)).mp c_2
      refine lv_aload_n hx hb dX3_place_19 rfl (lv_at hl 0 rfl) ?_
      refine va_get (D := G) (ci := 2) (v := .int (nI ic)) (C := RX3) (T := TX3) (N := 7) hx hb hts hi_X3 hown hK hP 0 rfl rfl 6 (by decide) f_29 (fun _ h9 => h9) rfl dX3_place_20 ?_
      refine lv_bipush (v := nI 7) hx hb dX3_place_23 (by decide) ?_
      refine lv_imul hx hb dX3_place_25 ?_
      refine tp (pk_mul _ _) ?_
      refine lv_istore (lv' := [(5, .int (nI (ic * 7))), (0, .ref (q 6)), (1, .int x), (2, .int y), (3, .int z), (4, .ref (q 17))]) hx hb dX3_place_26 hl (by decide) rfl (fun ls hl => ?_)
      refine lv_aload_n hx hb dX3_place_28 rfl (lv_at hl 1 rfl) ?_
      refine va_get (D := G) (ci := 2) (v := .ref (q 11)) (C := RX3) (T := TX3) (N := 7) hx hb hts hi_X3 hown hK hP 0 rfl rfl 4 (by decide) f_22 (fun _ h9 => h9) rfl dX3_place_29 ?_
      refine lv_iload hx hb dX3_place_32 (lv_at hl 0 rfl) ?_
      refine lv_iconst (v := nI 0) hx hb dX3_place_34 (by decide) ?_
      refine lv_iadd hx hb dX3_place_35 ?_
      refine tp (nI_add _ _) ?_
      refine lv_iload_n hx hb dX3_place_36 rfl (lv_at hl 2 rfl) ?_
      refine va_iast hx hb hK hP hD hS 5 0 rfl rfl (vp_in_nI (by omega) (by omega)) dX3_place_37 (fun H locs hP hD hS => ?_)
      rw [nI_clamp (by omega)] at hP hD
      have hP : va_P G vwCl [(q 6, .inr (2, [.ref (q 7), .ref (q 8), .ref (q 9), .ref (q 10), .ref (q 11), .int (nI pc), .int (nI ic)])), aI ci (q 7) 12 nu, aI ci (q 8) 12 ad, aI ci (q 9) 12 fi, aI ci (q 10) 12 co, aI ci (q 11) 1400 (upd it ((ic * 7) + 0) x), (q 17, .inr (4, [.ref (q 5), .ref (q 18), .ref (q 19), .int (nI kc), .int (nI dp), .int fo, .int sl])), aI ci (q 18) 8 now, aI ci (q 19) 160 kept] H := hP
      have hD : va_D A [(q 6, .inr (2, [.ref (q 7), .ref (q 8), .ref (q 9), .ref (q 10), .ref (q 11), .int (nI pc), .int (nI ic)])), aI ci (q 7) 12 nu, aI ci (q 8) 12 ad, aI ci (q 9) 12 fi, aI ci (q 10) 12 co, aI ci (q 11) 1400 (upd it ((ic * 7) + 0) x), (q 17, .inr (4, [.ref (q 5), .ref (q 18), .ref (q 19), .int (nI kc), .int (nI dp), .int fo, .int sl])), aI ci (q 18) 8 now, aI ci (q 19) 160 kept] := hD
      refine lv_aload_n hx hb dX3_place_38 rfl (lv_at hl 1 rfl) ?_
      refine va_get (D := G) (ci := 2) (v := .ref (q 11)) (C := RX3) (T := TX3) (N := 7) hx hb hts hi_X3 hown hK hP 0 rfl rfl 4 (by decide) f_22 (fun _ h9 => h9) rfl dX3_place_39 ?_
      refine lv_iload hx hb dX3_place_42 (lv_at hl 0 rfl) ?_
      refine lv_iconst (v := nI 1) hx hb dX3_place_44 (by decide) ?_
      refine lv_iadd hx hb dX3_place_45 ?_
      refine tp (nI_add _ _) ?_
      refine lv_iload_n hx hb dX3_place_46 rfl (lv_at hl 3 rfl) ?_
      refine va_iast hx hb hK hP hD hS 5 0 rfl rfl (vp_in_nI (by omega) (by omega)) dX3_place_47 (fun H locs hP hD hS => ?_)
      rw [nI_clamp (by omega)] at hP hD
      have hP : va_P G vwCl [(q 6, .inr (2, [.ref (q 7), .ref (q 8), .ref (q 9), .ref (q 10), .ref (q 11), .int (nI pc), .int (nI ic)])), aI ci (q 7) 12 nu, aI ci (q 8) 12 ad, aI ci (q 9) 12 fi, aI ci (q 10) 12 co, aI ci (q 11) 1400 (upd (upd it ((ic * 7) + 0) x) ((ic * 7) + 1) y), (q 17, .inr (4, [.ref (q 5), .ref (q 18), .ref (q 19), .int (nI kc), .int (nI dp), .int fo, .int sl])), aI ci (q 18) 8 now, aI ci (q 19) 160 kept] H := hP
      have hD : va_D A [(q 6, .inr (2, [.ref (q 7), .ref (q 8), .ref (q 9), .ref (q 10), .ref (q 11), .int (nI pc), .int (nI ic)])), aI ci (q 7) 12 nu, aI ci (q 8) 12 ad, aI ci (q 9) 12 fi, aI ci (q 10) 12 co, aI ci (q 11) 1400 (upd (upd it ((ic * 7) + 0) x) ((ic * 7) + 1) y), (q 17, .inr (4, [.ref (q 5), .ref (q 18), .ref (q 19), .int (nI kc), .int (nI dp), .int fo, .int sl])), aI ci (q 18) 8 now, aI ci (q 19) 160 kept] := hD
      refine lv_aload_n hx hb dX3_place_48 rfl (lv_at hl 1 rfl) ?_
      refine va_get (D := G) (ci := 2) (v := .ref (q 11)) (C := RX3) (T := TX3) (N := 7) hx hb hts hi_X3 hown hK hP 0 rfl rfl 4 (by decide) f_22 (fun _ h9 => h9) rfl dX3_place_49 ?_
      refine lv_iload hx hb dX3_place_52 (lv_at hl 0 rfl) ?_
      refine lv_iconst (v := nI 2) hx hb dX3_place_54 (by decide) ?_
      refine lv_iadd hx hb dX3_place_55 ?_
      refine tp (nI_add _ _) ?_
      refine lv_aload hx hb dX3_place_56 (lv_at hl 5 rfl) ?_
      refine lv_iconst (v := nI 0) hx hb dX3_place_58 (by decide) ?_
      refine jI (va_runV (As := [.int (nI 0)]) (rest := [.int (nI ((ic * 7) + 2)), .ref (q 11)]) ⟨hx, hb, hml, hown, hts⟩ (c_X5_part l G ci cz cl q H.size 0 kc dp fo sl now kept (by omega)) (cwV 1 hts gX3_place_X5_part rfl rfl rfl (by decide +kernel) ⟨(Nat.le_of_ble_eq_true rfl), (Nat.le_of_ble_eq_true rfl)⟩) (pV (wc := [(q 17, .inr (4, [.ref (q 5), .ref (q 18), .ref (q 19), .int (nI kc), .int (nI dp), .int fo, .int sl])), aI ci (q 18) 8 now, aI ci (q 19) 160 kept]) ok hK hP hD hS hA hO [6, 7, 8] rfl (by decide) 6 rfl rfl) rfl rfl hl.1 rfl (lv_room (Nat.le_of_ble_eq_true rfl)) dX3_place_59 ⟨(Nat.le_of_ble_eq_true rfl), (Nat.le_of_ble_eq_true rfl)⟩) (wr := [(q 6, .inr (2, [.ref (q 7), .ref (q 8), .ref (q 9), .ref (q 10), .ref (q 11), .int (nI pc), .int (nI ic)])), aI ci (q 7) 12 nu, aI ci (q 8) 12 ad, aI ci (q 9) 12 fi, aI ci (q 10) 12 co, aI ci (q 11) 1400 (upd (upd it ((ic * 7) + 0) x) ((ic * 7) + 1) y)]) hP hD hS hA [6, 7, 8] [0, 1, 2, 3, 4, 5] rfl rfl (by decide) (by decide) (fun r_3 u H locs hw_3 hP hD hS => ?_)
      try dsimp only at hw_3
      obtain rfl := hw_3
      have hP : va_P G vwCl [(q 6, .inr (2, [.ref (q 7), .ref (q 8), .ref (q 9), .ref (q 10), .ref (q 11), .int (nI pc), .int (nI ic)])), aI ci (q 7) 12 nu, aI ci (q 8) 12 ad, aI ci (q 9) 12 fi, aI ci (q 10) 12 co, aI ci (q 11) 1400 (upd (upd it ((ic * 7) + 0) x) ((ic * 7) + 1) y), (q 17, .inr (4, [.ref (q 5), .ref (q 18), .ref (q 19), .int (nI kc), .int (nI dp), .int fo, .int sl])), aI ci (q 18) 8 now, aI ci (q 19) 160 kept] H := hP
      have hD : va_D A [(q 6, .inr (2, [.ref (q 7), .ref (q 8), .ref (q 9), .ref (q 10), .ref (q 11), .int (nI pc), .int (nI ic)])), aI ci (q 7) 12 nu, aI ci (q 8) 12 ad, aI ci (q 9) 12 fi, aI ci (q 10) 12 co, aI ci (q 11) 1400 (upd (upd it ((ic * 7) + 0) x) ((ic * 7) + 1) y), (q 17, .inr (4, [.ref (q 5), .ref (q 18), .ref (q 19), .int (nI kc), .int (nI dp), .int fo, .int sl])), aI ci (q 18) 8 now, aI ci (q 19) 160 kept] := hD
      refine va_iast hx hb hK hP hD hS 5 0 rfl rfl (vp_in_nI (by omega) (by omega)) dX3_place_62 (fun H locs hP hD hS => ?_)
      rw [nI_clamp (by omega)] at hP hD
      have hP : va_P G vwCl [(q 6, .inr (2, [.ref (q 7), .ref (q 8), .ref (q 9), .ref (q 10), .ref (q 11), .int (nI pc), .int (nI ic)])), aI ci (q 7) 12 nu, aI ci (q 8) 12 ad, aI ci (q 9) 12 fi, aI ci (q 10) 12 co, aI ci (q 11) 1400 (upd (upd (upd it ((ic * 7) + 0) x) ((ic * 7) + 1) y) ((ic * 7) + 2) (now 0)), (q 17, .inr (4, [.ref (q 5), .ref (q 18), .ref (q 19), .int (nI kc), .int (nI dp), .int fo, .int sl])), aI ci (q 18) 8 now, aI ci (q 19) 160 kept] H := hP
      have hD : va_D A [(q 6, .inr (2, [.ref (q 7), .ref (q 8), .ref (q 9), .ref (q 10), .ref (q 11), .int (nI pc), .int (nI ic)])), aI ci (q 7) 12 nu, aI ci (q 8) 12 ad, aI ci (q 9) 12 fi, aI ci (q 10) 12 co, aI ci (q 11) 1400 (upd (upd (upd it ((ic * 7) + 0) x) ((ic * 7) + 1) y) ((ic * 7) + 2) (now 0)), (q 17, .inr (4, [.ref (q 5), .ref (q 18), .ref (q 19), .int (nI kc), .int (nI dp), .int fo, .int sl])), aI ci (q 18) 8 now, aI ci (q 19) 160 kept] := hD
      refine lv_aload_n hx hb dX3_place_63 rfl (lv_at hl 1 rfl) ?_
      refine va_get (D := G) (ci := 2) (v := .ref (q 11)) (C := RX3) (T := TX3) (N := 7) hx hb hts hi_X3 hown hK hP 0 rfl rfl 4 (by decide) f_22 (fun _ h9 => h9) rfl dX3_place_64 ?_
      refine lv_iload hx hb dX3_place_67 (lv_at hl 0 rfl) ?_
      refine lv_iconst (v := nI 3) hx hb dX3_place_69 (by decide) ?_
      refine lv_iadd hx hb dX3_place_70 ?_
      refine tp (nI_add _ _) ?_
      refine lv_aload hx hb dX3_place_71 (lv_at hl 5 rfl) ?_
      refine lv_iconst (v := nI 1) hx hb dX3_place_73 (by decide) ?_
      refine jI (va_runV (As := [.int (nI 1)]) (rest := [.int (nI ((ic * 7) + 3)), .ref (q 11)]) ⟨hx, hb, hml, hown, hts⟩ (c_X5_part l G ci cz cl q H.size 1 kc dp fo sl now kept (by omega)) (cwV 1 hts gX3_place_X5_part rfl rfl rfl (by decide +kernel) ⟨(Nat.le_of_ble_eq_true rfl), (Nat.le_of_ble_eq_true rfl)⟩) (pV (wc := [(q 17, .inr (4, [.ref (q 5), .ref (q 18), .ref (q 19), .int (nI kc), .int (nI dp), .int fo, .int sl])), aI ci (q 18) 8 now, aI ci (q 19) 160 kept]) ok hK hP hD hS hA hO [6, 7, 8] rfl (by decide) 6 rfl rfl) rfl rfl hl.1 rfl (lv_room (Nat.le_of_ble_eq_true rfl)) dX3_place_74 ⟨(Nat.le_of_ble_eq_true rfl), (Nat.le_of_ble_eq_true rfl)⟩) (wr := [(q 6, .inr (2, [.ref (q 7), .ref (q 8), .ref (q 9), .ref (q 10), .ref (q 11), .int (nI pc), .int (nI ic)])), aI ci (q 7) 12 nu, aI ci (q 8) 12 ad, aI ci (q 9) 12 fi, aI ci (q 10) 12 co, aI ci (q 11) 1400 (upd (upd (upd it ((ic * 7) + 0) x) ((ic * 7) + 1) y) ((ic * 7) + 2) (now 0))]) hP hD hS hA [6, 7, 8] [0, 1, 2, 3, 4, 5] rfl rfl (by decide) (by decide) (fun r_4 u H locs hw_4 hP hD hS => ?_)
      try dsimp only at hw_4
      obtain rfl := hw_4
      have hP : va_P G vwCl [(q 6, .inr (2, [.ref (q 7), .ref (q 8), .ref (q 9), .ref (q 10), .ref (q 11), .int (nI pc), .int (nI ic)])), aI ci (q 7) 12 nu, aI ci (q 8) 12 ad, aI ci (q 9) 12 fi, aI ci (q 10) 12 co, aI ci (q 11) 1400 (upd (upd (upd it ((ic * 7) + 0) x) ((ic * 7) + 1) y) ((ic * 7) + 2) (now 0)), (q 17, .inr (4, [.ref (q 5), .ref (q 18), .ref (q 19), .int (nI kc), .int (nI dp), .int fo, .int sl])), aI ci (q 18) 8 now, aI ci (q 19) 160 kept] H := hP
      have hD : va_D A [(q 6, .inr (2, [.ref (q 7), .ref (q 8), .ref (q 9), .ref (q 10), .ref (q 11), .int (nI pc), .int (nI ic)])), aI ci (q 7) 12 nu, aI ci (q 8) 12 ad, aI ci (q 9) 12 fi, aI ci (q 10) 12 co, aI ci (q 11) 1400 (upd (upd (upd it ((ic * 7) + 0) x) ((ic * 7) + 1) y) ((ic * 7) + 2) (now 0)), (q 17, .inr (4, [.ref (q 5), .ref (q 18), .ref (q 19), .int (nI kc), .int (nI dp), .int fo, .int sl])), aI ci (q 18) 8 now, aI ci (q 19) 160 kept] := hD
      refine va_iast hx hb hK hP hD hS 5 0 rfl rfl (vp_in_nI (by omega) (by omega)) dX3_place_77 (fun H locs hP hD hS => ?_)
      rw [nI_clamp (by omega)] at hP hD
      have hP : va_P G vwCl [(q 6, .inr (2, [.ref (q 7), .ref (q 8), .ref (q 9), .ref (q 10), .ref (q 11), .int (nI pc), .int (nI ic)])), aI ci (q 7) 12 nu, aI ci (q 8) 12 ad, aI ci (q 9) 12 fi, aI ci (q 10) 12 co, aI ci (q 11) 1400 (upd (upd (upd (upd it ((ic * 7) + 0) x) ((ic * 7) + 1) y) ((ic * 7) + 2) (now 0)) ((ic * 7) + 3) (now 1)), (q 17, .inr (4, [.ref (q 5), .ref (q 18), .ref (q 19), .int (nI kc), .int (nI dp), .int fo, .int sl])), aI ci (q 18) 8 now, aI ci (q 19) 160 kept] H := hP
      have hD : va_D A [(q 6, .inr (2, [.ref (q 7), .ref (q 8), .ref (q 9), .ref (q 10), .ref (q 11), .int (nI pc), .int (nI ic)])), aI ci (q 7) 12 nu, aI ci (q 8) 12 ad, aI ci (q 9) 12 fi, aI ci (q 10) 12 co, aI ci (q 11) 1400 (upd (upd (upd (upd it ((ic * 7) + 0) x) ((ic * 7) + 1) y) ((ic * 7) + 2) (now 0)) ((ic * 7) + 3) (now 1)), (q 17, .inr (4, [.ref (q 5), .ref (q 18), .ref (q 19), .int (nI kc), .int (nI dp), .int fo, .int sl])), aI ci (q 18) 8 now, aI ci (q 19) 160 kept] := hD
      refine lv_aload_n hx hb dX3_place_78 rfl (lv_at hl 1 rfl) ?_
      refine va_get (D := G) (ci := 2) (v := .ref (q 11)) (C := RX3) (T := TX3) (N := 7) hx hb hts hi_X3 hown hK hP 0 rfl rfl 4 (by decide) f_22 (fun _ h9 => h9) rfl dX3_place_79 ?_
      refine lv_iload hx hb dX3_place_82 (lv_at hl 0 rfl) ?_
      refine lv_iconst (v := nI 4) hx hb dX3_place_84 (by decide) ?_
      refine lv_iadd hx hb dX3_place_85 ?_
      refine tp (nI_add _ _) ?_
      refine lv_aload hx hb dX3_place_86 (lv_at hl 5 rfl) ?_
      refine lv_iconst (v := nI 2) hx hb dX3_place_88 (by decide) ?_
      refine jI (va_runV (As := [.int (nI 2)]) (rest := [.int (nI ((ic * 7) + 4)), .ref (q 11)]) ⟨hx, hb, hml, hown, hts⟩ (c_X5_part l G ci cz cl q H.size 2 kc dp fo sl now kept (by omega)) (cwV 1 hts gX3_place_X5_part rfl rfl rfl (by decide +kernel) ⟨(Nat.le_of_ble_eq_true rfl), (Nat.le_of_ble_eq_true rfl)⟩) (pV (wc := [(q 17, .inr (4, [.ref (q 5), .ref (q 18), .ref (q 19), .int (nI kc), .int (nI dp), .int fo, .int sl])), aI ci (q 18) 8 now, aI ci (q 19) 160 kept]) ok hK hP hD hS hA hO [6, 7, 8] rfl (by decide) 6 rfl rfl) rfl rfl hl.1 rfl (lv_room (Nat.le_of_ble_eq_true rfl)) dX3_place_89 ⟨(Nat.le_of_ble_eq_true rfl), (Nat.le_of_ble_eq_true rfl)⟩) (wr := [(q 6, .inr (2, [.ref (q 7), .ref (q 8), .ref (q 9), .ref (q 10), .ref (q 11), .int (nI pc), .int (nI ic)])), aI ci (q 7) 12 nu, aI ci (q 8) 12 ad, aI ci (q 9) 12 fi, aI ci (q 10) 12 co, aI ci (q 11) 1400 (upd (upd (upd (upd it ((ic * 7) + 0) x) ((ic * 7) + 1) y) ((ic * 7) + 2) (now 0)) ((ic * 7) + 3) (now 1))]) hP hD hS hA [6, 7, 8] [0, 1, 2, 3, 4, 5] rfl rfl (by decide) (by decide) (fun r_5 u H locs hw_5 hP hD hS => ?_)
      try dsimp only at hw_5
      obtain rfl := hw_5
      have hP : va_P G vwCl [(q 6, .inr (2, [.ref (q 7), .ref (q 8), .ref (q 9), .ref (q 10), .ref (q 11), .int (nI pc), .int (nI ic)])), aI ci (q 7) 12 nu, aI ci (q 8) 12 ad, aI ci (q 9) 12 fi, aI ci (q 10) 12 co, aI ci (q 11) 1400 (upd (upd (upd (upd it ((ic * 7) + 0) x) ((ic * 7) + 1) y) ((ic * 7) + 2) (now 0)) ((ic * 7) + 3) (now 1)), (q 17, .inr (4, [.ref (q 5), .ref (q 18), .ref (q 19), .int (nI kc), .int (nI dp), .int fo, .int sl])), aI ci (q 18) 8 now, aI ci (q 19) 160 kept] H := hP
      have hD : va_D A [(q 6, .inr (2, [.ref (q 7), .ref (q 8), .ref (q 9), .ref (q 10), .ref (q 11), .int (nI pc), .int (nI ic)])), aI ci (q 7) 12 nu, aI ci (q 8) 12 ad, aI ci (q 9) 12 fi, aI ci (q 10) 12 co, aI ci (q 11) 1400 (upd (upd (upd (upd it ((ic * 7) + 0) x) ((ic * 7) + 1) y) ((ic * 7) + 2) (now 0)) ((ic * 7) + 3) (now 1)), (q 17, .inr (4, [.ref (q 5), .ref (q 18), .ref (q 19), .int (nI kc), .int (nI dp), .int fo, .int sl])), aI ci (q 18) 8 now, aI ci (q 19) 160 kept] := hD
      refine va_iast hx hb hK hP hD hS 5 0 rfl rfl (vp_in_nI (by omega) (by omega)) dX3_place_92 (fun H locs hP hD hS => ?_)
      rw [nI_clamp (by omega)] at hP hD
      have hP : va_P G vwCl [(q 6, .inr (2, [.ref (q 7), .ref (q 8), .ref (q 9), .ref (q 10), .ref (q 11), .int (nI pc), .int (nI ic)])), aI ci (q 7) 12 nu, aI ci (q 8) 12 ad, aI ci (q 9) 12 fi, aI ci (q 10) 12 co, aI ci (q 11) 1400 (upd (upd (upd (upd (upd it ((ic * 7) + 0) x) ((ic * 7) + 1) y) ((ic * 7) + 2) (now 0)) ((ic * 7) + 3) (now 1)) ((ic * 7) + 4) (now 2)), (q 17, .inr (4, [.ref (q 5), .ref (q 18), .ref (q 19), .int (nI kc), .int (nI dp), .int fo, .int sl])), aI ci (q 18) 8 now, aI ci (q 19) 160 kept] H := hP
      have hD : va_D A [(q 6, .inr (2, [.ref (q 7), .ref (q 8), .ref (q 9), .ref (q 10), .ref (q 11), .int (nI pc), .int (nI ic)])), aI ci (q 7) 12 nu, aI ci (q 8) 12 ad, aI ci (q 9) 12 fi, aI ci (q 10) 12 co, aI ci (q 11) 1400 (upd (upd (upd (upd (upd it ((ic * 7) + 0) x) ((ic * 7) + 1) y) ((ic * 7) + 2) (now 0)) ((ic * 7) + 3) (now 1)) ((ic * 7) + 4) (now 2)), (q 17, .inr (4, [.ref (q 5), .ref (q 18), .ref (q 19), .int (nI kc), .int (nI dp), .int fo, .int sl])), aI ci (q 18) 8 now, aI ci (q 19) 160 kept] := hD
      refine lv_aload_n hx hb dX3_place_93 rfl (lv_at hl 1 rfl) ?_
      refine va_get (D := G) (ci := 2) (v := .ref (q 11)) (C := RX3) (T := TX3) (N := 7) hx hb hts hi_X3 hown hK hP 0 rfl rfl 4 (by decide) f_22 (fun _ h9 => h9) rfl dX3_place_94 ?_
      refine lv_iload hx hb dX3_place_97 (lv_at hl 0 rfl) ?_
      refine lv_iconst (v := nI 5) hx hb dX3_place_99 (by decide) ?_
      refine lv_iadd hx hb dX3_place_100 ?_
      refine tp (nI_add _ _) ?_
      refine lv_aload hx hb dX3_place_101 (lv_at hl 5 rfl) ?_
      refine lv_iconst (v := nI 3) hx hb dX3_place_103 (by decide) ?_
      refine jI (va_runV (As := [.int (nI 3)]) (rest := [.int (nI ((ic * 7) + 5)), .ref (q 11)]) ⟨hx, hb, hml, hown, hts⟩ (c_X5_part l G ci cz cl q H.size 3 kc dp fo sl now kept (by omega)) (cwV 1 hts gX3_place_X5_part rfl rfl rfl (by decide +kernel) ⟨(Nat.le_of_ble_eq_true rfl), (Nat.le_of_ble_eq_true rfl)⟩) (pV (wc := [(q 17, .inr (4, [.ref (q 5), .ref (q 18), .ref (q 19), .int (nI kc), .int (nI dp), .int fo, .int sl])), aI ci (q 18) 8 now, aI ci (q 19) 160 kept]) ok hK hP hD hS hA hO [6, 7, 8] rfl (by decide) 6 rfl rfl) rfl rfl hl.1 rfl (lv_room (Nat.le_of_ble_eq_true rfl)) dX3_place_104 ⟨(Nat.le_of_ble_eq_true rfl), (Nat.le_of_ble_eq_true rfl)⟩) (wr := [(q 6, .inr (2, [.ref (q 7), .ref (q 8), .ref (q 9), .ref (q 10), .ref (q 11), .int (nI pc), .int (nI ic)])), aI ci (q 7) 12 nu, aI ci (q 8) 12 ad, aI ci (q 9) 12 fi, aI ci (q 10) 12 co, aI ci (q 11) 1400 (upd (upd (upd (upd (upd it ((ic * 7) + 0) x) ((ic * 7) + 1) y) ((ic * 7) + 2) (now 0)) ((ic * 7) + 3) (now 1)) ((ic * 7) + 4) (now 2))]) hP hD hS hA [6, 7, 8] [0, 1, 2, 3, 4, 5] rfl rfl (by decide) (by decide) (fun r_6 u H locs hw_6 hP hD hS => ?_)
      try dsimp only at hw_6
      obtain rfl := hw_6
      have hP : va_P G vwCl [(q 6, .inr (2, [.ref (q 7), .ref (q 8), .ref (q 9), .ref (q 10), .ref (q 11), .int (nI pc), .int (nI ic)])), aI ci (q 7) 12 nu, aI ci (q 8) 12 ad, aI ci (q 9) 12 fi, aI ci (q 10) 12 co, aI ci (q 11) 1400 (upd (upd (upd (upd (upd it ((ic * 7) + 0) x) ((ic * 7) + 1) y) ((ic * 7) + 2) (now 0)) ((ic * 7) + 3) (now 1)) ((ic * 7) + 4) (now 2)), (q 17, .inr (4, [.ref (q 5), .ref (q 18), .ref (q 19), .int (nI kc), .int (nI dp), .int fo, .int sl])), aI ci (q 18) 8 now, aI ci (q 19) 160 kept] H := hP
      have hD : va_D A [(q 6, .inr (2, [.ref (q 7), .ref (q 8), .ref (q 9), .ref (q 10), .ref (q 11), .int (nI pc), .int (nI ic)])), aI ci (q 7) 12 nu, aI ci (q 8) 12 ad, aI ci (q 9) 12 fi, aI ci (q 10) 12 co, aI ci (q 11) 1400 (upd (upd (upd (upd (upd it ((ic * 7) + 0) x) ((ic * 7) + 1) y) ((ic * 7) + 2) (now 0)) ((ic * 7) + 3) (now 1)) ((ic * 7) + 4) (now 2)), (q 17, .inr (4, [.ref (q 5), .ref (q 18), .ref (q 19), .int (nI kc), .int (nI dp), .int fo, .int sl])), aI ci (q 18) 8 now, aI ci (q 19) 160 kept] := hD
      refine va_iast hx hb hK hP hD hS 5 0 rfl rfl (vp_in_nI (by omega) (by omega)) dX3_place_107 (fun H locs hP hD hS => ?_)
      rw [nI_clamp (by omega)] at hP hD
      have hP : va_P G vwCl [(q 6, .inr (2, [.ref (q 7), .ref (q 8), .ref (q 9), .ref (q 10), .ref (q 11), .int (nI pc), .int (nI ic)])), aI ci (q 7) 12 nu, aI ci (q 8) 12 ad, aI ci (q 9) 12 fi, aI ci (q 10) 12 co, aI ci (q 11) 1400 (upd (upd (upd (upd (upd (upd it ((ic * 7) + 0) x) ((ic * 7) + 1) y) ((ic * 7) + 2) (now 0)) ((ic * 7) + 3) (now 1)) ((ic * 7) + 4) (now 2)) ((ic * 7) + 5) (now 3)), (q 17, .inr (4, [.ref (q 5), .ref (q 18), .ref (q 19), .int (nI kc), .int (nI dp), .int fo, .int sl])), aI ci (q 18) 8 now, aI ci (q 19) 160 kept] H := hP
      have hD : va_D A [(q 6, .inr (2, [.ref (q 7), .ref (q 8), .ref (q 9), .ref (q 10), .ref (q 11), .int (nI pc), .int (nI ic)])), aI ci (q 7) 12 nu, aI ci (q 8) 12 ad, aI ci (q 9) 12 fi, aI ci (q 10) 12 co, aI ci (q 11) 1400 (upd (upd (upd (upd (upd (upd it ((ic * 7) + 0) x) ((ic * 7) + 1) y) ((ic * 7) + 2) (now 0)) ((ic * 7) + 3) (now 1)) ((ic * 7) + 4) (now 2)) ((ic * 7) + 5) (now 3)), (q 17, .inr (4, [.ref (q 5), .ref (q 18), .ref (q 19), .int (nI kc), .int (nI dp), .int fo, .int sl])), aI ci (q 18) 8 now, aI ci (q 19) 160 kept] := hD
      refine lv_aload_n hx hb dX3_place_108 rfl (lv_at hl 1 rfl) ?_
      refine va_get (D := G) (ci := 2) (v := .ref (q 11)) (C := RX3) (T := TX3) (N := 7) hx hb hts hi_X3 hown hK hP 0 rfl rfl 4 (by decide) f_22 (fun _ h9 => h9) rfl dX3_place_109 ?_
      refine lv_iload hx hb dX3_place_112 (lv_at hl 0 rfl) ?_
      refine lv_bipush (v := nI 6) hx hb dX3_place_114 (by decide) ?_
      refine lv_iadd hx hb dX3_place_116 ?_
      refine tp (nI_add _ _) ?_
      refine lv_iload_n hx hb dX3_place_117 rfl (lv_at hl 4 rfl) ?_
      refine va_iast hx hb hK hP hD hS 5 0 rfl rfl (vp_in_nI (by omega) (by omega)) dX3_place_118 (fun H locs hP hD hS => ?_)
      rw [nI_clamp (by omega)] at hP hD
      have hP : va_P G vwCl [(q 6, .inr (2, [.ref (q 7), .ref (q 8), .ref (q 9), .ref (q 10), .ref (q 11), .int (nI pc), .int (nI ic)])), aI ci (q 7) 12 nu, aI ci (q 8) 12 ad, aI ci (q 9) 12 fi, aI ci (q 10) 12 co, aI ci (q 11) 1400 (upd (upd (upd (upd (upd (upd (upd it ((ic * 7) + 0) x) ((ic * 7) + 1) y) ((ic * 7) + 2) (now 0)) ((ic * 7) + 3) (now 1)) ((ic * 7) + 4) (now 2)) ((ic * 7) + 5) (now 3)) ((ic * 7) + 6) z), (q 17, .inr (4, [.ref (q 5), .ref (q 18), .ref (q 19), .int (nI kc), .int (nI dp), .int fo, .int sl])), aI ci (q 18) 8 now, aI ci (q 19) 160 kept] H := hP
      have hD : va_D A [(q 6, .inr (2, [.ref (q 7), .ref (q 8), .ref (q 9), .ref (q 10), .ref (q 11), .int (nI pc), .int (nI ic)])), aI ci (q 7) 12 nu, aI ci (q 8) 12 ad, aI ci (q 9) 12 fi, aI ci (q 10) 12 co, aI ci (q 11) 1400 (upd (upd (upd (upd (upd (upd (upd it ((ic * 7) + 0) x) ((ic * 7) + 1) y) ((ic * 7) + 2) (now 0)) ((ic * 7) + 3) (now 1)) ((ic * 7) + 4) (now 2)) ((ic * 7) + 5) (now 3)) ((ic * 7) + 6) z), (q 17, .inr (4, [.ref (q 5), .ref (q 18), .ref (q 19), .int (nI kc), .int (nI dp), .int fo, .int sl])), aI ci (q 18) 8 now, aI ci (q 19) 160 kept] := hD
      refine lv_aload_n hx hb dX3_place_119 rfl (lv_at hl 1 rfl) ?_
      refine lv_dup hx hb dX3_place_120 rfl ?_
      refine va_get (D := G) (ci := 2) (v := .int (nI ic)) (C := RX3) (T := TX3) (N := 7) hx hb hts hi_X3 hown hK hP 0 rfl rfl 6 (by decide) f_29 (fun _ h9 => h9) rfl dX3_place_121 ?_
      refine lv_iconst (v := nI 1) hx hb dX3_place_124 (by decide) ?_
      refine lv_iadd hx hb dX3_place_125 ?_
      refine tp (nI_add _ _) ?_
      refine va_put (D := G) (ci := 2) (v := .int (nI (ic + 1))) (ty := .int) (C := RX3) (T := TX3) (N := 7) hx hb hts hi_X3 tyX3 tyX3_ok nmX3 hown hK hP hD hS 0 rfl rfl 6 (by decide) f_29 (fun _ h9 => h9) rfl (by decide +kernel) rfl rfl (Nat.le_of_ble_eq_true rfl) dX3_place_126 (fun H locs hP hD hS => ?_)
      have hP : va_P G vwCl [(q 6, .inr (2, [.ref (q 7), .ref (q 8), .ref (q 9), .ref (q 10), .ref (q 11), .int (nI pc), .int (nI (ic + 1))])), aI ci (q 7) 12 nu, aI ci (q 8) 12 ad, aI ci (q 9) 12 fi, aI ci (q 10) 12 co, aI ci (q 11) 1400 (upd (upd (upd (upd (upd (upd (upd it ((ic * 7) + 0) x) ((ic * 7) + 1) y) ((ic * 7) + 2) (now 0)) ((ic * 7) + 3) (now 1)) ((ic * 7) + 4) (now 2)) ((ic * 7) + 5) (now 3)) ((ic * 7) + 6) z), (q 17, .inr (4, [.ref (q 5), .ref (q 18), .ref (q 19), .int (nI kc), .int (nI dp), .int fo, .int sl])), aI ci (q 18) 8 now, aI ci (q 19) 160 kept] H := hP
      have hD : va_D A [(q 6, .inr (2, [.ref (q 7), .ref (q 8), .ref (q 9), .ref (q 10), .ref (q 11), .int (nI pc), .int (nI (ic + 1))])), aI ci (q 7) 12 nu, aI ci (q 8) 12 ad, aI ci (q 9) 12 fi, aI ci (q 10) 12 co, aI ci (q 11) 1400 (upd (upd (upd (upd (upd (upd (upd it ((ic * 7) + 0) x) ((ic * 7) + 1) y) ((ic * 7) + 2) (now 0)) ((ic * 7) + 3) (now 1)) ((ic * 7) + 4) (now 2)) ((ic * 7) + 5) (now 3)) ((ic * 7) + 6) z), (q 17, .inr (4, [.ref (q 5), .ref (q 18), .ref (q 19), .int (nI kc), .int (nI dp), .int fo, .int sl])), aI ci (q 18) 8 now, aI ci (q 19) 160 kept] := hD
      refine lv_aload_n hx hb dX3_place_129 rfl (lv_at hl 1 rfl) ?_
      refine va_get (D := G) (ci := 2) (v := .ref (q 10)) (C := RX3) (T := TX3) (N := 7) hx hb hts hi_X3 hown hK hP 0 rfl rfl 3 (by decide) f_19 (fun _ h9 => h9) rfl dX3_place_130 ?_
      refine lv_aload_n hx hb dX3_place_133 rfl (lv_at hl 1 rfl) ?_
      refine va_get (D := G) (ci := 2) (v := .int (nI pc)) (C := RX3) (T := TX3) (N := 7) hx hb hts hi_X3 hown hK hP 0 rfl rfl 5 (by decide) f_25 (fun _ h9 => h9) rfl dX3_place_134 ?_
      refine lv_iconst (v := nI 1) hx hb dX3_place_137 (by decide) ?_
      refine lv_isub hx hb dX3_place_138 ?_
      refine tp (pk_sub (by omega)) ?_
      refine lv_dup2_11 hx hb dX3_place_139 rfl rfl ?_
      refine va_iald hx hb hK hP 4 0 rfl rfl (vp_in_nI (by omega) (by omega)) dX3_place_140 ?_
      refine tp (y := co (pc - 1)) (congrArg co (nI_clamp (by omega))) ?_
      refine lv_iconst (v := nI 1) hx hb dX3_place_141 (by decide) ?_
      refine lv_iadd hx hb dX3_place_142 ?_
      refine va_iast hx hb hK hP hD hS 4 0 rfl rfl (vp_in_nI (by omega) (by omega)) dX3_place_143 (fun H locs hP hD hS => ?_)
      rw [nI_clamp (by omega)] at hP hD
      have hP : va_P G vwCl [(q 6, .inr (2, [.ref (q 7), .ref (q 8), .ref (q 9), .ref (q 10), .ref (q 11), .int (nI pc), .int (nI (ic + 1))])), aI ci (q 7) 12 nu, aI ci (q 8) 12 ad, aI ci (q 9) 12 fi, aI ci (q 10) 12 (upd co (pc - 1) ((co (pc - 1)) + (nI 1))), aI ci (q 11) 1400 (upd (upd (upd (upd (upd (upd (upd it ((ic * 7) + 0) x) ((ic * 7) + 1) y) ((ic * 7) + 2) (now 0)) ((ic * 7) + 3) (now 1)) ((ic * 7) + 4) (now 2)) ((ic * 7) + 5) (now 3)) ((ic * 7) + 6) z), (q 17, .inr (4, [.ref (q 5), .ref (q 18), .ref (q 19), .int (nI kc), .int (nI dp), .int fo, .int sl])), aI ci (q 18) 8 now, aI ci (q 19) 160 kept] H := hP
      have hD : va_D A [(q 6, .inr (2, [.ref (q 7), .ref (q 8), .ref (q 9), .ref (q 10), .ref (q 11), .int (nI pc), .int (nI (ic + 1))])), aI ci (q 7) 12 nu, aI ci (q 8) 12 ad, aI ci (q 9) 12 fi, aI ci (q 10) 12 (upd co (pc - 1) ((co (pc - 1)) + (nI 1))), aI ci (q 11) 1400 (upd (upd (upd (upd (upd (upd (upd it ((ic * 7) + 0) x) ((ic * 7) + 1) y) ((ic * 7) + 2) (now 0)) ((ic * 7) + 3) (now 1)) ((ic * 7) + 4) (now 2)) ((ic * 7) + 5) (now 3)) ((ic * 7) + 6) z), (q 17, .inr (4, [.ref (q 5), .ref (q 18), .ref (q 19), .int (nI kc), .int (nI dp), .int fo, .int sl])), aI ci (q 18) 8 now, aI ci (q 19) 160 kept] := hD
      refine lv_iconst (v := nI 1) hx hb dX3_place_144 (by decide) ?_
      exact rI (v := nI 1) hx hb hr hlocks nb1 hK hP hD hS [0, 1, 2, 3, 4, 5, 6, 7, 8] (1, ic + 1, upd co (pc - 1) ((co (pc - 1)) + (nI 1)), upd (upd (upd (upd (upd (upd (upd it ((ic * 7) + 0) x) ((ic * 7) + 1) y) ((ic * 7) + 2) (now 0)) ((ic * 7) + 3) (now 1)) ((ic * 7) + 4) (now 2)) ((ic * 7) + 5) (now 3)) ((ic * 7) + 6) z) rfl (by decide) ⟨rfl, Or.inl ⟨rfl, rfl, rfl, by (try dsimp only); omega, by (try dsimp only); omega, QPut_u⟩, PI_place hPI (by (try dsimp only); omega)⟩ dX3_place_145
    · skip
      have z_2 := mt (nI_ltI (a := ic) (b := 200) (by omega) (by omega)).mpr c_2
      refine lv_iconst (v := nI 0) hx hb dX3_place_17 (by decide) ?_
      exact rI (v := nI 0) hx hb hr hlocks nb0 hK hP hD hS [0, 1, 2, 3, 4, 5, 6, 7, 8] (0, ic, co, it) rfl (by decide) ⟨rfl, Or.inr ⟨rfl, rfl, rfl, rfl, by (try dsimp only); omega⟩, hPI⟩ dX3_place_18
set_option maxHeartbeats 4000000 in
set_option maxRecDepth 100000 in
theorem c_X3_has (l : Launch) (G : va_G) (ci cz cl : ClassId) (q : Nat → Nat) (sz : Nat) (x : Int32) (pc : Nat) (ic : Nat) (nu : Nat → Int32) (ad : Nat → Int32) (fi : Nat → Int32) (co : Nat → Int32) (it : Nat → Int32) (hpc : pc ≤ 12) : CtI l yX3_has wsX3_has ({ frames := 0, cells := 0, slots := 0, locals := 0 }) G (TY ci cz cl) O0 [.ref (q 6), .int x] [(q 6, .inr (2, [.ref (q 7), .ref (q 8), .ref (q 9), .ref (q 10), .ref (q 11), .int (nI pc), .int (nI ic)])), aI ci (q 7) 12 nu, aI ci (q 8) 12 ad, aI ci (q 9) 12 fi, aI ci (q 10) 12 co, aI ci (q 11) 1400 it] sz (fun (r : Int32) (u : Nat) => r = nI u ∧ ((u = 1 ∧ 0 ≤ x.toInt ∧ x.toInt < pc) ∨ (u = 0 ∧ ¬ (0 ≤ x.toInt ∧ x.toInt < pc)))) (fun u : Nat => [(q 6, .inr (2, [.ref (q 7), .ref (q 8), .ref (q 9), .ref (q 10), .ref (q 11), .int (nI pc), .int (nI ic)])), aI ci (q 7) 12 nu, aI ci (q 8) 12 ad, aI ci (q 9) 12 fi, aI ci (q 10) 12 co, aI ci (q 11) 1400 it]) 0 0 := by
  refine Met.ofW (cc := cX3_has) (maxL := 2) (ret := (some .boolean)) (by decide) rfl ?_
  intro p e s m args below meth c s₁ B hml hv
  obtain ⟨rfl, ⟨hsz, hP, hK, hD0⟩, hO⟩ := hv
  have hx := B.exec
  have hb := B.bytes
  have hr := B.returns
  have hts := atoms_spec (ws := wsX3_has) B.pre
  have hown : s.vm.findClass RX3 = some m.cls := findClass_of_methodNamed B.named
  have hlocks := B.notSynchronized
  subst hsz
  have hD := hD0.self (sz := s.heap.size)
  generalize hAe : va_A [(q 6, .inr (2, [.ref (q 7), .ref (q 8), .ref (q 9), .ref (q 10), .ref (q 11), .int (nI pc), .int (nI ic)])), aI ci (q 7) 12 nu, aI ci (q 8) 12 ad, aI ci (q 9) 12 fi, aI ci (q 10) 12 co, aI ci (q 11) 1400 it] s.heap.size = A at hD hO ⊢
  have hA : ∀ q : Nat, s.heap.size ≤ q → A q := fun q h => by rw [← hAe]; exact Or.inr h
  have ok := ok0
  refine startH (A := A) (fun H locs hP hS => ?_) hP
  have hi_X3 := (by decide +kernel : ∀ w ∈ wsX30, w ∈ wsX3_has)
  have f_25 := hts (.fieldLink RX3 25 "PageReader$Pages" "count" "I") (by decide +kernel)
  have hl := lv_entry ([.ref (q 6), .int x]) (n := 2) (Nat.le_of_ble_eq_true rfl)
  rw [lg_entry_eq]
  generalize (lg_sl ([.ref (q 6), .int x]) ++ List.replicate (2 - (lg_sl ([.ref (q 6), .int x])).length) Slot.unset).toArray = ls at hl ⊢
  have hl : lv_has ls 2 [(0, .ref (q 6)), (1, .int x)] := hl
  refine lv_iload_n hx hb dX3_has_0 rfl (lv_at hl 1 rfl) ?_
  refine lv_if_lt (tgt := 16) hx hb dX3_has_1 (by decide) (fun c_1 => ?_) (fun c_1 => ?_)
  · skip
    have z_1 := (i_lt x (nI 0)).mp c_1
    rw [nI_toInt (n := 0) (by omega)] at z_1
    refine lv_iconst (v := nI 0) hx hb dX3_has_16 (by decide) ?_
    exact rI (v := nI 0) hx hb hr hlocks nb0 hK hP hD hS [0, 1, 2, 3, 4, 5] 0 rfl (by decide) ⟨rfl, by (try dsimp only); omega⟩ dX3_has_17
  · skip
    have z_1 := mt (i_lt x (nI 0)).mpr c_1
    rw [nI_toInt (n := 0) (by omega)] at z_1
    refine lv_iload_n hx hb dX3_has_4 rfl (lv_at hl 1 rfl) ?_
    refine lv_aload_n hx hb dX3_has_5 rfl (lv_at hl 0 rfl) ?_
    refine va_get (D := G) (ci := 2) (v := .int (nI pc)) (C := RX3) (T := TX3) (N := 7) hx hb hts hi_X3 hown hK hP 0 rfl rfl 5 (by decide) f_25 (fun _ h9 => h9) rfl dX3_has_6 ?_
    refine lv_icmp_ge (tgt := 16) hx hb dX3_has_9 (by decide) (fun c_2 => ?_) (fun c_2 => ?_)
    · skip
      have z_2 := (i_le (nI pc) x).mp c_2
      rw [nI_toInt (n := pc) (by omega)] at z_2
      refine lv_iconst (v := nI 0) hx hb dX3_has_16 (by decide) ?_
      exact rI (v := nI 0) hx hb hr hlocks nb0 hK hP hD hS [0, 1, 2, 3, 4, 5] 0 rfl (by decide) ⟨rfl, by (try dsimp only); omega⟩ dX3_has_17
    · skip
      have z_2 := mt (i_le (nI pc) x).mpr c_2
      rw [nI_toInt (n := pc) (by omega)] at z_2
      refine lv_iconst (v := nI 1) hx hb dX3_has_12 (by decide) ?_
      refine lv_goto (tgt := 17) hx hb dX3_has_13 (by decide) ?_
      exact rI (v := nI 1) hx hb hr hlocks nb1 hK hP hD hS [0, 1, 2, 3, 4, 5] 1 rfl (by decide) ⟨rfl, by (try dsimp only); omega⟩ dX3_has_17
set_option maxHeartbeats 4000000 in
set_option maxRecDepth 100000 in
theorem c_X3_hasItem (l : Launch) (G : va_G) (ci cz cl : ClassId) (q : Nat → Nat) (sz : Nat) (x : Int32) (y : Int32) (pc : Nat) (ic : Nat) (nu : Nat → Int32) (ad : Nat → Int32) (fi : Nat → Int32) (co : Nat → Int32) (it : Nat → Int32) (hpc : pc ≤ 12) : CtI l yX3_hasItem wsX3_hasItem ({ frames := 1, cells := 0, slots := 0, locals := 21 }) G (TY ci cz cl) O0 [.ref (q 6), .int x, .int y] [(q 6, .inr (2, [.ref (q 7), .ref (q 8), .ref (q 9), .ref (q 10), .ref (q 11), .int (nI pc), .int (nI ic)])), aI ci (q 7) 12 nu, aI ci (q 8) 12 ad, aI ci (q 9) 12 fi, aI ci (q 10) 12 co, aI ci (q 11) 1400 it] sz (fun (r : Int32) (u : Nat) => r = nI u ∧ u ≤ 1 ∧ (u = 1 → ∃ a : Nat, x = nI a ∧ a < pc ∧ 0 ≤ y.toInt ∧ y.toInt < (co a).toInt)) (fun u : Nat => [(q 6, .inr (2, [.ref (q 7), .ref (q 8), .ref (q 9), .ref (q 10), .ref (q 11), .int (nI pc), .int (nI ic)])), aI ci (q 7) 12 nu, aI ci (q 8) 12 ad, aI ci (q 9) 12 fi, aI ci (q 10) 12 co, aI ci (q 11) 1400 it]) 0 0 := by
  refine Met.ofW (cc := cX3_hasItem) (maxL := 3) (ret := (some .boolean)) (by decide) rfl ?_
  intro p e s m args below meth c s₁ B hml hv
  obtain ⟨rfl, ⟨hsz, hP, hK, hD0⟩, hO⟩ := hv
  have hx := B.exec
  have hb := B.bytes
  have hr := B.returns
  have hts := atoms_spec (ws := wsX3_hasItem) B.pre
  have hown : s.vm.findClass RX3 = some m.cls := findClass_of_methodNamed B.named
  have hlocks := B.notSynchronized
  subst hsz
  have hD := hD0.self (sz := s.heap.size)
  generalize hAe : va_A [(q 6, .inr (2, [.ref (q 7), .ref (q 8), .ref (q 9), .ref (q 10), .ref (q 11), .int (nI pc), .int (nI ic)])), aI ci (q 7) 12 nu, aI ci (q 8) 12 ad, aI ci (q 9) 12 fi, aI ci (q 10) 12 co, aI ci (q 11) 1400 it] s.heap.size = A at hD hO ⊢
  have hA : ∀ q : Nat, s.heap.size ≤ q → A q := fun q h => by rw [← hAe]; exact Or.inr h
  have ok := ok0
  refine startH (A := A) (fun H locs hP hS => ?_) hP
  have hi_X3 := (by decide +kernel : ∀ w ∈ wsX30, w ∈ wsX3_hasItem)
  have f_19 := hts (.fieldLink RX3 19 "PageReader$Pages" "itemCounts" "[I") (by decide +kernel)
  have hl := lv_entry ([.ref (q 6), .int x, .int y]) (n := 3) (Nat.le_of_ble_eq_true rfl)
  rw [lg_entry_eq]
  generalize (lg_sl ([.ref (q 6), .int x, .int y]) ++ List.replicate (3 - (lg_sl ([.ref (q 6), .int x, .int y])).length) Slot.unset).toArray = ls at hl ⊢
  have hl : lv_has ls 3 [(0, .ref (q 6)), (1, .int x), (2, .int y)] := hl
  refine lv_aload_n hx hb dX3_hasItem_0 rfl (lv_at hl 0 rfl) ?_
  refine lv_iload_n hx hb dX3_hasItem_1 rfl (lv_at hl 1 rfl) ?_
  refine jI (va_runV (As := [.int x]) (rest := []) ⟨hx, hb, hml, hown, hts⟩ (c_X3_has l G ci cz cl q H.size x pc ic nu ad fi co it (by omega)) (cwV 1 hts gX3_hasItem_X3_has rfl rfl rfl (by decide +kernel) ⟨(Nat.le_of_ble_eq_true rfl), (Nat.le_of_ble_eq_true rfl)⟩) (pV (wc := [(q 6, .inr (2, [.ref (q 7), .ref (q 8), .ref (q 9), .ref (q 10), .ref (q 11), .int (nI pc), .int (nI ic)])), aI ci (q 7) 12 nu, aI ci (q 8) 12 ad, aI ci (q 9) 12 fi, aI ci (q 10) 12 co, aI ci (q 11) 1400 it]) ok hK hP hD hS hA hO [0, 1, 2, 3, 4, 5] rfl (by decide) 0 rfl rfl) rfl rfl hl.1 rfl (lv_room (Nat.le_of_ble_eq_true rfl)) dX3_hasItem_2 ⟨(Nat.le_of_ble_eq_true rfl), (Nat.le_of_ble_eq_true rfl)⟩) (wr := []) hP hD hS hA [0, 1, 2, 3, 4, 5] [] rfl rfl (by decide) (by decide) (fun r_1 u H locs hw_1 hP hD hS => ?_)
  obtain ⟨bo_1, rfl⟩ : ∃ z, z = u := ⟨_, rfl⟩
  try dsimp only at hw_1
  obtain ⟨rfl, h_1⟩ := hw_1
  have hP : va_P G vwCl [(q 6, .inr (2, [.ref (q 7), .ref (q 8), .ref (q 9), .ref (q 10), .ref (q 11), .int (nI pc), .int (nI ic)])), aI ci (q 7) 12 nu, aI ci (q 8) 12 ad, aI ci (q 9) 12 fi, aI ci (q 10) 12 co, aI ci (q 11) 1400 it] H := hP
  have hD : va_D A [(q 6, .inr (2, [.ref (q 7), .ref (q 8), .ref (q 9), .ref (q 10), .ref (q 11), .int (nI pc), .int (nI ic)])), aI ci (q 7) 12 nu, aI ci (q 8) 12 ad, aI ci (q 9) 12 fi, aI ci (q 10) 12 co, aI ci (q 11) 1400 it] := hD
  refine lv_if_eq (tgt := 26) hx hb dX3_hasItem_5 (by decide) (fun c_2 => ?_) (fun c_2 => ?_)
  · skip
    have z_2 := (nI_eq (a := bo_1) (b := 0) (by omega) (by omega)).mp c_2
    refine lv_iconst (v := nI 0) hx hb dX3_hasItem_26 (by decide) ?_
    exact rI (v := nI 0) hx hb hr hlocks nb0 hK hP hD hS [0, 1, 2, 3, 4, 5] 0 rfl (by decide) ⟨rfl, by (try dsimp only); omega, fun h => absurd h (by (try dsimp only); omega)⟩ dX3_hasItem_27
  · skip
    have z_2 := mt (nI_eq (a := bo_1) (b := 0) (by omega) (by omega)).mpr c_2
    refine lv_iload_n hx hb dX3_hasItem_8 rfl (lv_at hl 2 rfl) ?_
    refine lv_if_lt (tgt := 26) hx hb dX3_hasItem_9 (by decide) (fun c_3 => ?_) (fun c_3 => ?_)
    · skip
      have z_3 := (i_lt y (nI 0)).mp c_3
      rw [nI_toInt (n := 0) (by omega)] at z_3
      refine lv_iconst (v := nI 0) hx hb dX3_hasItem_26 (by decide) ?_
      exact rI (v := nI 0) hx hb hr hlocks nb0 hK hP hD hS [0, 1, 2, 3, 4, 5] 0 rfl (by decide) ⟨rfl, by (try dsimp only); omega, fun h => absurd h (by (try dsimp only); omega)⟩ dX3_hasItem_27
    · skip
      have z_3 := mt (i_lt y (nI 0)).mpr c_3
      rw [nI_toInt (n := 0) (by omega)] at z_3
      refine lv_iload_n hx hb dX3_hasItem_12 rfl (lv_at hl 2 rfl) ?_
      refine lv_aload_n hx hb dX3_hasItem_13 rfl (lv_at hl 0 rfl) ?_
      refine va_get (D := G) (ci := 2) (v := .ref (q 10)) (C := RX3) (T := TX3) (N := 7) hx hb hts hi_X3 hown hK hP 0 rfl rfl 3 (by decide) f_19 (fun _ h9 => h9) rfl dX3_hasItem_14 ?_
      refine lv_iload_n hx hb dX3_hasItem_17 rfl (lv_at hl 1 rfl) ?_
      obtain ⟨x9, hx1, hx2, hx3⟩ := i_nonneg (x := x) (by omega)
      refine tp (y := nI x9) hx2 ?_
      refine va_iald hx hb hK hP 4 0 rfl rfl (vp_in_nI (by omega) (by omega)) dX3_hasItem_18 ?_
      refine tp (y := co x9) (congrArg co (nI_clamp (by omega))) ?_
      refine lv_icmp_ge (tgt := 26) hx hb dX3_hasItem_19 (by decide) (fun c_4 => ?_) (fun c_4 => ?_)
      · skip
        have z_4 := (i_le (co x9) y).mp c_4
        refine lv_iconst (v := nI 0) hx hb dX3_hasItem_26 (by decide) ?_
        exact rI (v := nI 0) hx hb hr hlocks nb0 hK hP hD hS [0, 1, 2, 3, 4, 5] 0 rfl (by decide) ⟨rfl, by (try dsimp only); omega, fun h => absurd h (by (try dsimp only); omega)⟩ dX3_hasItem_27
      · skip
        have z_4 := mt (i_le (co x9) y).mpr c_4
        refine lv_iconst (v := nI 1) hx hb dX3_hasItem_22 (by decide) ?_
        refine lv_goto (tgt := 27) hx hb dX3_hasItem_23 (by decide) ?_
        exact rI (v := nI 1) hx hb hr hlocks nb1 hK hP hD hS [0, 1, 2, 3, 4, 5] 1 rfl (by decide) ⟨rfl, by (try dsimp only); omega, fun _ => ⟨x9, hx2, by (try dsimp only); omega, by (try dsimp only); omega, by (try dsimp only); omega⟩⟩ dX3_hasItem_27
set_option maxHeartbeats 4000000 in
set_option maxRecDepth 100000 in
theorem c_X3_numberOf (l : Launch) (G : va_G) (ci cz cl : ClassId) (q : Nat → Nat) (sz : Nat) (x : Int32) (pc : Nat) (ic : Nat) (nu : Nat → Int32) (ad : Nat → Int32) (fi : Nat → Int32) (co : Nat → Int32) (it : Nat → Int32) (hpc : pc ≤ 12) : CtI l yX3_numberOf wsX3_numberOf ({ frames := 1, cells := 0, slots := 0, locals := 21 }) G (TY ci cz cl) O0 [.ref (q 6), .int x] [(q 6, .inr (2, [.ref (q 7), .ref (q 8), .ref (q 9), .ref (q 10), .ref (q 11), .int (nI pc), .int (nI ic)])), aI ci (q 7) 12 nu, aI ci (q 8) 12 ad, aI ci (q 9) 12 fi, aI ci (q 10) 12 co, aI ci (q 11) 1400 it] sz (fun (r : Int32) (u : Unit) => (∃ j : Nat, x = nI j ∧ j < pc ∧ r = nu j) ∨ ¬ (0 ≤ x.toInt ∧ x.toInt < pc)) (fun u : Unit => [(q 6, .inr (2, [.ref (q 7), .ref (q 8), .ref (q 9), .ref (q 10), .ref (q 11), .int (nI pc), .int (nI ic)])), aI ci (q 7) 12 nu, aI ci (q 8) 12 ad, aI ci (q 9) 12 fi, aI ci (q 10) 12 co, aI ci (q 11) 1400 it]) 0 0 := by
  refine Met.ofW (cc := cX3_numberOf) (maxL := 2) (ret := (some .int)) (by decide) rfl ?_
  intro p e s m args below meth c s₁ B hml hv
  obtain ⟨rfl, ⟨hsz, hP, hK, hD0⟩, hO⟩ := hv
  have hx := B.exec
  have hb := B.bytes
  have hr := B.returns
  have hts := atoms_spec (ws := wsX3_numberOf) B.pre
  have hown : s.vm.findClass RX3 = some m.cls := findClass_of_methodNamed B.named
  have hlocks := B.notSynchronized
  subst hsz
  have hD := hD0.self (sz := s.heap.size)
  generalize hAe : va_A [(q 6, .inr (2, [.ref (q 7), .ref (q 8), .ref (q 9), .ref (q 10), .ref (q 11), .int (nI pc), .int (nI ic)])), aI ci (q 7) 12 nu, aI ci (q 8) 12 ad, aI ci (q 9) 12 fi, aI ci (q 10) 12 co, aI ci (q 11) 1400 it] s.heap.size = A at hD hO ⊢
  have hA : ∀ q : Nat, s.heap.size ≤ q → A q := fun q h => by rw [← hAe]; exact Or.inr h
  have ok := ok0
  refine startH (A := A) (fun H locs hP hS => ?_) hP
  have hi_X3 := (by decide +kernel : ∀ w ∈ wsX30, w ∈ wsX3_numberOf)
  have f_9 := hts (.fieldLink RX3 9 "PageReader$Pages" "numbers" "[I") (by decide +kernel)
  have hl := lv_entry ([.ref (q 6), .int x]) (n := 2) (Nat.le_of_ble_eq_true rfl)
  rw [lg_entry_eq]
  generalize (lg_sl ([.ref (q 6), .int x]) ++ List.replicate (2 - (lg_sl ([.ref (q 6), .int x])).length) Slot.unset).toArray = ls at hl ⊢
  have hl : lv_has ls 2 [(0, .ref (q 6)), (1, .int x)] := hl
  refine lv_aload_n hx hb dX3_numberOf_0 rfl (lv_at hl 0 rfl) ?_
  refine lv_iload_n hx hb dX3_numberOf_1 rfl (lv_at hl 1 rfl) ?_
  refine jI (va_runV (As := [.int x]) (rest := []) ⟨hx, hb, hml, hown, hts⟩ (c_X3_has l G ci cz cl q H.size x pc ic nu ad fi co it (by omega)) (cwV 1 hts gX3_numberOf_X3_has rfl rfl rfl (by decide +kernel) ⟨(Nat.le_of_ble_eq_true rfl), (Nat.le_of_ble_eq_true rfl)⟩) (pV (wc := [(q 6, .inr (2, [.ref (q 7), .ref (q 8), .ref (q 9), .ref (q 10), .ref (q 11), .int (nI pc), .int (nI ic)])), aI ci (q 7) 12 nu, aI ci (q 8) 12 ad, aI ci (q 9) 12 fi, aI ci (q 10) 12 co, aI ci (q 11) 1400 it]) ok hK hP hD hS hA hO [0, 1, 2, 3, 4, 5] rfl (by decide) 0 rfl rfl) rfl rfl hl.1 rfl (lv_room (Nat.le_of_ble_eq_true rfl)) dX3_numberOf_2 ⟨(Nat.le_of_ble_eq_true rfl), (Nat.le_of_ble_eq_true rfl)⟩) (wr := []) hP hD hS hA [0, 1, 2, 3, 4, 5] [] rfl rfl (by decide) (by decide) (fun r_1 u H locs hw_1 hP hD hS => ?_)
  obtain ⟨bo_1, rfl⟩ : ∃ z, z = u := ⟨_, rfl⟩
  try dsimp only at hw_1
  obtain ⟨rfl, h_1⟩ := hw_1
  have hP : va_P G vwCl [(q 6, .inr (2, [.ref (q 7), .ref (q 8), .ref (q 9), .ref (q 10), .ref (q 11), .int (nI pc), .int (nI ic)])), aI ci (q 7) 12 nu, aI ci (q 8) 12 ad, aI ci (q 9) 12 fi, aI ci (q 10) 12 co, aI ci (q 11) 1400 it] H := hP
  have hD : va_D A [(q 6, .inr (2, [.ref (q 7), .ref (q 8), .ref (q 9), .ref (q 10), .ref (q 11), .int (nI pc), .int (nI ic)])), aI ci (q 7) 12 nu, aI ci (q 8) 12 ad, aI ci (q 9) 12 fi, aI ci (q 10) 12 co, aI ci (q 11) 1400 it] := hD
  refine lv_if_eq (tgt := 17) hx hb dX3_numberOf_5 (by decide) (fun c_2 => ?_) (fun c_2 => ?_)
  · skip
    have z_2 := (nI_eq (a := bo_1) (b := 0) (by omega) (by omega)).mp c_2
    refine lv_iconst (v := nI 0) hx hb dX3_numberOf_17 (by decide) ?_
    exact rI (v := nI 0) hx hb hr hlocks rfl hK hP hD hS [0, 1, 2, 3, 4, 5] () rfl (by decide) (Or.inr (by (try dsimp only); omega)) dX3_numberOf_18
  · skip
    have z_2 := mt (nI_eq (a := bo_1) (b := 0) (by omega) (by omega)).mpr c_2
    refine lv_aload_n hx hb dX3_numberOf_8 rfl (lv_at hl 0 rfl) ?_
    refine va_get (D := G) (ci := 2) (v := .ref (q 7)) (C := RX3) (T := TX3) (N := 7) hx hb hts hi_X3 hown hK hP 0 rfl rfl 0 (by decide) f_9 (fun _ h9 => h9) rfl dX3_numberOf_9 ?_
    refine lv_iload_n hx hb dX3_numberOf_12 rfl (lv_at hl 1 rfl) ?_
    obtain ⟨x9, hx1, hx2, hx3⟩ := i_nonneg (x := x) (by omega)
    refine tp (y := nI x9) hx2 ?_
    refine va_iald hx hb hK hP 1 0 rfl rfl (vp_in_nI (by omega) (by omega)) dX3_numberOf_13 ?_
    refine tp (y := nu x9) (congrArg nu (nI_clamp (by omega))) ?_
    refine lv_goto (tgt := 18) hx hb dX3_numberOf_14 (by decide) ?_
    exact rI (v := nu x9) hx hb hr hlocks rfl hK hP hD hS [0, 1, 2, 3, 4, 5] () rfl (by decide) (Or.inl ⟨x9, hx2, by (try dsimp only); omega, rfl⟩) dX3_numberOf_18
set_option maxHeartbeats 4000000 in
set_option maxRecDepth 100000 in
theorem c_X3_itemsOf (l : Launch) (G : va_G) (ci cz cl : ClassId) (q : Nat → Nat) (sz : Nat) (x : Int32) (pc : Nat) (ic : Nat) (nu : Nat → Int32) (ad : Nat → Int32) (fi : Nat → Int32) (co : Nat → Int32) (it : Nat → Int32) (hpc : pc ≤ 12) : CtI l yX3_itemsOf wsX3_itemsOf ({ frames := 1, cells := 0, slots := 0, locals := 21 }) G (TY ci cz cl) O0 [.ref (q 6), .int x] [(q 6, .inr (2, [.ref (q 7), .ref (q 8), .ref (q 9), .ref (q 10), .ref (q 11), .int (nI pc), .int (nI ic)])), aI ci (q 7) 12 nu, aI ci (q 8) 12 ad, aI ci (q 9) 12 fi, aI ci (q 10) 12 co, aI ci (q 11) 1400 it] sz (fun (r : Int32) (u : Unit) => (∃ j : Nat, x = nI j ∧ j < pc ∧ r = co j) ∨ ¬ (0 ≤ x.toInt ∧ x.toInt < pc)) (fun u : Unit => [(q 6, .inr (2, [.ref (q 7), .ref (q 8), .ref (q 9), .ref (q 10), .ref (q 11), .int (nI pc), .int (nI ic)])), aI ci (q 7) 12 nu, aI ci (q 8) 12 ad, aI ci (q 9) 12 fi, aI ci (q 10) 12 co, aI ci (q 11) 1400 it]) 0 0 := by
  refine Met.ofW (cc := cX3_itemsOf) (maxL := 2) (ret := (some .int)) (by decide) rfl ?_
  intro p e s m args below meth c s₁ B hml hv
  obtain ⟨rfl, ⟨hsz, hP, hK, hD0⟩, hO⟩ := hv
  have hx := B.exec
  have hb := B.bytes
  have hr := B.returns
  have hts := atoms_spec (ws := wsX3_itemsOf) B.pre
  have hown : s.vm.findClass RX3 = some m.cls := findClass_of_methodNamed B.named
  have hlocks := B.notSynchronized
  subst hsz
  have hD := hD0.self (sz := s.heap.size)
  generalize hAe : va_A [(q 6, .inr (2, [.ref (q 7), .ref (q 8), .ref (q 9), .ref (q 10), .ref (q 11), .int (nI pc), .int (nI ic)])), aI ci (q 7) 12 nu, aI ci (q 8) 12 ad, aI ci (q 9) 12 fi, aI ci (q 10) 12 co, aI ci (q 11) 1400 it] s.heap.size = A at hD hO ⊢
  have hA : ∀ q : Nat, s.heap.size ≤ q → A q := fun q h => by rw [← hAe]; exact Or.inr h
  have ok := ok0
  refine startH (A := A) (fun H locs hP hS => ?_) hP
  have hi_X3 := (by decide +kernel : ∀ w ∈ wsX30, w ∈ wsX3_itemsOf)
  have f_19 := hts (.fieldLink RX3 19 "PageReader$Pages" "itemCounts" "[I") (by decide +kernel)
  have hl := lv_entry ([.ref (q 6), .int x]) (n := 2) (Nat.le_of_ble_eq_true rfl)
  rw [lg_entry_eq]
  generalize (lg_sl ([.ref (q 6), .int x]) ++ List.replicate (2 - (lg_sl ([.ref (q 6), .int x])).length) Slot.unset).toArray = ls at hl ⊢
  have hl : lv_has ls 2 [(0, .ref (q 6)), (1, .int x)] := hl
  refine lv_aload_n hx hb dX3_itemsOf_0 rfl (lv_at hl 0 rfl) ?_
  refine lv_iload_n hx hb dX3_itemsOf_1 rfl (lv_at hl 1 rfl) ?_
  refine jI (va_runV (As := [.int x]) (rest := []) ⟨hx, hb, hml, hown, hts⟩ (c_X3_has l G ci cz cl q H.size x pc ic nu ad fi co it (by omega)) (cwV 1 hts gX3_itemsOf_X3_has rfl rfl rfl (by decide +kernel) ⟨(Nat.le_of_ble_eq_true rfl), (Nat.le_of_ble_eq_true rfl)⟩) (pV (wc := [(q 6, .inr (2, [.ref (q 7), .ref (q 8), .ref (q 9), .ref (q 10), .ref (q 11), .int (nI pc), .int (nI ic)])), aI ci (q 7) 12 nu, aI ci (q 8) 12 ad, aI ci (q 9) 12 fi, aI ci (q 10) 12 co, aI ci (q 11) 1400 it]) ok hK hP hD hS hA hO [0, 1, 2, 3, 4, 5] rfl (by decide) 0 rfl rfl) rfl rfl hl.1 rfl (lv_room (Nat.le_of_ble_eq_true rfl)) dX3_itemsOf_2 ⟨(Nat.le_of_ble_eq_true rfl), (Nat.le_of_ble_eq_true rfl)⟩) (wr := []) hP hD hS hA [0, 1, 2, 3, 4, 5] [] rfl rfl (by decide) (by decide) (fun r_1 u H locs hw_1 hP hD hS => ?_)
  obtain ⟨bo_1, rfl⟩ : ∃ z, z = u := ⟨_, rfl⟩
  try dsimp only at hw_1
  obtain ⟨rfl, h_1⟩ := hw_1
  have hP : va_P G vwCl [(q 6, .inr (2, [.ref (q 7), .ref (q 8), .ref (q 9), .ref (q 10), .ref (q 11), .int (nI pc), .int (nI ic)])), aI ci (q 7) 12 nu, aI ci (q 8) 12 ad, aI ci (q 9) 12 fi, aI ci (q 10) 12 co, aI ci (q 11) 1400 it] H := hP
  have hD : va_D A [(q 6, .inr (2, [.ref (q 7), .ref (q 8), .ref (q 9), .ref (q 10), .ref (q 11), .int (nI pc), .int (nI ic)])), aI ci (q 7) 12 nu, aI ci (q 8) 12 ad, aI ci (q 9) 12 fi, aI ci (q 10) 12 co, aI ci (q 11) 1400 it] := hD
  refine lv_if_eq (tgt := 17) hx hb dX3_itemsOf_5 (by decide) (fun c_2 => ?_) (fun c_2 => ?_)
  · skip
    have z_2 := (nI_eq (a := bo_1) (b := 0) (by omega) (by omega)).mp c_2
    refine lv_iconst (v := nI 0) hx hb dX3_itemsOf_17 (by decide) ?_
    exact rI (v := nI 0) hx hb hr hlocks rfl hK hP hD hS [0, 1, 2, 3, 4, 5] () rfl (by decide) (Or.inr (by (try dsimp only); omega)) dX3_itemsOf_18
  · skip
    have z_2 := mt (nI_eq (a := bo_1) (b := 0) (by omega) (by omega)).mpr c_2
    refine lv_aload_n hx hb dX3_itemsOf_8 rfl (lv_at hl 0 rfl) ?_
    refine va_get (D := G) (ci := 2) (v := .ref (q 10)) (C := RX3) (T := TX3) (N := 7) hx hb hts hi_X3 hown hK hP 0 rfl rfl 3 (by decide) f_19 (fun _ h9 => h9) rfl dX3_itemsOf_9 ?_
    refine lv_iload_n hx hb dX3_itemsOf_12 rfl (lv_at hl 1 rfl) ?_
    obtain ⟨x9, hx1, hx2, hx3⟩ := i_nonneg (x := x) (by omega)
    refine tp (y := nI x9) hx2 ?_
    refine va_iald hx hb hK hP 4 0 rfl rfl (vp_in_nI (by omega) (by omega)) dX3_itemsOf_13 ?_
    refine tp (y := co x9) (congrArg co (nI_clamp (by omega))) ?_
    refine lv_goto (tgt := 18) hx hb dX3_itemsOf_14 (by decide) ?_
    exact rI (v := co x9) hx hb hr hlocks rfl hK hP hD hS [0, 1, 2, 3, 4, 5] () rfl (by decide) (Or.inl ⟨x9, hx2, by (try dsimp only); omega, rfl⟩) dX3_itemsOf_18
set_option maxHeartbeats 4000000 in
set_option maxRecDepth 100000 in
theorem c_X3_addressOf (l : Launch) (G : va_G) (ci cz cl : ClassId) (q : Nat → Nat) (sz : Nat) (x : Int32) (pc : Nat) (ic : Nat) (nu : Nat → Int32) (ad : Nat → Int32) (fi : Nat → Int32) (co : Nat → Int32) (it : Nat → Int32) (hpc : pc ≤ 12) : CtI l yX3_addressOf wsX3_addressOf ({ frames := 1, cells := 0, slots := 0, locals := 21 }) G (TY ci cz cl) O0 [.ref (q 6), .int x] [(q 6, .inr (2, [.ref (q 7), .ref (q 8), .ref (q 9), .ref (q 10), .ref (q 11), .int (nI pc), .int (nI ic)])), aI ci (q 7) 12 nu, aI ci (q 8) 12 ad, aI ci (q 9) 12 fi, aI ci (q 10) 12 co, aI ci (q 11) 1400 it] sz (fun (r : Int32) (u : Unit) => (∃ j : Nat, x = nI j ∧ j < pc ∧ r = ad j) ∨ ¬ (0 ≤ x.toInt ∧ x.toInt < pc)) (fun u : Unit => [(q 6, .inr (2, [.ref (q 7), .ref (q 8), .ref (q 9), .ref (q 10), .ref (q 11), .int (nI pc), .int (nI ic)])), aI ci (q 7) 12 nu, aI ci (q 8) 12 ad, aI ci (q 9) 12 fi, aI ci (q 10) 12 co, aI ci (q 11) 1400 it]) 0 0 := by
  refine Met.ofW (cc := cX3_addressOf) (maxL := 2) (ret := (some .int)) (by decide) rfl ?_
  intro p e s m args below meth c s₁ B hml hv
  obtain ⟨rfl, ⟨hsz, hP, hK, hD0⟩, hO⟩ := hv
  have hx := B.exec
  have hb := B.bytes
  have hr := B.returns
  have hts := atoms_spec (ws := wsX3_addressOf) B.pre
  have hown : s.vm.findClass RX3 = some m.cls := findClass_of_methodNamed B.named
  have hlocks := B.notSynchronized
  subst hsz
  have hD := hD0.self (sz := s.heap.size)
  generalize hAe : va_A [(q 6, .inr (2, [.ref (q 7), .ref (q 8), .ref (q 9), .ref (q 10), .ref (q 11), .int (nI pc), .int (nI ic)])), aI ci (q 7) 12 nu, aI ci (q 8) 12 ad, aI ci (q 9) 12 fi, aI ci (q 10) 12 co, aI ci (q 11) 1400 it] s.heap.size = A at hD hO ⊢
  have hA : ∀ q : Nat, s.heap.size ≤ q → A q := fun q h => by rw [← hAe]; exact Or.inr h
  have ok := ok0
  refine startH (A := A) (fun H locs hP hS => ?_) hP
  have hi_X3 := (by decide +kernel : ∀ w ∈ wsX30, w ∈ wsX3_addressOf)
  have f_13 := hts (.fieldLink RX3 13 "PageReader$Pages" "addresses" "[I") (by decide +kernel)
  have hl := lv_entry ([.ref (q 6), .int x]) (n := 2) (Nat.le_of_ble_eq_true rfl)
  rw [lg_entry_eq]
  generalize (lg_sl ([.ref (q 6), .int x]) ++ List.replicate (2 - (lg_sl ([.ref (q 6), .int x])).length) Slot.unset).toArray = ls at hl ⊢
  have hl : lv_has ls 2 [(0, .ref (q 6)), (1, .int x)] := hl
  refine lv_aload_n hx hb dX3_addressOf_0 rfl (lv_at hl 0 rfl) ?_
  refine lv_iload_n hx hb dX3_addressOf_1 rfl (lv_at hl 1 rfl) ?_
  refine jI (va_runV (As := [.int x]) (rest := []) ⟨hx, hb, hml, hown, hts⟩ (c_X3_has l G ci cz cl q H.size x pc ic nu ad fi co it (by omega)) (cwV 1 hts gX3_addressOf_X3_has rfl rfl rfl (by decide +kernel) ⟨(Nat.le_of_ble_eq_true rfl), (Nat.le_of_ble_eq_true rfl)⟩) (pV (wc := [(q 6, .inr (2, [.ref (q 7), .ref (q 8), .ref (q 9), .ref (q 10), .ref (q 11), .int (nI pc), .int (nI ic)])), aI ci (q 7) 12 nu, aI ci (q 8) 12 ad, aI ci (q 9) 12 fi, aI ci (q 10) 12 co, aI ci (q 11) 1400 it]) ok hK hP hD hS hA hO [0, 1, 2, 3, 4, 5] rfl (by decide) 0 rfl rfl) rfl rfl hl.1 rfl (lv_room (Nat.le_of_ble_eq_true rfl)) dX3_addressOf_2 ⟨(Nat.le_of_ble_eq_true rfl), (Nat.le_of_ble_eq_true rfl)⟩) (wr := []) hP hD hS hA [0, 1, 2, 3, 4, 5] [] rfl rfl (by decide) (by decide) (fun r_1 u H locs hw_1 hP hD hS => ?_)
  obtain ⟨bo_1, rfl⟩ : ∃ z, z = u := ⟨_, rfl⟩
  try dsimp only at hw_1
  obtain ⟨rfl, h_1⟩ := hw_1
  have hP : va_P G vwCl [(q 6, .inr (2, [.ref (q 7), .ref (q 8), .ref (q 9), .ref (q 10), .ref (q 11), .int (nI pc), .int (nI ic)])), aI ci (q 7) 12 nu, aI ci (q 8) 12 ad, aI ci (q 9) 12 fi, aI ci (q 10) 12 co, aI ci (q 11) 1400 it] H := hP
  have hD : va_D A [(q 6, .inr (2, [.ref (q 7), .ref (q 8), .ref (q 9), .ref (q 10), .ref (q 11), .int (nI pc), .int (nI ic)])), aI ci (q 7) 12 nu, aI ci (q 8) 12 ad, aI ci (q 9) 12 fi, aI ci (q 10) 12 co, aI ci (q 11) 1400 it] := hD
  refine lv_if_eq (tgt := 17) hx hb dX3_addressOf_5 (by decide) (fun c_2 => ?_) (fun c_2 => ?_)
  · skip
    have z_2 := (nI_eq (a := bo_1) (b := 0) (by omega) (by omega)).mp c_2
    refine lv_iconst (v := nI 0) hx hb dX3_addressOf_17 (by decide) ?_
    exact rI (v := nI 0) hx hb hr hlocks rfl hK hP hD hS [0, 1, 2, 3, 4, 5] () rfl (by decide) (Or.inr (by (try dsimp only); omega)) dX3_addressOf_18
  · skip
    have z_2 := mt (nI_eq (a := bo_1) (b := 0) (by omega) (by omega)).mpr c_2
    refine lv_aload_n hx hb dX3_addressOf_8 rfl (lv_at hl 0 rfl) ?_
    refine va_get (D := G) (ci := 2) (v := .ref (q 8)) (C := RX3) (T := TX3) (N := 7) hx hb hts hi_X3 hown hK hP 0 rfl rfl 1 (by decide) f_13 (fun _ h9 => h9) rfl dX3_addressOf_9 ?_
    refine lv_iload_n hx hb dX3_addressOf_12 rfl (lv_at hl 1 rfl) ?_
    obtain ⟨x9, hx1, hx2, hx3⟩ := i_nonneg (x := x) (by omega)
    refine tp (y := nI x9) hx2 ?_
    refine va_iald hx hb hK hP 2 0 rfl rfl (vp_in_nI (by omega) (by omega)) dX3_addressOf_13 ?_
    refine tp (y := ad x9) (congrArg ad (nI_clamp (by omega))) ?_
    refine lv_goto (tgt := 18) hx hb dX3_addressOf_14 (by decide) ?_
    exact rI (v := ad x9) hx hb hr hlocks rfl hK hP hD hS [0, 1, 2, 3, 4, 5] () rfl (by decide) (Or.inl ⟨x9, hx2, by (try dsimp only); omega, rfl⟩) dX3_addressOf_18
set_option maxHeartbeats 4000000 in
set_option maxRecDepth 100000 in
theorem c_X3_partOf (l : Launch) (G : va_G) (ci cz cl : ClassId) (q : Nat → Nat) (sz : Nat) (x : Int32) (y : Int32) (z : Int32) (pc : Nat) (ic : Nat) (nu : Nat → Int32) (ad : Nat → Int32) (fi : Nat → Int32) (co : Nat → Int32) (it : Nat → Int32) (hpc : pc ≤ 12) (hic : ic ≤ 200) (hPI : PI pc ic fi co) : CtI l yX3_partOf wsX3_partOf ({ frames := 2, cells := 0, slots := 0, locals := 43 }) G (TY ci cz cl) O0 [.ref (q 6), .int x, .int y, .int z] [(q 6, .inr (2, [.ref (q 7), .ref (q 8), .ref (q 9), .ref (q 10), .ref (q 11), .int (nI pc), .int (nI ic)])), aI ci (q 7) 12 nu, aI ci (q 8) 12 ad, aI ci (q 9) 12 fi, aI ci (q 10) 12 co, aI ci (q 11) 1400 it] sz (fun (r : Int32) (u : Unit) => True) (fun u : Unit => [(q 6, .inr (2, [.ref (q 7), .ref (q 8), .ref (q 9), .ref (q 10), .ref (q 11), .int (nI pc), .int (nI ic)])), aI ci (q 7) 12 nu, aI ci (q 8) 12 ad, aI ci (q 9) 12 fi, aI ci (q 10) 12 co, aI ci (q 11) 1400 it]) 0 0 := by
  refine Met.ofW (cc := cX3_partOf) (maxL := 4) (ret := (some .int)) (by decide) rfl ?_
  intro p e s m args below meth c s₁ B hml hv
  obtain ⟨rfl, ⟨hsz, hP, hK, hD0⟩, hO⟩ := hv
  have hx := B.exec
  have hb := B.bytes
  have hr := B.returns
  have hts := atoms_spec (ws := wsX3_partOf) B.pre
  have hown : s.vm.findClass RX3 = some m.cls := findClass_of_methodNamed B.named
  have hlocks := B.notSynchronized
  subst hsz
  have hD := hD0.self (sz := s.heap.size)
  generalize hAe : va_A [(q 6, .inr (2, [.ref (q 7), .ref (q 8), .ref (q 9), .ref (q 10), .ref (q 11), .int (nI pc), .int (nI ic)])), aI ci (q 7) 12 nu, aI ci (q 8) 12 ad, aI ci (q 9) 12 fi, aI ci (q 10) 12 co, aI ci (q 11) 1400 it] s.heap.size = A at hD hO ⊢
  have hA : ∀ q : Nat, s.heap.size ≤ q → A q := fun q h => by rw [← hAe]; exact Or.inr h
  have ok := ok0
  refine startH (A := A) (fun H locs hP hS => ?_) hP
  have hi_X3 := (by decide +kernel : ∀ w ∈ wsX30, w ∈ wsX3_partOf)
  have f_22 := hts (.fieldLink RX3 22 "PageReader$Pages" "items" "[I") (by decide +kernel)
  have f_16 := hts (.fieldLink RX3 16 "PageReader$Pages" "firstItems" "[I") (by decide +kernel)
  have hl := lv_entry ([.ref (q 6), .int x, .int y, .int z]) (n := 4) (Nat.le_of_ble_eq_true rfl)
  rw [lg_entry_eq]
  generalize (lg_sl ([.ref (q 6), .int x, .int y, .int z]) ++ List.replicate (4 - (lg_sl ([.ref (q 6), .int x, .int y, .int z])).length) Slot.unset).toArray = ls at hl ⊢
  have hl : lv_has ls 4 [(0, .ref (q 6)), (1, .int x), (2, .int y), (3, .int z)] := hl
  refine lv_aload_n hx hb dX3_partOf_0 rfl (lv_at hl 0 rfl) ?_
  refine lv_iload_n hx hb dX3_partOf_1 rfl (lv_at hl 1 rfl) ?_
  refine lv_iload_n hx hb dX3_partOf_2 rfl (lv_at hl 2 rfl) ?_
  refine jI (va_runV (As := [.int x, .int y]) (rest := []) ⟨hx, hb, hml, hown, hts⟩ (c_X3_hasItem l G ci cz cl q H.size x y pc ic nu ad fi co it (by omega)) (cwV 2 hts gX3_partOf_X3_hasItem rfl rfl rfl (by decide +kernel) ⟨(Nat.le_of_ble_eq_true rfl), (Nat.le_of_ble_eq_true rfl)⟩) (pV (wc := [(q 6, .inr (2, [.ref (q 7), .ref (q 8), .ref (q 9), .ref (q 10), .ref (q 11), .int (nI pc), .int (nI ic)])), aI ci (q 7) 12 nu, aI ci (q 8) 12 ad, aI ci (q 9) 12 fi, aI ci (q 10) 12 co, aI ci (q 11) 1400 it]) ok hK hP hD hS hA hO [0, 1, 2, 3, 4, 5] rfl (by decide) 0 rfl rfl) rfl rfl hl.1 rfl (lv_room (Nat.le_of_ble_eq_true rfl)) dX3_partOf_3 ⟨(Nat.le_of_ble_eq_true rfl), (Nat.le_of_ble_eq_true rfl)⟩) (wr := []) hP hD hS hA [0, 1, 2, 3, 4, 5] [] rfl rfl (by decide) (by decide) (fun r_1 u H locs hw_1 hP hD hS => ?_)
  obtain ⟨bo_1, rfl⟩ : ∃ z, z = u := ⟨_, rfl⟩
  try dsimp only at hw_1
  obtain ⟨rfl, h_1, g_1⟩ := hw_1
  have hP : va_P G vwCl [(q 6, .inr (2, [.ref (q 7), .ref (q 8), .ref (q 9), .ref (q 10), .ref (q 11), .int (nI pc), .int (nI ic)])), aI ci (q 7) 12 nu, aI ci (q 8) 12 ad, aI ci (q 9) 12 fi, aI ci (q 10) 12 co, aI ci (q 11) 1400 it] H := hP
  have hD : va_D A [(q 6, .inr (2, [.ref (q 7), .ref (q 8), .ref (q 9), .ref (q 10), .ref (q 11), .int (nI pc), .int (nI ic)])), aI ci (q 7) 12 nu, aI ci (q 8) 12 ad, aI ci (q 9) 12 fi, aI ci (q 10) 12 co, aI ci (q 11) 1400 it] := hD
  refine lv_if_eq (tgt := 19) hx hb dX3_partOf_6 (by decide) (fun c_2 => ?_) (fun c_2 => ?_)
  · skip
    have z_2 := (nI_eq (a := bo_1) (b := 0) (by omega) (by omega)).mp c_2
    refine lv_iconst (v := nI 0) hx hb dX3_partOf_19 (by decide) ?_
    exact rI (v := nI 0) hx hb hr hlocks rfl hK hP hD hS [0, 1, 2, 3, 4, 5] () rfl (by decide) trivial dX3_partOf_20
  · skip
    have z_2 := mt (nI_eq (a := bo_1) (b := 0) (by omega) (by omega)).mpr c_2
    refine lv_iload_n hx hb dX3_partOf_9 rfl (lv_at hl 3 rfl) ?_
    refine lv_if_lt (tgt := 19) hx hb dX3_partOf_10 (by decide) (fun c_3 => ?_) (fun c_3 => ?_)
    · skip
      have z_3 := (i_lt z (nI 0)).mp c_3
      rw [nI_toInt (n := 0) (by omega)] at z_3
      refine lv_iconst (v := nI 0) hx hb dX3_partOf_19 (by decide) ?_
      exact rI (v := nI 0) hx hb hr hlocks rfl hK hP hD hS [0, 1, 2, 3, 4, 5] () rfl (by decide) trivial dX3_partOf_20
    · skip
      have z_3 := mt (i_lt z (nI 0)).mpr c_3
      rw [nI_toInt (n := 0) (by omega)] at z_3
      refine lv_iload_n hx hb dX3_partOf_13 rfl (lv_at hl 3 rfl) ?_
      refine lv_bipush (v := nI 7) hx hb dX3_partOf_14 (by decide) ?_
      refine lv_icmp_lt (tgt := 21) hx hb dX3_partOf_16 (by decide) (fun c_4 => ?_) (fun c_4 => ?_)
      · skip
        have z_4 := (i_lt z (nI 7)).mp c_4
        rw [nI_toInt (n := 7) (by omega)] at z_4
        obtain ⟨x9, hx2, hx3, hy0, hy1⟩ := g_1 (by omega)
        obtain ⟨aa, bb, ha1, hb1, hab⟩ := hPI x9 hx3
        rw [hb1, nI_toInt (by omega)] at hy1
        obtain ⟨y9, hy3, hy2, hy4⟩ := i_nonneg (x := y) (by omega)
        obtain ⟨z9, hz3, hz2, hz4⟩ := i_nonneg (x := z) (by omega)
        refine lv_aload_n hx hb dX3_partOf_21 rfl (lv_at hl 0 rfl) ?_
        refine va_get (D := G) (ci := 2) (v := .ref (q 11)) (C := RX3) (T := TX3) (N := 7) hx hb hts hi_X3 hown hK hP 0 rfl rfl 4 (by decide) f_22 (fun _ h9 => h9) rfl dX3_partOf_22 ?_
        refine lv_aload_n hx hb dX3_partOf_25 rfl (lv_at hl 0 rfl) ?_
        refine va_get (D := G) (ci := 2) (v := .ref (q 9)) (C := RX3) (T := TX3) (N := 7) hx hb hts hi_X3 hown hK hP 0 rfl rfl 2 (by decide) f_16 (fun _ h9 => h9) rfl dX3_partOf_26 ?_
        refine lv_iload_n hx hb dX3_partOf_29 rfl (lv_at hl 1 rfl) ?_
        refine tp (y := nI x9) hx2 ?_
        refine va_iald hx hb hK hP 3 0 rfl rfl (vp_in_nI (by omega) (by omega)) dX3_partOf_30 ?_
        refine tp (y := fi x9) (congrArg fi (nI_clamp (by omega))) ?_
        refine tp (y := nI aa) ha1 ?_
        refine lv_iload_n hx hb dX3_partOf_31 rfl (lv_at hl 2 rfl) ?_
        refine tp (y := nI y9) hy2 ?_
        refine lv_iadd hx hb dX3_partOf_32 ?_
        refine tp (nI_add _ _) ?_
        refine lv_bipush (v := nI 7) hx hb dX3_partOf_33 (by decide) ?_
        refine lv_imul hx hb dX3_partOf_35 ?_
        refine tp (pk_mul _ _) ?_
        refine lv_iload_n hx hb dX3_partOf_36 rfl (lv_at hl 3 rfl) ?_
        refine tp (y := nI z9) hz2 ?_
        refine lv_iadd hx hb dX3_partOf_37 ?_
        refine tp (nI_add _ _) ?_
        refine va_iald hx hb hK hP 5 0 rfl rfl (vp_in_nI (by omega) (by omega)) dX3_partOf_38 ?_
        refine tp (y := it (((aa + y9) * 7) + z9)) (congrArg it (nI_clamp (by omega))) ?_
        exact rI (v := it (((aa + y9) * 7) + z9)) hx hb hr hlocks rfl hK hP hD hS [0, 1, 2, 3, 4, 5] () rfl (by decide) trivial dX3_partOf_39
      · skip
        have z_4 := mt (i_lt z (nI 7)).mpr c_4
        rw [nI_toInt (n := 7) (by omega)] at z_4
        refine lv_iconst (v := nI 0) hx hb dX3_partOf_19 (by decide) ?_
        exact rI (v := nI 0) hx hb hr hlocks rfl hK hP hD hS [0, 1, 2, 3, 4, 5] () rfl (by decide) trivial dX3_partOf_20
set_option maxHeartbeats 4000000 in
set_option maxRecDepth 100000 in
theorem c_X3_extreme (l : Launch) (G : va_G) (ci cz cl : ClassId) (q : Nat → Nat) (sz : Nat) (a : Nat) (k : Nat) (pc : Nat) (ic : Nat) (nu : Nat → Int32) (ad : Nat → Int32) (fi : Nat → Int32) (co : Nat → Int32) (it : Nat → Int32) (hic : ic ≤ 200) (ha : a ≤ 6) (hk : k ≤ 1) : CtI l yX3_extreme wsX3_extreme ({ frames := 1, cells := 0, slots := 0, locals := 20 }) G (TY ci cz cl) O0 [.ref (q 6), .int (nI a), .int (nI k)] [(q 6, .inr (2, [.ref (q 7), .ref (q 8), .ref (q 9), .ref (q 10), .ref (q 11), .int (nI pc), .int (nI ic)])), aI ci (q 7) 12 nu, aI ci (q 8) 12 ad, aI ci (q 9) 12 fi, aI ci (q 10) 12 co, aI ci (q 11) 1400 it] sz (fun (r : Int32) (u : Unit) => (ic = 0 ∧ r = nI 0) ∨ (0 < ic ∧ r = xC it a k (ic - 1))) (fun u : Unit => [(q 6, .inr (2, [.ref (q 7), .ref (q 8), .ref (q 9), .ref (q 10), .ref (q 11), .int (nI pc), .int (nI ic)])), aI ci (q 7) 12 nu, aI ci (q 8) 12 ad, aI ci (q 9) 12 fi, aI ci (q 10) 12 co, aI ci (q 11) 1400 it]) 0 0 := by
  refine Met.ofW (cc := cX3_extreme) (maxL := 6) (ret := (some .int)) (by decide) rfl ?_
  intro p e s m args below meth c s₁ B hml hv
  obtain ⟨rfl, ⟨hsz, hP, hK, hD0⟩, hO⟩ := hv
  have hx := B.exec
  have hb := B.bytes
  have hr := B.returns
  have hts := atoms_spec (ws := wsX3_extreme) B.pre
  have hown : s.vm.findClass RX3 = some m.cls := findClass_of_methodNamed B.named
  have hlocks := B.notSynchronized
  subst hsz
  have hD := hD0.self (sz := s.heap.size)
  generalize hAe : va_A [(q 6, .inr (2, [.ref (q 7), .ref (q 8), .ref (q 9), .ref (q 10), .ref (q 11), .int (nI pc), .int (nI ic)])), aI ci (q 7) 12 nu, aI ci (q 8) 12 ad, aI ci (q 9) 12 fi, aI ci (q 10) 12 co, aI ci (q 11) 1400 it] s.heap.size = A at hD hO ⊢
  have hA : ∀ q : Nat, s.heap.size ≤ q → A q := fun q h => by rw [← hAe]; exact Or.inr h
  have ok := ok0
  refine startH (A := A) (fun H locs hP hS => ?_) hP
  have hi_X3 := (by decide +kernel : ∀ w ∈ wsX30, w ∈ wsX3_extreme)
  have f_29 := hts (.fieldLink RX3 29 "PageReader$Pages" "itemCount" "I") (by decide +kernel)
  have f_22 := hts (.fieldLink RX3 22 "PageReader$Pages" "items" "[I") (by decide +kernel)
  have m_56 := hts (.methodLink RX3 56 Lib.Math.min.name) (by decide +kernel)
  have ms_min := hts (.static Lib.Math.min.name) (by decide +kernel)
  have mi_Math := hts (.initialized "java/lang/Math") (by decide +kernel)
  have mc_min := hts (.code Lib.Math.min.name Lib.Math.min.code 2 (some .int)) (by decide +kernel)
  have m_50 := hts (.methodLink RX3 50 Lib.Math.max.name) (by decide +kernel)
  have ms_max := hts (.static Lib.Math.max.name) (by decide +kernel)
  have mc_max := hts (.code Lib.Math.max.name Lib.Math.max.code 2 (some .int)) (by decide +kernel)
  have hl := lv_entry ([.ref (q 6), .int (nI a), .int (nI k)]) (n := 6) (Nat.le_of_ble_eq_true rfl)
  rw [lg_entry_eq]
  generalize (lg_sl ([.ref (q 6), .int (nI a), .int (nI k)]) ++ List.replicate (6 - (lg_sl ([.ref (q 6), .int (nI a), .int (nI k)])).length) Slot.unset).toArray = ls at hl ⊢
  have hl : lv_has ls 6 [(0, .ref (q 6)), (1, .int (nI a)), (2, .int (nI k))] := hl
  refine lv_aload_n hx hb dX3_extreme_0 rfl (lv_at hl 0 rfl) ?_
  refine va_get (D := G) (ci := 2) (v := .int (nI ic)) (C := RX3) (T := TX3) (N := 7) hx hb hts hi_X3 hown hK hP 0 rfl rfl 6 (by decide) f_29 (fun _ h9 => h9) rfl dX3_extreme_1 ?_
  refine lv_if_eq (tgt := 17) hx hb dX3_extreme_4 (by decide) (fun c_1 => ?_) (fun c_1 => ?_)
  · skip
    have z_1 := (nI_eq (a := ic) (b := 0) (by omega) (by omega)).mp c_1
    refine lv_iconst (v := nI 0) hx hb dX3_extreme_17 (by decide) ?_
    exact rI (v := nI 0) hx hb hr hlocks rfl hK hP hD hS [0, 1, 2, 3, 4, 5] () rfl (by decide) (Or.inl ⟨by (try dsimp only); omega, rfl⟩) dX3_extreme_18
  · skip
    have z_1 := mt (nI_eq (a := ic) (b := 0) (by omega) (by omega)).mpr c_1
    refine lv_iload_n hx hb dX3_extreme_7 rfl (lv_at hl 1 rfl) ?_
    refine lv_if_lt (tgt := 17) hx hb dX3_extreme_8 (by decide) (fun c_2 => ?_) (fun c_2 => ?_)
    · skip
      have z_2 := (nI_ltI (a := a) (b := 0) (by omega) (by omega)).mp c_2
      exfalso; omega
    · skip
      have z_2 := mt (nI_ltI (a := a) (b := 0) (by omega) (by omega)).mpr c_2
      refine lv_iload_n hx hb dX3_extreme_11 rfl (lv_at hl 1 rfl) ?_
      refine lv_bipush (v := nI 7) hx hb dX3_extreme_12 (by decide) ?_
      refine lv_icmp_lt (tgt := 19) hx hb dX3_extreme_14 (by decide) (fun c_3 => ?_) (fun c_3 => ?_)
      · skip
        have z_3 := (nI_ltI (a := a) (b := 7) (by omega) (by omega)).mp c_3
        refine lv_aload_n hx hb dX3_extreme_19 rfl (lv_at hl 0 rfl) ?_
        refine va_get (D := G) (ci := 2) (v := .ref (q 11)) (C := RX3) (T := TX3) (N := 7) hx hb hts hi_X3 hown hK hP 0 rfl rfl 4 (by decide) f_22 (fun _ h9 => h9) rfl dX3_extreme_20 ?_
        refine lv_iload_n hx hb dX3_extreme_23 rfl (lv_at hl 1 rfl) ?_
        refine va_iald hx hb hK hP 5 0 rfl rfl (vp_in_nI (by omega) (by omega)) dX3_extreme_24 ?_
        refine tp (y := it a) (congrArg it (nI_clamp (by omega))) ?_
        refine lv_istore_n (lv' := [(3, .int (it a)), (0, .ref (q 6)), (1, .int (nI a)), (2, .int (nI k))]) hx hb dX3_extreme_25 rfl hl (by decide) rfl (fun ls hl => ?_)
        refine lv_iconst (v := nI 1) hx hb dX3_extreme_26 (by decide) ?_
        refine lv_istore (lv' := [(4, .int (nI 1)), (3, .int (it a)), (0, .ref (q 6)), (1, .int (nI a)), (2, .int (nI k))]) hx hb dX3_extreme_27 hl (by decide) rfl (fun ls hl => ?_)
        have loop_29 : ∀ (fuel : Nat) (i : Nat) (H : Heap) (locs : List Loc), ic - i < fuel → (1 ≤ i ∧ i ≤ 201 ∧ i ≤ ic) → va_P G vwCl [(q 6, .inr (2, [.ref (q 7), .ref (q 8), .ref (q 9), .ref (q 10), .ref (q 11), .int (nI pc), .int (nI ic)])), aI ci (q 7) 12 nu, aI ci (q 8) 12 ad, aI ci (q 9) 12 fi, aI ci (q 10) 12 co, aI ci (q 11) 1400 it] H → va_D A [(q 6, .inr (2, [.ref (q 7), .ref (q 8), .ref (q 9), .ref (q 10), .ref (q 11), .int (nI pc), .int (nI ic)])), aI ci (q 7) 12 nu, aI ci (q 8) 12 ad, aI ci (q 9) 12 fi, aI ci (q 10) 12 co, aI ci (q 11) 1400 it] → va_S A s.heap H locs → ∀ ls : Array Slot, lv_has ls 6 [(0, .ref (q 6)), (1, .int (nI a)), (2, .int (nI k)), (3, .int (xC it a k (i - 1))), (4, .int (nI i))] → W p l e (headSpec wsX3_extreme ({ frames := 1, cells := 0, slots := 0, locals := 20 })).room s m ([.ref (q 6), .int (nI a), .int (nI k)] : List Value).toArray below meth c H locs 0 0 (MQ below (va_Qi (fun (r : Int32) (u : Unit) => (ic = 0 ∧ r = nI 0) ∨ (0 < ic ∧ r = xC it a k (ic - 1))) (fun u t => PQ G (TY ci cz cl) A [(q 6, .inr (2, [.ref (q 7), .ref (q 8), .ref (q 9), .ref (q 10), .ref (q 11), .int (nI pc), .int (nI ic)])), aI ci (q 7) 12 nu, aI ci (q 8) 12 ad, aI ci (q 9) 12 fi, aI ci (q 10) 12 co, aI ci (q 11) 1400 it] t) A) ([.ref (q 6), .int (nI a), .int (nI k)] : List Value).toArray s 0 0 A) (F0 m 29 ls []) := by
          intro fuel
          induction fuel with
          | zero => intro i H locs hf; exact absurd hf (by omega)
          | succ fuel ih =>
            intro i H locs hf hi hP hD hS ls hl
            refine lv_iload hx hb dX3_extreme_29 (lv_at hl 4 rfl) ?_
            refine lv_aload_n hx hb dX3_extreme_31 rfl (lv_at hl 0 rfl) ?_
            refine va_get (D := G) (ci := 2) (v := .int (nI ic)) (C := RX3) (T := TX3) (N := 7) hx hb hts hi_X3 hown hK hP 0 rfl rfl 6 (by decide) f_29 (fun _ h9 => h9) rfl dX3_extreme_32 ?_
            refine lv_icmp_ge (tgt := 78) hx hb dX3_extreme_35 (by decide) (fun c_4 => ?_) (fun c_4 => ?_)
            · skip
              have z_4 := (nI_leI (a := ic) (b := i) (by omega) (by omega)).mp c_4
              refine lv_iload_n hx hb dX3_extreme_78 rfl (lv_at hl 3 rfl) ?_
              exact rI (v := xC it a k (i - 1)) hx hb hr hlocks rfl hK hP hD hS [0, 1, 2, 3, 4, 5] () rfl (by decide) (Or.inr ⟨by (try dsimp only); omega, congrArg (xC it a k) (by (try dsimp only); omega)⟩) dX3_extreme_79
            · skip
              have z_4 := mt (nI_leI (a := ic) (b := i) (by omega) (by omega)).mpr c_4
              refine lv_aload_n hx hb dX3_extreme_38 rfl (lv_at hl 0 rfl) ?_
              refine va_get (D := G) (ci := 2) (v := .ref (q 11)) (C := RX3) (T := TX3) (N := 7) hx hb hts hi_X3 hown hK hP 0 rfl rfl 4 (by decide) f_22 (fun _ h9 => h9) rfl dX3_extreme_39 ?_
              refine lv_iload hx hb dX3_extreme_42 (lv_at hl 4 rfl) ?_
              refine lv_bipush (v := nI 7) hx hb dX3_extreme_44 (by decide) ?_
              refine lv_imul hx hb dX3_extreme_46 ?_
              refine tp (pk_mul _ _) ?_
              refine lv_iload_n hx hb dX3_extreme_47 rfl (lv_at hl 1 rfl) ?_
              refine lv_iadd hx hb dX3_extreme_48 ?_
              refine tp (nI_add _ _) ?_
              refine va_iald hx hb hK hP 5 0 rfl rfl (vp_in_nI (by omega) (by omega)) dX3_extreme_49 ?_
              refine tp (y := it ((i * 7) + a)) (congrArg it (nI_clamp (by omega))) ?_
              refine lv_istore (lv' := [(5, .int (it ((i * 7) + a))), (0, .ref (q 6)), (1, .int (nI a)), (2, .int (nI k)), (3, .int (xC it a k (i - 1))), (4, .int (nI i))]) hx hb dX3_extreme_50 hl (by decide) rfl (fun ls hl => ?_)
              refine lv_iload_n hx hb dX3_extreme_52 rfl (lv_at hl 3 rfl) ?_
              refine lv_if_eq (tgt := 65) hx hb dX3_extreme_53 (by decide) (fun c_5 => ?_) (fun c_5 => ?_)
              · skip
                have z_5 := (nI_eq (a := k) (b := 0) (by omega) (by omega)).mp c_5
                refine lv_iload_n hx hb dX3_extreme_65 rfl (lv_at hl 4 rfl) ?_
                refine lv_iload hx hb dX3_extreme_66 (lv_at hl 0 rfl) ?_
                refine va_mmin hx hb (by rw [hml]; exact hl.1.symm) hown m_56 ms_min mi_Math mc_min (Nat.le_of_ble_eq_true rfl) (Nat.le_of_ble_eq_true rfl) (Nat.zero_le _) (Nat.zero_le _) dX3_extreme_68 ?_
                refine tp (y := xC it a k (i + 1 - 1)) (by first | exact xC_1 (by omega) (by omega) | exact xC_0 (by omega) (by omega)) ?_
                refine lv_istore_n (lv' := [(3, .int (xC it a k (i + 1 - 1))), (5, .int (it ((i * 7) + a))), (0, .ref (q 6)), (1, .int (nI a)), (2, .int (nI k)), (4, .int (nI i))]) hx hb dX3_extreme_71 rfl hl (by decide) rfl (fun ls hl => ?_)
                refine lv_iinc (v := nI (i + 1)) (lv' := [(4, .int (nI (i + 1))), (3, .int (xC it a k (i + 1 - 1))), (5, .int (it ((i * 7) + a))), (0, .ref (q 6)), (1, .int (nI a)), (2, .int (nI k))]) hx hb dX3_extreme_72 hl (k := 5) rfl (nI_add _ _) (by decide) rfl (fun ls hl => ?_)
                refine lv_goto (tgt := 29) hx hb dX3_extreme_75 (by decide) ?_
                exact ih (i + 1) H locs (by omega) (by omega) (hP.sub [0, 1, 2, 3, 4, 5] rfl) (hD.sub [0, 1, 2, 3, 4, 5] (by decide) rfl) hS ls (lv_sub hl [3, 4, 5, 1, 0] rfl)
              · skip
                have z_5 := mt (nI_eq (a := k) (b := 0) (by omega) (by omega)).mpr c_5
                refine lv_iload_n hx hb dX3_extreme_56 rfl (lv_at hl 4 rfl) ?_
                refine lv_iload hx hb dX3_extreme_57 (lv_at hl 0 rfl) ?_
                refine va_mmax hx hb (by rw [hml]; exact hl.1.symm) hown m_50 ms_max mi_Math mc_max (Nat.le_of_ble_eq_true rfl) (Nat.le_of_ble_eq_true rfl) (Nat.zero_le _) (Nat.zero_le _) dX3_extreme_59 ?_
                refine lv_goto (tgt := 71) hx hb dX3_extreme_62 (by decide) ?_
                refine tp (y := xC it a k (i + 1 - 1)) (by first | exact xC_1 (by omega) (by omega) | exact xC_0 (by omega) (by omega)) ?_
                refine lv_istore_n (lv' := [(3, .int (xC it a k (i + 1 - 1))), (5, .int (it ((i * 7) + a))), (0, .ref (q 6)), (1, .int (nI a)), (2, .int (nI k)), (4, .int (nI i))]) hx hb dX3_extreme_71 rfl hl (by decide) rfl (fun ls hl => ?_)
                refine lv_iinc (v := nI (i + 1)) (lv' := [(4, .int (nI (i + 1))), (3, .int (xC it a k (i + 1 - 1))), (5, .int (it ((i * 7) + a))), (0, .ref (q 6)), (1, .int (nI a)), (2, .int (nI k))]) hx hb dX3_extreme_72 hl (k := 5) rfl (nI_add _ _) (by decide) rfl (fun ls hl => ?_)
                refine lv_goto (tgt := 29) hx hb dX3_extreme_75 (by decide) ?_
                exact ih (i + 1) H locs (by omega) (by omega) (hP.sub [0, 1, 2, 3, 4, 5] rfl) (hD.sub [0, 1, 2, 3, 4, 5] (by decide) rfl) hS ls (lv_sub hl [3, 4, 5, 1, 0] rfl)
        exact loop_29 (ic - 1 + 1) 1 H locs (Nat.lt_succ_self _) (by omega) (hP.sub [0, 1, 2, 3, 4, 5] rfl) (hD.sub [0, 1, 2, 3, 4, 5] (by decide) rfl) hS ls (lv_sub hl [2, 3, 4, 1, 0] rfl)
      · skip
        have z_3 := mt (nI_ltI (a := a) (b := 7) (by omega) (by omega)).mpr c_3
        exfalso; omega
set_option maxHeartbeats 4000000 in
set_option maxRecDepth 100000 in
theorem c_X3_greatest (l : Launch) (G : va_G) (ci cz cl : ClassId) (q : Nat → Nat) (sz : Nat) (a : Nat) (pc : Nat) (ic : Nat) (nu : Nat → Int32) (ad : Nat → Int32) (fi : Nat → Int32) (co : Nat → Int32) (it : Nat → Int32) (hic : ic ≤ 200) (ha : a ≤ 6) : CtI l yX3_greatest wsX3_greatest ({ frames := 2, cells := 0, slots := 0, locals := 45 }) G (TY ci cz cl) O0 [.ref (q 6), .int (nI a)] [(q 6, .inr (2, [.ref (q 7), .ref (q 8), .ref (q 9), .ref (q 10), .ref (q 11), .int (nI pc), .int (nI ic)])), aI ci (q 7) 12 nu, aI ci (q 8) 12 ad, aI ci (q 9) 12 fi, aI ci (q 10) 12 co, aI ci (q 11) 1400 it] sz (fun (r : Int32) (u : Unit) => (ic = 0 ∧ r = nI 0) ∨ (0 < ic ∧ r = xC it a 1 (ic - 1))) (fun u : Unit => [(q 6, .inr (2, [.ref (q 7), .ref (q 8), .ref (q 9), .ref (q 10), .ref (q 11), .int (nI pc), .int (nI ic)])), aI ci (q 7) 12 nu, aI ci (q 8) 12 ad, aI ci (q 9) 12 fi, aI ci (q 10) 12 co, aI ci (q 11) 1400 it]) 0 0 := by
  refine Met.ofW (cc := cX3_greatest) (maxL := 2) (ret := (some .int)) (by decide) rfl ?_
  intro p e s m args below meth c s₁ B hml hv
  obtain ⟨rfl, ⟨hsz, hP, hK, hD0⟩, hO⟩ := hv
  have hx := B.exec
  have hb := B.bytes
  have hr := B.returns
  have hts := atoms_spec (ws := wsX3_greatest) B.pre
  have hown : s.vm.findClass RX3 = some m.cls := findClass_of_methodNamed B.named
  have hlocks := B.notSynchronized
  subst hsz
  have hD := hD0.self (sz := s.heap.size)
  generalize hAe : va_A [(q 6, .inr (2, [.ref (q 7), .ref (q 8), .ref (q 9), .ref (q 10), .ref (q 11), .int (nI pc), .int (nI ic)])), aI ci (q 7) 12 nu, aI ci (q 8) 12 ad, aI ci (q 9) 12 fi, aI ci (q 10) 12 co, aI ci (q 11) 1400 it] s.heap.size = A at hD hO ⊢
  have hA : ∀ q : Nat, s.heap.size ≤ q → A q := fun q h => by rw [← hAe]; exact Or.inr h
  have ok := ok0
  refine startH (A := A) (fun H locs hP hS => ?_) hP
  have hl := lv_entry ([.ref (q 6), .int (nI a)]) (n := 2) (Nat.le_of_ble_eq_true rfl)
  rw [lg_entry_eq]
  generalize (lg_sl ([.ref (q 6), .int (nI a)]) ++ List.replicate (2 - (lg_sl ([.ref (q 6), .int (nI a)])).length) Slot.unset).toArray = ls at hl ⊢
  have hl : lv_has ls 2 [(0, .ref (q 6)), (1, .int (nI a))] := hl
  refine lv_aload_n hx hb dX3_greatest_0 rfl (lv_at hl 0 rfl) ?_
  refine lv_iload_n hx hb dX3_greatest_1 rfl (lv_at hl 1 rfl) ?_
  refine lv_iconst (v := nI 1) hx hb dX3_greatest_2 (by decide) ?_
  refine jI (va_runV (As := [.int (nI a), .int (nI 1)]) (rest := []) ⟨hx, hb, hml, hown, hts⟩ (c_X3_extreme l G ci cz cl q H.size a 1 pc ic nu ad fi co it (by omega) (by omega) (by omega)) (cwV 2 hts gX3_greatest_X3_extreme rfl rfl rfl (by decide +kernel) ⟨(Nat.le_of_ble_eq_true rfl), (Nat.le_of_ble_eq_true rfl)⟩) (pV (wc := [(q 6, .inr (2, [.ref (q 7), .ref (q 8), .ref (q 9), .ref (q 10), .ref (q 11), .int (nI pc), .int (nI ic)])), aI ci (q 7) 12 nu, aI ci (q 8) 12 ad, aI ci (q 9) 12 fi, aI ci (q 10) 12 co, aI ci (q 11) 1400 it]) ok hK hP hD hS hA hO [0, 1, 2, 3, 4, 5] rfl (by decide) 0 rfl rfl) rfl rfl hl.1 rfl (lv_room (Nat.le_of_ble_eq_true rfl)) dX3_greatest_3 ⟨(Nat.le_of_ble_eq_true rfl), (Nat.le_of_ble_eq_true rfl)⟩) (wr := []) hP hD hS hA [0, 1, 2, 3, 4, 5] [] rfl rfl (by decide) (by decide) (fun r_1 u H locs hw_1 hP hD hS => ?_)
  try dsimp only at hw_1
  have h_1 := hw_1
  have hP : va_P G vwCl [(q 6, .inr (2, [.ref (q 7), .ref (q 8), .ref (q 9), .ref (q 10), .ref (q 11), .int (nI pc), .int (nI ic)])), aI ci (q 7) 12 nu, aI ci (q 8) 12 ad, aI ci (q 9) 12 fi, aI ci (q 10) 12 co, aI ci (q 11) 1400 it] H := hP
  have hD : va_D A [(q 6, .inr (2, [.ref (q 7), .ref (q 8), .ref (q 9), .ref (q 10), .ref (q 11), .int (nI pc), .int (nI ic)])), aI ci (q 7) 12 nu, aI ci (q 8) 12 ad, aI ci (q 9) 12 fi, aI ci (q 10) 12 co, aI ci (q 11) 1400 it] := hD
  exact rI (v := r_1) hx hb hr hlocks rfl hK hP hD hS [0, 1, 2, 3, 4, 5] () rfl (by decide) h_1 dX3_greatest_6
set_option maxHeartbeats 4000000 in
set_option maxRecDepth 100000 in
theorem c_X3_least (l : Launch) (G : va_G) (ci cz cl : ClassId) (q : Nat → Nat) (sz : Nat) (a : Nat) (pc : Nat) (ic : Nat) (nu : Nat → Int32) (ad : Nat → Int32) (fi : Nat → Int32) (co : Nat → Int32) (it : Nat → Int32) (hic : ic ≤ 200) (ha : a ≤ 6) : CtI l yX3_least wsX3_least ({ frames := 2, cells := 0, slots := 0, locals := 45 }) G (TY ci cz cl) O0 [.ref (q 6), .int (nI a)] [(q 6, .inr (2, [.ref (q 7), .ref (q 8), .ref (q 9), .ref (q 10), .ref (q 11), .int (nI pc), .int (nI ic)])), aI ci (q 7) 12 nu, aI ci (q 8) 12 ad, aI ci (q 9) 12 fi, aI ci (q 10) 12 co, aI ci (q 11) 1400 it] sz (fun (r : Int32) (u : Unit) => (ic = 0 ∧ r = nI 0) ∨ (0 < ic ∧ r = xC it a 0 (ic - 1))) (fun u : Unit => [(q 6, .inr (2, [.ref (q 7), .ref (q 8), .ref (q 9), .ref (q 10), .ref (q 11), .int (nI pc), .int (nI ic)])), aI ci (q 7) 12 nu, aI ci (q 8) 12 ad, aI ci (q 9) 12 fi, aI ci (q 10) 12 co, aI ci (q 11) 1400 it]) 0 0 := by
  refine Met.ofW (cc := cX3_least) (maxL := 2) (ret := (some .int)) (by decide) rfl ?_
  intro p e s m args below meth c s₁ B hml hv
  obtain ⟨rfl, ⟨hsz, hP, hK, hD0⟩, hO⟩ := hv
  have hx := B.exec
  have hb := B.bytes
  have hr := B.returns
  have hts := atoms_spec (ws := wsX3_least) B.pre
  have hown : s.vm.findClass RX3 = some m.cls := findClass_of_methodNamed B.named
  have hlocks := B.notSynchronized
  subst hsz
  have hD := hD0.self (sz := s.heap.size)
  generalize hAe : va_A [(q 6, .inr (2, [.ref (q 7), .ref (q 8), .ref (q 9), .ref (q 10), .ref (q 11), .int (nI pc), .int (nI ic)])), aI ci (q 7) 12 nu, aI ci (q 8) 12 ad, aI ci (q 9) 12 fi, aI ci (q 10) 12 co, aI ci (q 11) 1400 it] s.heap.size = A at hD hO ⊢
  have hA : ∀ q : Nat, s.heap.size ≤ q → A q := fun q h => by rw [← hAe]; exact Or.inr h
  have ok := ok0
  refine startH (A := A) (fun H locs hP hS => ?_) hP
  have hl := lv_entry ([.ref (q 6), .int (nI a)]) (n := 2) (Nat.le_of_ble_eq_true rfl)
  rw [lg_entry_eq]
  generalize (lg_sl ([.ref (q 6), .int (nI a)]) ++ List.replicate (2 - (lg_sl ([.ref (q 6), .int (nI a)])).length) Slot.unset).toArray = ls at hl ⊢
  have hl : lv_has ls 2 [(0, .ref (q 6)), (1, .int (nI a))] := hl
  refine lv_aload_n hx hb dX3_least_0 rfl (lv_at hl 0 rfl) ?_
  refine lv_iload_n hx hb dX3_least_1 rfl (lv_at hl 1 rfl) ?_
  refine lv_iconst (v := nI 0) hx hb dX3_least_2 (by decide) ?_
  refine jI (va_runV (As := [.int (nI a), .int (nI 0)]) (rest := []) ⟨hx, hb, hml, hown, hts⟩ (c_X3_extreme l G ci cz cl q H.size a 0 pc ic nu ad fi co it (by omega) (by omega) (by omega)) (cwV 2 hts gX3_least_X3_extreme rfl rfl rfl (by decide +kernel) ⟨(Nat.le_of_ble_eq_true rfl), (Nat.le_of_ble_eq_true rfl)⟩) (pV (wc := [(q 6, .inr (2, [.ref (q 7), .ref (q 8), .ref (q 9), .ref (q 10), .ref (q 11), .int (nI pc), .int (nI ic)])), aI ci (q 7) 12 nu, aI ci (q 8) 12 ad, aI ci (q 9) 12 fi, aI ci (q 10) 12 co, aI ci (q 11) 1400 it]) ok hK hP hD hS hA hO [0, 1, 2, 3, 4, 5] rfl (by decide) 0 rfl rfl) rfl rfl hl.1 rfl (lv_room (Nat.le_of_ble_eq_true rfl)) dX3_least_3 ⟨(Nat.le_of_ble_eq_true rfl), (Nat.le_of_ble_eq_true rfl)⟩) (wr := []) hP hD hS hA [0, 1, 2, 3, 4, 5] [] rfl rfl (by decide) (by decide) (fun r_1 u H locs hw_1 hP hD hS => ?_)
  try dsimp only at hw_1
  have h_1 := hw_1
  have hP : va_P G vwCl [(q 6, .inr (2, [.ref (q 7), .ref (q 8), .ref (q 9), .ref (q 10), .ref (q 11), .int (nI pc), .int (nI ic)])), aI ci (q 7) 12 nu, aI ci (q 8) 12 ad, aI ci (q 9) 12 fi, aI ci (q 10) 12 co, aI ci (q 11) 1400 it] H := hP
  have hD : va_D A [(q 6, .inr (2, [.ref (q 7), .ref (q 8), .ref (q 9), .ref (q 10), .ref (q 11), .int (nI pc), .int (nI ic)])), aI ci (q 7) 12 nu, aI ci (q 8) 12 ad, aI ci (q 9) 12 fi, aI ci (q 10) 12 co, aI ci (q 11) 1400 it] := hD
  exact rI (v := r_1) hx hb hr hlocks rfl hK hP hD hS [0, 1, 2, 3, 4, 5] () rfl (by decide) h_1 dX3_least_6
