set_option maxHeartbeats 4000000 in
set_option maxRecDepth 100000 in
theorem c_X5_begin (l : Launch) (G : va_G) (ci cz cl : ClassId) (q : Nat → Nat) (sz : Nat) (kc : Nat) (dp : Nat) (fo : Int32) (sl : Int32) (now : Nat → Int32) (kept : Nat → Int32) : CtV l yX5_begin wsX5_begin ({ frames := 0, cells := 0, slots := 0, locals := 0 }) G (TY ci cz cl) O0 [.ref (q 17)] [(q 17, .inr (4, [.ref (q 5), .ref (q 18), .ref (q 19), .int (nI kc), .int (nI dp), .int fo, .int sl])), aI ci (q 18) 8 now, aI ci (q 19) 160 kept] sz (fun (u : Int32 × (Nat → Int32)) => Zr 8 u.2) (fun u : Int32 × (Nat → Int32) => [(q 17, .inr (4, [.ref (q 5), .ref (q 18), .ref (q 19), .int (nI 0), .int (nI dp), .int (-1), .int u.1])), aI ci (q 18) 8 u.2, aI ci (q 19) 160 kept]) 0 0 := by
  refine Met.ofW (cc := cX5_begin) (maxL := 2) (ret := none) (by decide) rfl ?_
  intro p e s m args below meth c s₁ B hml hv
  obtain ⟨rfl, ⟨hsz, hP, hK, hD0⟩, hO⟩ := hv
  have hx := B.exec
  have hb := B.bytes
  have hr := B.returns
  have hts := atoms_spec (ws := wsX5_begin) B.pre
  have hown : s.vm.findClass RX5 = some m.cls := findClass_of_methodNamed B.named
  have hlocks := B.notSynchronized
  subst hsz
  have hD := hD0.self (sz := s.heap.size)
  generalize hAe : va_A [(q 17, .inr (4, [.ref (q 5), .ref (q 18), .ref (q 19), .int (nI kc), .int (nI dp), .int fo, .int sl])), aI ci (q 18) 8 now, aI ci (q 19) 160 kept] s.heap.size = A at hD hO ⊢
  have hA : ∀ q : Nat, s.heap.size ≤ q → A q := fun q h => by rw [← hAe]; exact Or.inr h
  have ok := ok0
  refine startH (A := A) (fun H locs hP hS => ?_) hP
  have hi_X5 := (by decide +kernel : ∀ w ∈ wsX50, w ∈ wsX5_begin)
  have f_20 := hts (.fieldLink RX5 20 "PageReader$Place" "keptCount" "I") (by decide +kernel)
  have f_27 := hts (.fieldLink RX5 27 "PageReader$Place" "font" "I") (by decide +kernel)
  have f_30 := hts (.fieldLink RX5 30 "PageReader$Place" "scale" "I") (by decide +kernel)
  have f_13 := hts (.fieldLink RX5 13 "PageReader$Place" "now" "[I") (by decide +kernel)
  have hl := lv_entry ([.ref (q 17)]) (n := 2) (Nat.le_of_ble_eq_true rfl)
  rw [lg_entry_eq]
  generalize (lg_sl ([.ref (q 17)]) ++ List.replicate (2 - (lg_sl ([.ref (q 17)])).length) Slot.unset).toArray = ls at hl ⊢
  have hl : lv_has ls 2 [(0, .ref (q 17))] := hl
  refine lv_iconst (v := nI 0) hx hb dX5_begin_0 (by decide) ?_
  refine lv_istore_n (lv' := [(1, .int (nI 0)), (0, .ref (q 17))]) hx hb dX5_begin_1 rfl hl (by decide) rfl (fun ls hl => ?_)
  have loop_2 : ∀ (fuel : Nat) (i : Nat) (now1 : Nat → Int32) (H : Heap) (locs : List Loc), 8 - i < fuel → (i ≤ 8) → (Zr i now1) → va_P G vwCl [(q 17, .inr (4, [.ref (q 5), .ref (q 18), .ref (q 19), .int (nI kc), .int (nI dp), .int fo, .int sl])), aI ci (q 18) 8 now1, aI ci (q 19) 160 kept] H → va_D A [(q 17, .inr (4, [.ref (q 5), .ref (q 18), .ref (q 19), .int (nI kc), .int (nI dp), .int fo, .int sl])), aI ci (q 18) 8 now1, aI ci (q 19) 160 kept] → va_S A s.heap H locs → ∀ ls : Array Slot, lv_has ls 2 [(0, .ref (q 17)), (1, .int (nI i))] → W p l e (headSpec wsX5_begin ({ frames := 0, cells := 0, slots := 0, locals := 0 })).room s m ([.ref (q 17)] : List Value).toArray below meth c H locs 0 0 (MQ below (va_Qv (fun (u : Int32 × (Nat → Int32)) => Zr 8 u.2) (fun u t => PQ G (TY ci cz cl) A [(q 17, .inr (4, [.ref (q 5), .ref (q 18), .ref (q 19), .int (nI 0), .int (nI dp), .int (-1), .int u.1])), aI ci (q 18) 8 u.2, aI ci (q 19) 160 kept] t) A) ([.ref (q 17)] : List Value).toArray s 0 0 A) (F0 m 2 ls []) := by
    intro fuel
    induction fuel with
    | zero => intro i now1 H locs hf; exact absurd hf (by omega)
    | succ fuel ih =>
      intro i now1 H locs hf hi hz hP hD hS ls hl
      refine lv_iload_n hx hb dX5_begin_2 rfl (lv_at hl 1 rfl) ?_
      refine lv_bipush (v := nI 8) hx hb dX5_begin_3 (by decide) ?_
      refine lv_icmp_ge (tgt := 21) hx hb dX5_begin_5 (by decide) (fun c_1 => ?_) (fun c_1 => ?_)
      · skip
        have z_1 := (nI_leI (a := 8) (b := i) (by omega) (by omega)).mp c_1
        refine lv_aload_n hx hb dX5_begin_21 rfl (lv_at hl 0 rfl) ?_
        refine lv_iconst (v := nI 0) hx hb dX5_begin_22 (by decide) ?_
        refine va_put (D := G) (ci := 4) (v := .int (nI 0)) (ty := .int) (C := RX5) (T := TX5) (N := 7) hx hb hts hi_X5 tyX5 tyX5_ok nmX5 hown hK hP hD hS 0 rfl rfl 3 (by decide) f_20 (fun _ h9 => h9) rfl (by decide +kernel) rfl rfl (Nat.le_of_ble_eq_true rfl) dX5_begin_23 (fun H locs hP hD hS => ?_)
        have hP : va_P G vwCl [(q 17, .inr (4, [.ref (q 5), .ref (q 18), .ref (q 19), .int (nI 0), .int (nI dp), .int fo, .int sl])), aI ci (q 18) 8 now1, aI ci (q 19) 160 kept] H := hP
        have hD : va_D A [(q 17, .inr (4, [.ref (q 5), .ref (q 18), .ref (q 19), .int (nI 0), .int (nI dp), .int fo, .int sl])), aI ci (q 18) 8 now1, aI ci (q 19) 160 kept] := hD
        refine lv_aload_n hx hb dX5_begin_26 rfl (lv_at hl 0 rfl) ?_
        refine lv_iconst (v := (-1)) hx hb dX5_begin_27 (by decide) ?_
        refine va_put (D := G) (ci := 4) (v := .int (-1)) (ty := .int) (C := RX5) (T := TX5) (N := 7) hx hb hts hi_X5 tyX5 tyX5_ok nmX5 hown hK hP hD hS 0 rfl rfl 5 (by decide) f_27 (fun _ h9 => h9) rfl (by decide +kernel) rfl rfl (Nat.le_of_ble_eq_true rfl) dX5_begin_28 (fun H locs hP hD hS => ?_)
        have hP : va_P G vwCl [(q 17, .inr (4, [.ref (q 5), .ref (q 18), .ref (q 19), .int (nI 0), .int (nI dp), .int (-1), .int sl])), aI ci (q 18) 8 now1, aI ci (q 19) 160 kept] H := hP
        have hD : va_D A [(q 17, .inr (4, [.ref (q 5), .ref (q 18), .ref (q 19), .int (nI 0), .int (nI dp), .int (-1), .int sl])), aI ci (q 18) 8 now1, aI ci (q 19) 160 kept] := hD
        refine lv_aload_n hx hb dX5_begin_31 rfl (lv_at hl 0 rfl) ?_
        refine lv_iconst (v := nI 0) hx hb dX5_begin_32 (by decide) ?_
        refine va_put (D := G) (ci := 4) (v := .int (nI 0)) (ty := .int) (C := RX5) (T := TX5) (N := 7) hx hb hts hi_X5 tyX5 tyX5_ok nmX5 hown hK hP hD hS 0 rfl rfl 6 (by decide) f_30 (fun _ h9 => h9) rfl (by decide +kernel) rfl rfl (Nat.le_of_ble_eq_true rfl) dX5_begin_33 (fun H locs hP hD hS => ?_)
        have hP : va_P G vwCl [(q 17, .inr (4, [.ref (q 5), .ref (q 18), .ref (q 19), .int (nI 0), .int (nI dp), .int (-1), .int (nI 0)])), aI ci (q 18) 8 now1, aI ci (q 19) 160 kept] H := hP
        have hD : va_D A [(q 17, .inr (4, [.ref (q 5), .ref (q 18), .ref (q 19), .int (nI 0), .int (nI dp), .int (-1), .int (nI 0)])), aI ci (q 18) 8 now1, aI ci (q 19) 160 kept] := hD
        exact rV hx hb hr hlocks hK hP hD hS [0, 1, 2] (nI 0, now1) rfl (by decide) (Zr_c hz (by (try dsimp only); omega)) dX5_begin_36
      · skip
        have z_1 := mt (nI_leI (a := 8) (b := i) (by omega) (by omega)).mpr c_1
        refine lv_aload_n hx hb dX5_begin_8 rfl (lv_at hl 0 rfl) ?_
        refine va_get (D := G) (ci := 4) (v := .ref (q 18)) (C := RX5) (T := TX5) (N := 7) hx hb hts hi_X5 hown hK hP 0 rfl rfl 1 (by decide) f_13 (fun _ h9 => h9) rfl dX5_begin_9 ?_
        refine lv_iload_n hx hb dX5_begin_12 rfl (lv_at hl 1 rfl) ?_
        refine lv_iconst (v := nI 0) hx hb dX5_begin_13 (by decide) ?_
        refine va_iast hx hb hK hP hD hS 1 0 rfl rfl (vp_in_nI (by omega) (by omega)) dX5_begin_14 (fun H locs hP hD hS => ?_)
        rw [nI_clamp (by omega)] at hP hD
        have hP : va_P G vwCl [(q 17, .inr (4, [.ref (q 5), .ref (q 18), .ref (q 19), .int (nI kc), .int (nI dp), .int fo, .int sl])), aI ci (q 18) 8 (upd now1 i (nI 0)), aI ci (q 19) 160 kept] H := hP
        have hD : va_D A [(q 17, .inr (4, [.ref (q 5), .ref (q 18), .ref (q 19), .int (nI kc), .int (nI dp), .int fo, .int sl])), aI ci (q 18) 8 (upd now1 i (nI 0)), aI ci (q 19) 160 kept] := hD
        refine lv_iinc (v := nI (i + 1)) (lv' := [(1, .int (nI (i + 1))), (0, .ref (q 17))]) hx hb dX5_begin_15 hl (k := 1) rfl (nI_add _ _) (by decide) rfl (fun ls hl => ?_)
        refine lv_goto (tgt := 2) hx hb dX5_begin_18 (by decide) ?_
        exact ih (i + 1) (upd now1 i (nI 0)) H locs (by omega) (by omega) (Zr_s hz) (hP.sub [0, 1, 2] rfl) (hD.sub [0, 1, 2] (by decide) rfl) hS ls (lv_sub hl [1, 0] rfl)
  exact loop_2 (8 - 0 + 1) 0 now H locs (Nat.lt_succ_self _) (by omega) Zr_0 (hP.sub [0, 1, 2] rfl) (hD.sub [0, 1, 2] (by decide) rfl) hS ls (lv_sub hl [1, 0] rfl)
set_option maxHeartbeats 4000000 in
set_option maxRecDepth 100000 in
theorem c_X5_clear (l : Launch) (G : va_G) (ci cz cl : ClassId) (q : Nat → Nat) (sz : Nat) (kc : Nat) (dp : Nat) (fo : Int32) (sl : Int32) (now : Nat → Int32) (kept : Nat → Int32) : CtV l yX5_clear wsX5_clear ({ frames := 1, cells := 0, slots := 0, locals := 21 }) G (TY ci cz cl) O0 [.ref (q 17)] [(q 17, .inr (4, [.ref (q 5), .ref (q 18), .ref (q 19), .int (nI kc), .int (nI dp), .int fo, .int sl])), aI ci (q 18) 8 now, aI ci (q 19) 160 kept] sz (fun (u : Int32 × (Nat → Int32)) => Zr 8 u.2) (fun u : Int32 × (Nat → Int32) => [(q 17, .inr (4, [.ref (q 5), .ref (q 18), .ref (q 19), .int (nI 0), .int (nI 0), .int (-1), .int u.1])), aI ci (q 18) 8 u.2, aI ci (q 19) 160 kept]) 0 0 := by
  refine Met.ofW (cc := cX5_clear) (maxL := 1) (ret := none) (by decide) rfl ?_
  intro p e s m args below meth c s₁ B hml hv
  obtain ⟨rfl, ⟨hsz, hP, hK, hD0⟩, hO⟩ := hv
  have hx := B.exec
  have hb := B.bytes
  have hr := B.returns
  have hts := atoms_spec (ws := wsX5_clear) B.pre
  have hown : s.vm.findClass RX5 = some m.cls := findClass_of_methodNamed B.named
  have hlocks := B.notSynchronized
  subst hsz
  have hD := hD0.self (sz := s.heap.size)
  generalize hAe : va_A [(q 17, .inr (4, [.ref (q 5), .ref (q 18), .ref (q 19), .int (nI kc), .int (nI dp), .int fo, .int sl])), aI ci (q 18) 8 now, aI ci (q 19) 160 kept] s.heap.size = A at hD hO ⊢
  have hA : ∀ q : Nat, s.heap.size ≤ q → A q := fun q h => by rw [← hAe]; exact Or.inr h
  have ok := ok0
  refine startH (A := A) (fun H locs hP hS => ?_) hP
  have hi_X5 := (by decide +kernel : ∀ w ∈ wsX50, w ∈ wsX5_clear)
  have f_24 := hts (.fieldLink RX5 24 "PageReader$Place" "depth" "I") (by decide +kernel)
  have hl := lv_entry ([.ref (q 17)]) (n := 1) (Nat.le_of_ble_eq_true rfl)
  rw [lg_entry_eq]
  generalize (lg_sl ([.ref (q 17)]) ++ List.replicate (1 - (lg_sl ([.ref (q 17)])).length) Slot.unset).toArray = ls at hl ⊢
  have hl : lv_has ls 1 [(0, .ref (q 17))] := hl
  refine lv_aload_n hx hb dX5_clear_0 rfl (lv_at hl 0 rfl) ?_
  refine lv_iconst (v := nI 0) hx hb dX5_clear_1 (by decide) ?_
  refine va_put (D := G) (ci := 4) (v := .int (nI 0)) (ty := .int) (C := RX5) (T := TX5) (N := 7) hx hb hts hi_X5 tyX5 tyX5_ok nmX5 hown hK hP hD hS 0 rfl rfl 4 (by decide) f_24 (fun _ h9 => h9) rfl (by decide +kernel) rfl rfl (Nat.le_of_ble_eq_true rfl) dX5_clear_2 (fun H locs hP hD hS => ?_)
  have hP : va_P G vwCl [(q 17, .inr (4, [.ref (q 5), .ref (q 18), .ref (q 19), .int (nI kc), .int (nI 0), .int fo, .int sl])), aI ci (q 18) 8 now, aI ci (q 19) 160 kept] H := hP
  have hD : va_D A [(q 17, .inr (4, [.ref (q 5), .ref (q 18), .ref (q 19), .int (nI kc), .int (nI 0), .int fo, .int sl])), aI ci (q 18) 8 now, aI ci (q 19) 160 kept] := hD
  refine lv_aload_n hx hb dX5_clear_5 rfl (lv_at hl 0 rfl) ?_
  refine jV (va_runV (As := []) (rest := []) ⟨hx, hb, hml, hown, hts⟩ (c_X5_begin l G ci cz cl q H.size kc 0 fo sl now kept ) (cwV 0 hts gX5_clear_X5_begin rfl rfl rfl (by decide +kernel) ⟨(Nat.le_of_ble_eq_true rfl), (Nat.le_of_ble_eq_true rfl)⟩) (pV (wc := [(q 17, .inr (4, [.ref (q 5), .ref (q 18), .ref (q 19), .int (nI kc), .int (nI 0), .int fo, .int sl])), aI ci (q 18) 8 now, aI ci (q 19) 160 kept]) ok hK hP hD hS hA hO [0, 1, 2] rfl (by decide) 0 rfl rfl) rfl rfl hl.1 rfl (lv_room (Nat.le_of_ble_eq_true rfl)) dX5_clear_6 ⟨(Nat.le_of_ble_eq_true rfl), (Nat.le_of_ble_eq_true rfl)⟩) (wr := []) hP hD hS hA [0, 1, 2] [] rfl rfl (by decide) (by decide) (fun u H locs hw_1 hP hD hS => ?_)
  obtain ⟨sl2_1, now2_1⟩ := u
  try dsimp only at hw_1
  have h_1 := hw_1
  have hP : va_P G vwCl [(q 17, .inr (4, [.ref (q 5), .ref (q 18), .ref (q 19), .int (nI 0), .int (nI 0), .int (-1), .int sl2_1])), aI ci (q 18) 8 now2_1, aI ci (q 19) 160 kept] H := hP
  have hD : va_D A [(q 17, .inr (4, [.ref (q 5), .ref (q 18), .ref (q 19), .int (nI 0), .int (nI 0), .int (-1), .int sl2_1])), aI ci (q 18) 8 now2_1, aI ci (q 19) 160 kept] := hD
  exact rV hx hb hr hlocks hK hP hD hS [0, 1, 2] (sl2_1, now2_1) rfl (by decide) h_1 dX5_clear_9
set_option maxHeartbeats 4000000 in
set_option maxRecDepth 100000 in
theorem c_X5_part (l : Launch) (G : va_G) (ci cz cl : ClassId) (q : Nat → Nat) (sz : Nat) (a : Nat) (kc : Nat) (dp : Nat) (fo : Int32) (sl : Int32) (now : Nat → Int32) (kept : Nat → Int32) (ha : a ≤ 3) : CtI l yX5_part wsX5_part ({ frames := 0, cells := 0, slots := 0, locals := 0 }) G (TY ci cz cl) O0 [.ref (q 17), .int (nI a)] [(q 17, .inr (4, [.ref (q 5), .ref (q 18), .ref (q 19), .int (nI kc), .int (nI dp), .int fo, .int sl])), aI ci (q 18) 8 now, aI ci (q 19) 160 kept] sz (fun (r : Int32) (u : Unit) => r = now a) (fun u : Unit => [(q 17, .inr (4, [.ref (q 5), .ref (q 18), .ref (q 19), .int (nI kc), .int (nI dp), .int fo, .int sl])), aI ci (q 18) 8 now, aI ci (q 19) 160 kept]) 0 0 := by
  refine Met.ofW (cc := cX5_part) (maxL := 2) (ret := (some .int)) (by decide) rfl ?_
  intro p e s m args below meth c s₁ B hml hv
  obtain ⟨rfl, ⟨hsz, hP, hK, hD0⟩, hO⟩ := hv
  have hx := B.exec
  have hb := B.bytes
  have hr := B.returns
  have hts := atoms_spec (ws := wsX5_part) B.pre
  have hown : s.vm.findClass RX5 = some m.cls := findClass_of_methodNamed B.named
  have hlocks := B.notSynchronized
  subst hsz
  have hD := hD0.self (sz := s.heap.size)
  generalize hAe : va_A [(q 17, .inr (4, [.ref (q 5), .ref (q 18), .ref (q 19), .int (nI kc), .int (nI dp), .int fo, .int sl])), aI ci (q 18) 8 now, aI ci (q 19) 160 kept] s.heap.size = A at hD hO ⊢
  have hA : ∀ q : Nat, s.heap.size ≤ q → A q := fun q h => by rw [← hAe]; exact Or.inr h
  have ok := ok0
  refine startH (A := A) (fun H locs hP hS => ?_) hP
  have hi_X5 := (by decide +kernel : ∀ w ∈ wsX50, w ∈ wsX5_part)
  have f_13 := hts (.fieldLink RX5 13 "PageReader$Place" "now" "[I") (by decide +kernel)
  have hl := lv_entry ([.ref (q 17), .int (nI a)]) (n := 2) (Nat.le_of_ble_eq_true rfl)
  rw [lg_entry_eq]
  generalize (lg_sl ([.ref (q 17), .int (nI a)]) ++ List.replicate (2 - (lg_sl ([.ref (q 17), .int (nI a)])).length) Slot.unset).toArray = ls at hl ⊢
  have hl : lv_has ls 2 [(0, .ref (q 17)), (1, .int (nI a))] := hl
  refine lv_iload_n hx hb dX5_part_0 rfl (lv_at hl 1 rfl) ?_
  refine lv_if_lt (tgt := 10) hx hb dX5_part_1 (by decide) (fun c_1 => ?_) (fun c_1 => ?_)
  · skip
    have z_1 := (nI_ltI (a := a) (b := 0) (by omega) (by omega)).mp c_1
    exfalso; omega
  · skip
    have z_1 := mt (nI_ltI (a := a) (b := 0) (by omega) (by omega)).mpr c_1
    refine lv_iload_n hx hb dX5_part_4 rfl (lv_at hl 1 rfl) ?_
    refine lv_bipush (v := nI 8) hx hb dX5_part_5 (by decide) ?_
    refine lv_icmp_lt (tgt := 14) hx hb dX5_part_7 (by decide) (fun c_2 => ?_) (fun c_2 => ?_)
    · skip
      have z_2 := (nI_ltI (a := a) (b := 8) (by omega) (by omega)).mp c_2
      refine lv_aload_n hx hb dX5_part_14 rfl (lv_at hl 0 rfl) ?_
      refine va_get (D := G) (ci := 4) (v := .ref (q 18)) (C := RX5) (T := TX5) (N := 7) hx hb hts hi_X5 hown hK hP 0 rfl rfl 1 (by decide) f_13 (fun _ h9 => h9) rfl dX5_part_15 ?_
      refine lv_iload_n hx hb dX5_part_18 rfl (lv_at hl 1 rfl) ?_
      refine va_iald hx hb hK hP 1 0 rfl rfl (vp_in_nI (by omega) (by omega)) dX5_part_19 ?_
      refine tp (y := now a) (congrArg now (nI_clamp (by omega))) ?_
      exact rI (v := now a) hx hb hr hlocks rfl hK hP hD hS [0, 1, 2] () rfl (by decide) rfl dX5_part_20
    · skip
      have z_2 := mt (nI_ltI (a := a) (b := 8) (by omega) (by omega)).mpr c_2
      exfalso; omega
set_option maxHeartbeats 4000000 in
set_option maxRecDepth 100000 in
theorem c_X5_nothingIsKept (l : Launch) (G : va_G) (ci cz cl : ClassId) (q : Nat → Nat) (sz : Nat) (kc : Nat) (dp : Nat) (fo : Int32) (sl : Int32) (now : Nat → Int32) (kept : Nat → Int32) (hkc : kc ≤ 20) : CtI l yX5_nothingIsKept wsX5_nothingIsKept ({ frames := 0, cells := 0, slots := 0, locals := 0 }) G (TY ci cz cl) O0 [.ref (q 17)] [(q 17, .inr (4, [.ref (q 5), .ref (q 18), .ref (q 19), .int (nI kc), .int (nI dp), .int fo, .int sl])), aI ci (q 18) 8 now, aI ci (q 19) 160 kept] sz (fun (r : Int32) (u : Nat) => r = nI u ∧ u ≤ 1 ∧ QEnd kc u) (fun u : Nat => [(q 17, .inr (4, [.ref (q 5), .ref (q 18), .ref (q 19), .int (nI kc), .int (nI dp), .int fo, .int sl])), aI ci (q 18) 8 now, aI ci (q 19) 160 kept]) 0 0 := by
  refine Met.ofW (cc := cX5_nothingIsKept) (maxL := 1) (ret := (some .boolean)) (by decide) rfl ?_
  intro p e s m args below meth c s₁ B hml hv
  obtain ⟨rfl, ⟨hsz, hP, hK, hD0⟩, hO⟩ := hv
  have hx := B.exec
  have hb := B.bytes
  have hr := B.returns
  have hts := atoms_spec (ws := wsX5_nothingIsKept) B.pre
  have hown : s.vm.findClass RX5 = some m.cls := findClass_of_methodNamed B.named
  have hlocks := B.notSynchronized
  subst hsz
  have hD := hD0.self (sz := s.heap.size)
  generalize hAe : va_A [(q 17, .inr (4, [.ref (q 5), .ref (q 18), .ref (q 19), .int (nI kc), .int (nI dp), .int fo, .int sl])), aI ci (q 18) 8 now, aI ci (q 19) 160 kept] s.heap.size = A at hD hO ⊢
  have hA : ∀ q : Nat, s.heap.size ≤ q → A q := fun q h => by rw [← hAe]; exact Or.inr h
  have ok := ok0
  refine startH (A := A) (fun H locs hP hS => ?_) hP
  have hi_X5 := (by decide +kernel : ∀ w ∈ wsX50, w ∈ wsX5_nothingIsKept)
  have f_20 := hts (.fieldLink RX5 20 "PageReader$Place" "keptCount" "I") (by decide +kernel)
  have hl := lv_entry ([.ref (q 17)]) (n := 1) (Nat.le_of_ble_eq_true rfl)
  rw [lg_entry_eq]
  generalize (lg_sl ([.ref (q 17)]) ++ List.replicate (1 - (lg_sl ([.ref (q 17)])).length) Slot.unset).toArray = ls at hl ⊢
  have hl : lv_has ls 1 [(0, .ref (q 17))] := hl
  refine lv_aload_n hx hb dX5_nothingIsKept_0 rfl (lv_at hl 0 rfl) ?_
  refine va_get (D := G) (ci := 4) (v := .int (nI kc)) (C := RX5) (T := TX5) (N := 7) hx hb hts hi_X5 hown hK hP 0 rfl rfl 3 (by decide) f_20 (fun _ h9 => h9) rfl dX5_nothingIsKept_1 ?_
  refine lv_if_ne (tgt := 11) hx hb dX5_nothingIsKept_4 (by decide) (fun c_1 => ?_) (fun c_1 => ?_)
  · skip
    have z_1 := mt (nI_eq (a := kc) (b := 0) (by omega) (by omega)).mpr c_1
    refine lv_iconst (v := nI 0) hx hb dX5_nothingIsKept_11 (by decide) ?_
    exact rI (v := nI 0) hx hb hr hlocks nb0 hK hP hD hS [0, 1, 2] 0 rfl (by decide) ⟨rfl, by (try dsimp only); omega, Or.inr ⟨rfl, by (try dsimp only); omega⟩⟩ dX5_nothingIsKept_12
  · skip
    have z_1 := (nI_eq (a := kc) (b := 0) (by omega) (by omega)).mp c_1
    refine lv_iconst (v := nI 1) hx hb dX5_nothingIsKept_7 (by decide) ?_
    refine lv_goto (tgt := 12) hx hb dX5_nothingIsKept_8 (by decide) ?_
    exact rI (v := nI 1) hx hb hr hlocks nb1 hK hP hD hS [0, 1, 2] 1 rfl (by decide) ⟨rfl, by (try dsimp only); omega, Or.inl ⟨rfl, by (try dsimp only); omega⟩⟩ dX5_nothingIsKept_12
set_option maxHeartbeats 4000000 in
set_option maxRecDepth 100000 in
theorem c_X5_depth (l : Launch) (G : va_G) (ci cz cl : ClassId) (q : Nat → Nat) (sz : Nat) (kc : Nat) (dp : Nat) (fo : Int32) (sl : Int32) (now : Nat → Int32) (kept : Nat → Int32) : CtI l yX5_depth wsX5_depth ({ frames := 0, cells := 0, slots := 0, locals := 0 }) G (TY ci cz cl) O0 [.ref (q 17)] [(q 17, .inr (4, [.ref (q 5), .ref (q 18), .ref (q 19), .int (nI kc), .int (nI dp), .int fo, .int sl])), aI ci (q 18) 8 now, aI ci (q 19) 160 kept] sz (fun (r : Int32) (u : Unit) => r = nI dp) (fun u : Unit => [(q 17, .inr (4, [.ref (q 5), .ref (q 18), .ref (q 19), .int (nI kc), .int (nI dp), .int fo, .int sl])), aI ci (q 18) 8 now, aI ci (q 19) 160 kept]) 0 0 := by
  refine Met.ofW (cc := cX5_depth) (maxL := 1) (ret := (some .int)) (by decide) rfl ?_
  intro p e s m args below meth c s₁ B hml hv
  obtain ⟨rfl, ⟨hsz, hP, hK, hD0⟩, hO⟩ := hv
  have hx := B.exec
  have hb := B.bytes
  have hr := B.returns
  have hts := atoms_spec (ws := wsX5_depth) B.pre
  have hown : s.vm.findClass RX5 = some m.cls := findClass_of_methodNamed B.named
  have hlocks := B.notSynchronized
  subst hsz
  have hD := hD0.self (sz := s.heap.size)
  generalize hAe : va_A [(q 17, .inr (4, [.ref (q 5), .ref (q 18), .ref (q 19), .int (nI kc), .int (nI dp), .int fo, .int sl])), aI ci (q 18) 8 now, aI ci (q 19) 160 kept] s.heap.size = A at hD hO ⊢
  have hA : ∀ q : Nat, s.heap.size ≤ q → A q := fun q h => by rw [← hAe]; exact Or.inr h
  have ok := ok0
  refine startH (A := A) (fun H locs hP hS => ?_) hP
  have hi_X5 := (by decide +kernel : ∀ w ∈ wsX50, w ∈ wsX5_depth)
  have f_24 := hts (.fieldLink RX5 24 "PageReader$Place" "depth" "I") (by decide +kernel)
  have hl := lv_entry ([.ref (q 17)]) (n := 1) (Nat.le_of_ble_eq_true rfl)
  rw [lg_entry_eq]
  generalize (lg_sl ([.ref (q 17)]) ++ List.replicate (1 - (lg_sl ([.ref (q 17)])).length) Slot.unset).toArray = ls at hl ⊢
  have hl : lv_has ls 1 [(0, .ref (q 17))] := hl
  refine lv_aload_n hx hb dX5_depth_0 rfl (lv_at hl 0 rfl) ?_
  refine va_get (D := G) (ci := 4) (v := .int (nI dp)) (C := RX5) (T := TX5) (N := 7) hx hb hts hi_X5 hown hK hP 0 rfl rfl 4 (by decide) f_24 (fun _ h9 => h9) rfl dX5_depth_1 ?_
  exact rI (v := nI dp) hx hb hr hlocks rfl hK hP hD hS [0, 1, 2] () rfl (by decide) rfl dX5_depth_4
set_option maxHeartbeats 4000000 in
set_option maxRecDepth 100000 in
theorem c_X5_hasFont (l : Launch) (G : va_G) (ci cz cl : ClassId) (q : Nat → Nat) (sz : Nat) (kc : Nat) (dp : Nat) (fo : Int32) (sl : Int32) (now : Nat → Int32) (kept : Nat → Int32) : CtI l yX5_hasFont wsX5_hasFont ({ frames := 0, cells := 0, slots := 0, locals := 0 }) G (TY ci cz cl) O0 [.ref (q 17)] [(q 17, .inr (4, [.ref (q 5), .ref (q 18), .ref (q 19), .int (nI kc), .int (nI dp), .int fo, .int sl])), aI ci (q 18) 8 now, aI ci (q 19) 160 kept] sz (fun (r : Int32) (u : Nat) => r = nI u ∧ ((u = 1 ∧ ¬ fo = -1) ∨ (u = 0 ∧ fo = -1))) (fun u : Nat => [(q 17, .inr (4, [.ref (q 5), .ref (q 18), .ref (q 19), .int (nI kc), .int (nI dp), .int fo, .int sl])), aI ci (q 18) 8 now, aI ci (q 19) 160 kept]) 0 0 := by
  refine Met.ofW (cc := cX5_hasFont) (maxL := 1) (ret := (some .boolean)) (by decide) rfl ?_
  intro p e s m args below meth c s₁ B hml hv
  obtain ⟨rfl, ⟨hsz, hP, hK, hD0⟩, hO⟩ := hv
  have hx := B.exec
  have hb := B.bytes
  have hr := B.returns
  have hts := atoms_spec (ws := wsX5_hasFont) B.pre
  have hown : s.vm.findClass RX5 = some m.cls := findClass_of_methodNamed B.named
  have hlocks := B.notSynchronized
  subst hsz
  have hD := hD0.self (sz := s.heap.size)
  generalize hAe : va_A [(q 17, .inr (4, [.ref (q 5), .ref (q 18), .ref (q 19), .int (nI kc), .int (nI dp), .int fo, .int sl])), aI ci (q 18) 8 now, aI ci (q 19) 160 kept] s.heap.size = A at hD hO ⊢
  have hA : ∀ q : Nat, s.heap.size ≤ q → A q := fun q h => by rw [← hAe]; exact Or.inr h
  have ok := ok0
  refine startH (A := A) (fun H locs hP hS => ?_) hP
  have hi_X5 := (by decide +kernel : ∀ w ∈ wsX50, w ∈ wsX5_hasFont)
  have f_27 := hts (.fieldLink RX5 27 "PageReader$Place" "font" "I") (by decide +kernel)
  have hl := lv_entry ([.ref (q 17)]) (n := 1) (Nat.le_of_ble_eq_true rfl)
  rw [lg_entry_eq]
  generalize (lg_sl ([.ref (q 17)]) ++ List.replicate (1 - (lg_sl ([.ref (q 17)])).length) Slot.unset).toArray = ls at hl ⊢
  have hl : lv_has ls 1 [(0, .ref (q 17))] := hl
  refine lv_aload_n hx hb dX5_hasFont_0 rfl (lv_at hl 0 rfl) ?_
  refine va_get (D := G) (ci := 4) (v := .int fo) (C := RX5) (T := TX5) (N := 7) hx hb hts hi_X5 hown hK hP 0 rfl rfl 5 (by decide) f_27 (fun _ h9 => h9) rfl dX5_hasFont_1 ?_
  refine lv_iconst (v := (-1)) hx hb dX5_hasFont_4 (by decide) ?_
  refine lv_icmp_eq (tgt := 12) hx hb dX5_hasFont_5 (by decide) (fun c_1 => ?_) (fun c_1 => ?_)
  · skip
    refine lv_iconst (v := nI 0) hx hb dX5_hasFont_12 (by decide) ?_
    exact rI (v := nI 0) hx hb hr hlocks nb0 hK hP hD hS [0, 1, 2] 0 rfl (by decide) ⟨rfl, Or.inr ⟨rfl, c_1⟩⟩ dX5_hasFont_13
  · skip
    refine lv_iconst (v := nI 1) hx hb dX5_hasFont_8 (by decide) ?_
    refine lv_goto (tgt := 13) hx hb dX5_hasFont_9 (by decide) ?_
    exact rI (v := nI 1) hx hb hr hlocks nb1 hK hP hD hS [0, 1, 2] 1 rfl (by decide) ⟨rfl, Or.inl ⟨rfl, c_1⟩⟩ dX5_hasFont_13
set_option maxHeartbeats 4000000 in
set_option maxRecDepth 100000 in
theorem c_X5_font (l : Launch) (G : va_G) (ci cz cl : ClassId) (q : Nat → Nat) (sz : Nat) (kc : Nat) (dp : Nat) (fo : Int32) (sl : Int32) (now : Nat → Int32) (kept : Nat → Int32) : CtI l yX5_font wsX5_font ({ frames := 0, cells := 0, slots := 0, locals := 0 }) G (TY ci cz cl) O0 [.ref (q 17)] [(q 17, .inr (4, [.ref (q 5), .ref (q 18), .ref (q 19), .int (nI kc), .int (nI dp), .int fo, .int sl])), aI ci (q 18) 8 now, aI ci (q 19) 160 kept] sz (fun (r : Int32) (u : Unit) => r = fo) (fun u : Unit => [(q 17, .inr (4, [.ref (q 5), .ref (q 18), .ref (q 19), .int (nI kc), .int (nI dp), .int fo, .int sl])), aI ci (q 18) 8 now, aI ci (q 19) 160 kept]) 0 0 := by
  refine Met.ofW (cc := cX5_font) (maxL := 1) (ret := (some .int)) (by decide) rfl ?_
  intro p e s m args below meth c s₁ B hml hv
  obtain ⟨rfl, ⟨hsz, hP, hK, hD0⟩, hO⟩ := hv
  have hx := B.exec
  have hb := B.bytes
  have hr := B.returns
  have hts := atoms_spec (ws := wsX5_font) B.pre
  have hown : s.vm.findClass RX5 = some m.cls := findClass_of_methodNamed B.named
  have hlocks := B.notSynchronized
  subst hsz
  have hD := hD0.self (sz := s.heap.size)
  generalize hAe : va_A [(q 17, .inr (4, [.ref (q 5), .ref (q 18), .ref (q 19), .int (nI kc), .int (nI dp), .int fo, .int sl])), aI ci (q 18) 8 now, aI ci (q 19) 160 kept] s.heap.size = A at hD hO ⊢
  have hA : ∀ q : Nat, s.heap.size ≤ q → A q := fun q h => by rw [← hAe]; exact Or.inr h
  have ok := ok0
  refine startH (A := A) (fun H locs hP hS => ?_) hP
  have hi_X5 := (by decide +kernel : ∀ w ∈ wsX50, w ∈ wsX5_font)
  have f_27 := hts (.fieldLink RX5 27 "PageReader$Place" "font" "I") (by decide +kernel)
  have hl := lv_entry ([.ref (q 17)]) (n := 1) (Nat.le_of_ble_eq_true rfl)
  rw [lg_entry_eq]
  generalize (lg_sl ([.ref (q 17)]) ++ List.replicate (1 - (lg_sl ([.ref (q 17)])).length) Slot.unset).toArray = ls at hl ⊢
  have hl : lv_has ls 1 [(0, .ref (q 17))] := hl
  refine lv_aload_n hx hb dX5_font_0 rfl (lv_at hl 0 rfl) ?_
  refine va_get (D := G) (ci := 4) (v := .int fo) (C := RX5) (T := TX5) (N := 7) hx hb hts hi_X5 hown hK hP 0 rfl rfl 5 (by decide) f_27 (fun _ h9 => h9) rfl dX5_font_1 ?_
  exact rI (v := fo) hx hb hr hlocks rfl hK hP hD hS [0, 1, 2] () rfl (by decide) rfl dX5_font_4
set_option maxHeartbeats 4000000 in
set_option maxRecDepth 100000 in
theorem c_X5_choose (l : Launch) (G : va_G) (ci cz cl : ClassId) (q : Nat → Nat) (sz : Nat) (x : Int32) (y : Int32) (kc : Nat) (dp : Nat) (fo : Int32) (sl : Int32) (now : Nat → Int32) (kept : Nat → Int32) : CtV l yX5_choose wsX5_choose ({ frames := 0, cells := 0, slots := 0, locals := 0 }) G (TY ci cz cl) O0 [.ref (q 17), .int x, .int y] [(q 17, .inr (4, [.ref (q 5), .ref (q 18), .ref (q 19), .int (nI kc), .int (nI dp), .int fo, .int sl])), aI ci (q 18) 8 now, aI ci (q 19) 160 kept] sz (fun (u : Unit) => True) (fun u : Unit => [(q 17, .inr (4, [.ref (q 5), .ref (q 18), .ref (q 19), .int (nI kc), .int (nI dp), .int x, .int y])), aI ci (q 18) 8 now, aI ci (q 19) 160 kept]) 0 0 := by
  refine Met.ofW (cc := cX5_choose) (maxL := 3) (ret := none) (by decide) rfl ?_
  intro p e s m args below meth c s₁ B hml hv
  obtain ⟨rfl, ⟨hsz, hP, hK, hD0⟩, hO⟩ := hv
  have hx := B.exec
  have hb := B.bytes
  have hr := B.returns
  have hts := atoms_spec (ws := wsX5_choose) B.pre
  have hown : s.vm.findClass RX5 = some m.cls := findClass_of_methodNamed B.named
  have hlocks := B.notSynchronized
  subst hsz
  have hD := hD0.self (sz := s.heap.size)
  generalize hAe : va_A [(q 17, .inr (4, [.ref (q 5), .ref (q 18), .ref (q 19), .int (nI kc), .int (nI dp), .int fo, .int sl])), aI ci (q 18) 8 now, aI ci (q 19) 160 kept] s.heap.size = A at hD hO ⊢
  have hA : ∀ q : Nat, s.heap.size ≤ q → A q := fun q h => by rw [← hAe]; exact Or.inr h
  have ok := ok0
  refine startH (A := A) (fun H locs hP hS => ?_) hP
  have hi_X5 := (by decide +kernel : ∀ w ∈ wsX50, w ∈ wsX5_choose)
  have f_27 := hts (.fieldLink RX5 27 "PageReader$Place" "font" "I") (by decide +kernel)
  have f_30 := hts (.fieldLink RX5 30 "PageReader$Place" "scale" "I") (by decide +kernel)
  have hl := lv_entry ([.ref (q 17), .int x, .int y]) (n := 3) (Nat.le_of_ble_eq_true rfl)
  rw [lg_entry_eq]
  generalize (lg_sl ([.ref (q 17), .int x, .int y]) ++ List.replicate (3 - (lg_sl ([.ref (q 17), .int x, .int y])).length) Slot.unset).toArray = ls at hl ⊢
  have hl : lv_has ls 3 [(0, .ref (q 17)), (1, .int x), (2, .int y)] := hl
  refine lv_aload_n hx hb dX5_choose_0 rfl (lv_at hl 0 rfl) ?_
  refine lv_iload_n hx hb dX5_choose_1 rfl (lv_at hl 1 rfl) ?_
  refine va_put (D := G) (ci := 4) (v := .int x) (ty := .int) (C := RX5) (T := TX5) (N := 7) hx hb hts hi_X5 tyX5 tyX5_ok nmX5 hown hK hP hD hS 0 rfl rfl 5 (by decide) f_27 (fun _ h9 => h9) rfl (by decide +kernel) rfl rfl (Nat.le_of_ble_eq_true rfl) dX5_choose_2 (fun H locs hP hD hS => ?_)
  have hP : va_P G vwCl [(q 17, .inr (4, [.ref (q 5), .ref (q 18), .ref (q 19), .int (nI kc), .int (nI dp), .int x, .int sl])), aI ci (q 18) 8 now, aI ci (q 19) 160 kept] H := hP
  have hD : va_D A [(q 17, .inr (4, [.ref (q 5), .ref (q 18), .ref (q 19), .int (nI kc), .int (nI dp), .int x, .int sl])), aI ci (q 18) 8 now, aI ci (q 19) 160 kept] := hD
  refine lv_aload_n hx hb dX5_choose_5 rfl (lv_at hl 0 rfl) ?_
  refine lv_iload_n hx hb dX5_choose_6 rfl (lv_at hl 2 rfl) ?_
  refine va_put (D := G) (ci := 4) (v := .int y) (ty := .int) (C := RX5) (T := TX5) (N := 7) hx hb hts hi_X5 tyX5 tyX5_ok nmX5 hown hK hP hD hS 0 rfl rfl 6 (by decide) f_30 (fun _ h9 => h9) rfl (by decide +kernel) rfl rfl (Nat.le_of_ble_eq_true rfl) dX5_choose_7 (fun H locs hP hD hS => ?_)
  have hP : va_P G vwCl [(q 17, .inr (4, [.ref (q 5), .ref (q 18), .ref (q 19), .int (nI kc), .int (nI dp), .int x, .int y])), aI ci (q 18) 8 now, aI ci (q 19) 160 kept] H := hP
  have hD : va_D A [(q 17, .inr (4, [.ref (q 5), .ref (q 18), .ref (q 19), .int (nI kc), .int (nI dp), .int x, .int y])), aI ci (q 18) 8 now, aI ci (q 19) 160 kept] := hD
  exact rV hx hb hr hlocks hK hP hD hS [0, 1, 2] () rfl (by decide) trivial dX5_choose_10
set_option maxHeartbeats 4000000 in
set_option maxRecDepth 100000 in
theorem c_X5_push (l : Launch) (G : va_G) (ci cz cl : ClassId) (q : Nat → Nat) (sz : Nat) (kc : Nat) (dp : Nat) (fo : Int32) (sl : Int32) (now : Nat → Int32) (kept : Nat → Int32) (hkc : kc ≤ 20 ∧ dp ≤ 20) : CtI l yX5_push wsX5_push ({ frames := 1, cells := 0, slots := 0, locals := 22 }) G (TY ci cz cl) O0 [.ref (q 17)] [(q 17, .inr (4, [.ref (q 5), .ref (q 18), .ref (q 19), .int (nI kc), .int (nI dp), .int fo, .int sl])), aI ci (q 18) 8 now, aI ci (q 19) 160 kept] sz (fun (r : Int32) (u : Nat × Nat × Nat × (Nat → Int32)) => r = nI u.1 ∧ u.1 ≤ 1 ∧ QPush kc dp now kept u.1 u.2.1 u.2.2.1 u.2.2.2 ∧ u.2.1 ≤ 20 ∧ u.2.2.1 ≤ 20) (fun u : Nat × Nat × Nat × (Nat → Int32) => [(q 17, .inr (4, [.ref (q 5), .ref (q 18), .ref (q 19), .int (nI u.2.1), .int (nI u.2.2.1), .int fo, .int sl])), aI ci (q 18) 8 now, aI ci (q 19) 160 u.2.2.2]) 0 0 := by
  refine Met.ofW (cc := cX5_push) (maxL := 1) (ret := (some .boolean)) (by decide) rfl ?_
  intro p e s m args below meth c s₁ B hml hv
  obtain ⟨rfl, ⟨hsz, hP, hK, hD0⟩, hO⟩ := hv
  have hx := B.exec
  have hb := B.bytes
  have hr := B.returns
  have hts := atoms_spec (ws := wsX5_push) B.pre
  have hown : s.vm.findClass RX5 = some m.cls := findClass_of_methodNamed B.named
  have hlocks := B.notSynchronized
  subst hsz
  have hD := hD0.self (sz := s.heap.size)
  generalize hAe : va_A [(q 17, .inr (4, [.ref (q 5), .ref (q 18), .ref (q 19), .int (nI kc), .int (nI dp), .int fo, .int sl])), aI ci (q 18) 8 now, aI ci (q 19) 160 kept] s.heap.size = A at hD hO ⊢
  have hA : ∀ q : Nat, s.heap.size ≤ q → A q := fun q h => by rw [← hAe]; exact Or.inr h
  have ok := ok0
  refine startH (A := A) (fun H locs hP hS => ?_) hP
  have hi_X5 := (by decide +kernel : ∀ w ∈ wsX50, w ∈ wsX5_push)
  have f_20 := hts (.fieldLink RX5 20 "PageReader$Place" "keptCount" "I") (by decide +kernel)
  have f_13 := hts (.fieldLink RX5 13 "PageReader$Place" "now" "[I") (by decide +kernel)
  have f_17 := hts (.fieldLink RX5 17 "PageReader$Place" "kept" "[I") (by decide +kernel)
  have m_36 := hts (.methodLink RX5 36 arraycopyName) (by decide +kernel)
  have m_acn := hts (.native arraycopyName) (by decide +kernel)
  have m_acs := hts (.static arraycopyName) (by decide +kernel)
  have m_aci := hts (.initialized "java/lang/System") (by decide +kernel)
  have f_24 := hts (.fieldLink RX5 24 "PageReader$Place" "depth" "I") (by decide +kernel)
  have m_42 := hts (.methodLink RX5 42 Lib.Math.max.name) (by decide +kernel)
  have ms_max := hts (.static Lib.Math.max.name) (by decide +kernel)
  have mi_Math := hts (.initialized "java/lang/Math") (by decide +kernel)
  have mc_max := hts (.code Lib.Math.max.name Lib.Math.max.code 2 (some .int)) (by decide +kernel)
  have hl := lv_entry ([.ref (q 17)]) (n := 1) (Nat.le_of_ble_eq_true rfl)
  rw [lg_entry_eq]
  generalize (lg_sl ([.ref (q 17)]) ++ List.replicate (1 - (lg_sl ([.ref (q 17)])).length) Slot.unset).toArray = ls at hl ⊢
  have hl : lv_has ls 1 [(0, .ref (q 17))] := hl
  refine lv_aload_n hx hb dX5_push_0 rfl (lv_at hl 0 rfl) ?_
  refine va_get (D := G) (ci := 4) (v := .int (nI kc)) (C := RX5) (T := TX5) (N := 7) hx hb hts hi_X5 hown hK hP 0 rfl rfl 3 (by decide) f_20 (fun _ h9 => h9) rfl dX5_push_1 ?_
  refine lv_bipush (v := nI 20) hx hb dX5_push_4 (by decide) ?_
  refine lv_icmp_lt (tgt := 11) hx hb dX5_push_6 (by decide) (fun c_1 => ?_) (fun c_1 => ?_)
  · skip
    have z_1 := (nI_ltI (a := kc) (b := 20) (by omega) (by omega)).mp c_1
    refine lv_aload_n hx hb dX5_push_11 rfl (lv_at hl 0 rfl) ?_
    refine va_get (D := G) (ci := 4) (v := .ref (q 18)) (C := RX5) (T := TX5) (N := 7) hx hb hts hi_X5 hown hK hP 0 rfl rfl 1 (by decide) f_13 (fun _ h9 => h9) rfl dX5_push_12 ?_
    refine lv_iconst (v := nI 0) hx hb dX5_push_15 (by decide) ?_
    refine lv_aload_n hx hb dX5_push_16 rfl (lv_at hl 0 rfl) ?_
    refine va_get (D := G) (ci := 4) (v := .ref (q 19)) (C := RX5) (T := TX5) (N := 7) hx hb hts hi_X5 hown hK hP 0 rfl rfl 2 (by decide) f_17 (fun _ h9 => h9) rfl dX5_push_17 ?_
    refine lv_aload_n hx hb dX5_push_20 rfl (lv_at hl 0 rfl) ?_
    refine va_get (D := G) (ci := 4) (v := .int (nI kc)) (C := RX5) (T := TX5) (N := 7) hx hb hts hi_X5 hown hK hP 0 rfl rfl 3 (by decide) f_20 (fun _ h9 => h9) rfl dX5_push_21 ?_
    refine lv_bipush (v := nI 8) hx hb dX5_push_24 (by decide) ?_
    refine lv_imul hx hb dX5_push_26 ?_
    refine tp (pk_mul _ _) ?_
    refine lv_bipush (v := nI 8) hx hb dX5_push_27 (by decide) ?_
    refine va_copyi hx hb (by rw [hml]; exact hl.1.symm) hown m_36 m_acn m_acs m_aci hK hP hD hS 1 2 0 0 rfl rfl rfl rfl rfl (nI_pos (by omega)) (nI_pos (by omega)) (nI_pos (by omega)) (by rw [nI_clamp (by omega), nI_clamp (by omega)]; omega) (by rw [nI_clamp (by omega), nI_clamp (by omega)]; omega) (fun i _ => rfl) (Nat.le_of_ble_eq_true rfl) (Nat.le_of_ble_eq_true rfl) dX5_push_29 (fun H locs hP hD hS => ?_)
    rw [nI_clamp (n := 0) (by omega), nI_clamp (n := (kc * 8)) (by omega), nI_clamp (n := 8) (by omega)] at hP hD
    have hP : va_P G vwCl [(q 17, .inr (4, [.ref (q 5), .ref (q 18), .ref (q 19), .int (nI kc), .int (nI dp), .int fo, .int sl])), aI ci (q 18) 8 now, aI ci (q 19) 160 (va_cpy now kept 0 (kc * 8) 8)] H := hP
    have hD : va_D A [(q 17, .inr (4, [.ref (q 5), .ref (q 18), .ref (q 19), .int (nI kc), .int (nI dp), .int fo, .int sl])), aI ci (q 18) 8 now, aI ci (q 19) 160 (va_cpy now kept 0 (kc * 8) 8)] := hD
    refine lv_aload_n hx hb dX5_push_32 rfl (lv_at hl 0 rfl) ?_
    refine lv_dup hx hb dX5_push_33 rfl ?_
    refine va_get (D := G) (ci := 4) (v := .int (nI kc)) (C := RX5) (T := TX5) (N := 7) hx hb hts hi_X5 hown hK hP 0 rfl rfl 3 (by decide) f_20 (fun _ h9 => h9) rfl dX5_push_34 ?_
    refine lv_iconst (v := nI 1) hx hb dX5_push_37 (by decide) ?_
    refine lv_iadd hx hb dX5_push_38 ?_
    refine tp (nI_add _ _) ?_
    refine va_put (D := G) (ci := 4) (v := .int (nI (kc + 1))) (ty := .int) (C := RX5) (T := TX5) (N := 7) hx hb hts hi_X5 tyX5 tyX5_ok nmX5 hown hK hP hD hS 0 rfl rfl 3 (by decide) f_20 (fun _ h9 => h9) rfl (by decide +kernel) rfl rfl (Nat.le_of_ble_eq_true rfl) dX5_push_39 (fun H locs hP hD hS => ?_)
    have hP : va_P G vwCl [(q 17, .inr (4, [.ref (q 5), .ref (q 18), .ref (q 19), .int (nI (kc + 1)), .int (nI dp), .int fo, .int sl])), aI ci (q 18) 8 now, aI ci (q 19) 160 (va_cpy now kept 0 (kc * 8) 8)] H := hP
    have hD : va_D A [(q 17, .inr (4, [.ref (q 5), .ref (q 18), .ref (q 19), .int (nI (kc + 1)), .int (nI dp), .int fo, .int sl])), aI ci (q 18) 8 now, aI ci (q 19) 160 (va_cpy now kept 0 (kc * 8) 8)] := hD
    refine lv_aload_n hx hb dX5_push_42 rfl (lv_at hl 0 rfl) ?_
    refine lv_aload_n hx hb dX5_push_43 rfl (lv_at hl 0 rfl) ?_
    refine va_get (D := G) (ci := 4) (v := .int (nI dp)) (C := RX5) (T := TX5) (N := 7) hx hb hts hi_X5 hown hK hP 0 rfl rfl 4 (by decide) f_24 (fun _ h9 => h9) rfl dX5_push_44 ?_
    refine lv_aload_n hx hb dX5_push_47 rfl (lv_at hl 0 rfl) ?_
    refine va_get (D := G) (ci := 4) (v := .int (nI (kc + 1))) (C := RX5) (T := TX5) (N := 7) hx hb hts hi_X5 hown hK hP 0 rfl rfl 3 (by decide) f_20 (fun _ h9 => h9) rfl dX5_push_48 ?_
    refine va_mmax hx hb (by rw [hml]; exact hl.1.symm) hown m_42 ms_max mi_Math mc_max (Nat.le_of_ble_eq_true rfl) (Nat.le_of_ble_eq_true rfl) (Nat.zero_le _) (Nat.zero_le _) dX5_push_51 ?_
    refine tp (y := nI (max dp (kc + 1))) (mx_nI (by omega) (by omega)) ?_
    refine va_put (D := G) (ci := 4) (v := .int (nI (max dp (kc + 1)))) (ty := .int) (C := RX5) (T := TX5) (N := 7) hx hb hts hi_X5 tyX5 tyX5_ok nmX5 hown hK hP hD hS 0 rfl rfl 4 (by decide) f_24 (fun _ h9 => h9) rfl (by decide +kernel) rfl rfl (Nat.le_of_ble_eq_true rfl) dX5_push_54 (fun H locs hP hD hS => ?_)
    have hP : va_P G vwCl [(q 17, .inr (4, [.ref (q 5), .ref (q 18), .ref (q 19), .int (nI (kc + 1)), .int (nI (max dp (kc + 1))), .int fo, .int sl])), aI ci (q 18) 8 now, aI ci (q 19) 160 (va_cpy now kept 0 (kc * 8) 8)] H := hP
    have hD : va_D A [(q 17, .inr (4, [.ref (q 5), .ref (q 18), .ref (q 19), .int (nI (kc + 1)), .int (nI (max dp (kc + 1))), .int fo, .int sl])), aI ci (q 18) 8 now, aI ci (q 19) 160 (va_cpy now kept 0 (kc * 8) 8)] := hD
    refine lv_iconst (v := nI 1) hx hb dX5_push_57 (by decide) ?_
    exact rI (v := nI 1) hx hb hr hlocks nb1 hK hP hD hS [0, 1, 2] (1, kc + 1, max dp (kc + 1), va_cpy now kept 0 (kc * 8) 8) rfl (by decide) ⟨rfl, by (try dsimp only); omega, QPush_1 (by (try dsimp only); omega), by (try dsimp only); omega, by (try dsimp only); omega⟩ dX5_push_58
  · skip
    have z_1 := mt (nI_ltI (a := kc) (b := 20) (by omega) (by omega)).mpr c_1
    refine lv_iconst (v := nI 0) hx hb dX5_push_9 (by decide) ?_
    exact rI (v := nI 0) hx hb hr hlocks nb0 hK hP hD hS [0, 1, 2] (0, kc, dp, kept) rfl (by decide) ⟨rfl, by (try dsimp only); omega, Or.inr ⟨rfl, by (try dsimp only); omega⟩, by (try dsimp only); omega, by (try dsimp only); omega⟩ dX5_push_10
set_option maxHeartbeats 4000000 in
set_option maxRecDepth 100000 in
theorem c_X5_pop (l : Launch) (G : va_G) (ci cz cl : ClassId) (q : Nat → Nat) (sz : Nat) (kc : Nat) (dp : Nat) (fo : Int32) (sl : Int32) (now : Nat → Int32) (kept : Nat → Int32) (hkc : kc ≤ 20) : CtI l yX5_pop wsX5_pop ({ frames := 1, cells := 0, slots := 0, locals := 22 }) G (TY ci cz cl) O0 [.ref (q 17)] [(q 17, .inr (4, [.ref (q 5), .ref (q 18), .ref (q 19), .int (nI kc), .int (nI dp), .int fo, .int sl])), aI ci (q 18) 8 now, aI ci (q 19) 160 kept] sz (fun (r : Int32) (u : Nat × Nat × (Nat → Int32)) => r = nI u.1 ∧ u.1 ≤ 1 ∧ QPop kc now kept u.1 u.2.1 u.2.2 ∧ u.2.1 ≤ 20) (fun u : Nat × Nat × (Nat → Int32) => [(q 17, .inr (4, [.ref (q 5), .ref (q 18), .ref (q 19), .int (nI u.2.1), .int (nI dp), .int fo, .int sl])), aI ci (q 18) 8 u.2.2, aI ci (q 19) 160 kept]) 0 0 := by
  refine Met.ofW (cc := cX5_pop) (maxL := 1) (ret := (some .boolean)) (by decide) rfl ?_
  intro p e s m args below meth c s₁ B hml hv
  obtain ⟨rfl, ⟨hsz, hP, hK, hD0⟩, hO⟩ := hv
  have hx := B.exec
  have hb := B.bytes
  have hr := B.returns
  have hts := atoms_spec (ws := wsX5_pop) B.pre
  have hown : s.vm.findClass RX5 = some m.cls := findClass_of_methodNamed B.named
  have hlocks := B.notSynchronized
  subst hsz
  have hD := hD0.self (sz := s.heap.size)
  generalize hAe : va_A [(q 17, .inr (4, [.ref (q 5), .ref (q 18), .ref (q 19), .int (nI kc), .int (nI dp), .int fo, .int sl])), aI ci (q 18) 8 now, aI ci (q 19) 160 kept] s.heap.size = A at hD hO ⊢
  have hA : ∀ q : Nat, s.heap.size ≤ q → A q := fun q h => by rw [← hAe]; exact Or.inr h
  have ok := ok0
  refine startH (A := A) (fun H locs hP hS => ?_) hP
  have hi_X5 := (by decide +kernel : ∀ w ∈ wsX50, w ∈ wsX5_pop)
  have f_20 := hts (.fieldLink RX5 20 "PageReader$Place" "keptCount" "I") (by decide +kernel)
  have f_17 := hts (.fieldLink RX5 17 "PageReader$Place" "kept" "[I") (by decide +kernel)
  have f_13 := hts (.fieldLink RX5 13 "PageReader$Place" "now" "[I") (by decide +kernel)
  have m_36 := hts (.methodLink RX5 36 arraycopyName) (by decide +kernel)
  have m_acn := hts (.native arraycopyName) (by decide +kernel)
  have m_acs := hts (.static arraycopyName) (by decide +kernel)
  have m_aci := hts (.initialized "java/lang/System") (by decide +kernel)
  have hl := lv_entry ([.ref (q 17)]) (n := 1) (Nat.le_of_ble_eq_true rfl)
  rw [lg_entry_eq]
  generalize (lg_sl ([.ref (q 17)]) ++ List.replicate (1 - (lg_sl ([.ref (q 17)])).length) Slot.unset).toArray = ls at hl ⊢
  have hl : lv_has ls 1 [(0, .ref (q 17))] := hl
  refine lv_aload_n hx hb dX5_pop_0 rfl (lv_at hl 0 rfl) ?_
  refine va_get (D := G) (ci := 4) (v := .int (nI kc)) (C := RX5) (T := TX5) (N := 7) hx hb hts hi_X5 hown hK hP 0 rfl rfl 3 (by decide) f_20 (fun _ h9 => h9) rfl dX5_pop_1 ?_
  refine lv_if_gt (tgt := 9) hx hb dX5_pop_4 (by decide) (fun c_1 => ?_) (fun c_1 => ?_)
  · skip
    have z_1 := (nI_ltI (a := 0) (b := kc) (by omega) (by omega)).mp c_1
    refine lv_aload_n hx hb dX5_pop_9 rfl (lv_at hl 0 rfl) ?_
    refine lv_dup hx hb dX5_pop_10 rfl ?_
    refine va_get (D := G) (ci := 4) (v := .int (nI kc)) (C := RX5) (T := TX5) (N := 7) hx hb hts hi_X5 hown hK hP 0 rfl rfl 3 (by decide) f_20 (fun _ h9 => h9) rfl dX5_pop_11 ?_
    refine lv_iconst (v := nI 1) hx hb dX5_pop_14 (by decide) ?_
    refine lv_isub hx hb dX5_pop_15 ?_
    refine tp (pk_sub (by omega)) ?_
    refine va_put (D := G) (ci := 4) (v := .int (nI (kc - 1))) (ty := .int) (C := RX5) (T := TX5) (N := 7) hx hb hts hi_X5 tyX5 tyX5_ok nmX5 hown hK hP hD hS 0 rfl rfl 3 (by decide) f_20 (fun _ h9 => h9) rfl (by decide +kernel) rfl rfl (Nat.le_of_ble_eq_true rfl) dX5_pop_16 (fun H locs hP hD hS => ?_)
    have hP : va_P G vwCl [(q 17, .inr (4, [.ref (q 5), .ref (q 18), .ref (q 19), .int (nI (kc - 1)), .int (nI dp), .int fo, .int sl])), aI ci (q 18) 8 now, aI ci (q 19) 160 kept] H := hP
    have hD : va_D A [(q 17, .inr (4, [.ref (q 5), .ref (q 18), .ref (q 19), .int (nI (kc - 1)), .int (nI dp), .int fo, .int sl])), aI ci (q 18) 8 now, aI ci (q 19) 160 kept] := hD
    refine lv_aload_n hx hb dX5_pop_19 rfl (lv_at hl 0 rfl) ?_
    refine va_get (D := G) (ci := 4) (v := .ref (q 19)) (C := RX5) (T := TX5) (N := 7) hx hb hts hi_X5 hown hK hP 0 rfl rfl 2 (by decide) f_17 (fun _ h9 => h9) rfl dX5_pop_20 ?_
    refine lv_aload_n hx hb dX5_pop_23 rfl (lv_at hl 0 rfl) ?_
    refine va_get (D := G) (ci := 4) (v := .int (nI (kc - 1))) (C := RX5) (T := TX5) (N := 7) hx hb hts hi_X5 hown hK hP 0 rfl rfl 3 (by decide) f_20 (fun _ h9 => h9) rfl dX5_pop_24 ?_
    refine lv_bipush (v := nI 8) hx hb dX5_pop_27 (by decide) ?_
    refine lv_imul hx hb dX5_pop_29 ?_
    refine tp (pk_mul _ _) ?_
    refine lv_aload_n hx hb dX5_pop_30 rfl (lv_at hl 0 rfl) ?_
    refine va_get (D := G) (ci := 4) (v := .ref (q 18)) (C := RX5) (T := TX5) (N := 7) hx hb hts hi_X5 hown hK hP 0 rfl rfl 1 (by decide) f_13 (fun _ h9 => h9) rfl dX5_pop_31 ?_
    refine lv_iconst (v := nI 0) hx hb dX5_pop_34 (by decide) ?_
    refine lv_bipush (v := nI 8) hx hb dX5_pop_35 (by decide) ?_
    refine va_copyi hx hb (by rw [hml]; exact hl.1.symm) hown m_36 m_acn m_acs m_aci hK hP hD hS 2 1 0 0 rfl rfl rfl rfl rfl (nI_pos (by omega)) (nI_pos (by omega)) (nI_pos (by omega)) (by rw [nI_clamp (by omega), nI_clamp (by omega)]; omega) (by rw [nI_clamp (by omega), nI_clamp (by omega)]; omega) (fun i _ => rfl) (Nat.le_of_ble_eq_true rfl) (Nat.le_of_ble_eq_true rfl) dX5_pop_37 (fun H locs hP hD hS => ?_)
    rw [nI_clamp (n := ((kc - 1) * 8)) (by omega), nI_clamp (n := 0) (by omega), nI_clamp (n := 8) (by omega)] at hP hD
    have hP : va_P G vwCl [(q 17, .inr (4, [.ref (q 5), .ref (q 18), .ref (q 19), .int (nI (kc - 1)), .int (nI dp), .int fo, .int sl])), aI ci (q 18) 8 (va_cpy kept now ((kc - 1) * 8) 0 8), aI ci (q 19) 160 kept] H := hP
    have hD : va_D A [(q 17, .inr (4, [.ref (q 5), .ref (q 18), .ref (q 19), .int (nI (kc - 1)), .int (nI dp), .int fo, .int sl])), aI ci (q 18) 8 (va_cpy kept now ((kc - 1) * 8) 0 8), aI ci (q 19) 160 kept] := hD
    refine lv_iconst (v := nI 1) hx hb dX5_pop_40 (by decide) ?_
    exact rI (v := nI 1) hx hb hr hlocks nb1 hK hP hD hS [0, 1, 2] (1, kc - 1, va_cpy kept now ((kc - 1) * 8) 0 8) rfl (by decide) ⟨rfl, by (try dsimp only); omega, QPop_1 (by (try dsimp only); omega), by (try dsimp only); omega⟩ dX5_pop_41
  · skip
    have z_1 := mt (nI_ltI (a := 0) (b := kc) (by omega) (by omega)).mpr c_1
    refine lv_iconst (v := nI 0) hx hb dX5_pop_7 (by decide) ?_
    exact rI (v := nI 0) hx hb hr hlocks nb0 hK hP hD hS [0, 1, 2] (0, kc, now) rfl (by decide) ⟨rfl, by (try dsimp only); omega, Or.inr ⟨rfl, by (try dsimp only); omega⟩, by (try dsimp only); omega⟩ dX5_pop_8
set_option maxHeartbeats 4000000 in
set_option maxRecDepth 100000 in
theorem c_X5_stride (l : Launch) (G : va_G) (ci cz cl : ClassId) (q : Nat → Nat) (sz : Nat) (a : Nat) (k : Nat) (y : Int32) (kc : Nat) (dp : Nat) (fo : Int32) (sl : Int32) (now : Nat → Int32) (kept : Nat → Int32) (ha : 4 ≤ a ∧ a ≤ 7) (hk : k ≤ 1) : CtI l yX5_stride wsX5_stride ({ frames := 0, cells := 0, slots := 0, locals := 0 }) G (TY ci cz cl) O0 [.ref (q 17), .int (nI a), .int (nI k), .int y] [(q 17, .inr (4, [.ref (q 5), .ref (q 18), .ref (q 19), .int (nI kc), .int (nI dp), .int fo, .int sl])), aI ci (q 18) 8 now, aI ci (q 19) 160 kept] sz (fun (r : Int32) (u : Nat → Int32) => QSt k a y now u ∧ r = u a) (fun u : Nat → Int32 => [(q 17, .inr (4, [.ref (q 5), .ref (q 18), .ref (q 19), .int (nI kc), .int (nI dp), .int fo, .int sl])), aI ci (q 18) 8 u, aI ci (q 19) 160 kept]) 0 0 := by
  refine Met.ofW (cc := cX5_stride) (maxL := 4) (ret := (some .int)) (by decide) rfl ?_
  intro p e s m args below meth c s₁ B hml hv
  obtain ⟨rfl, ⟨hsz, hP, hK, hD0⟩, hO⟩ := hv
  have hx := B.exec
  have hb := B.bytes
  have hr := B.returns
  have hts := atoms_spec (ws := wsX5_stride) B.pre
  have hown : s.vm.findClass RX5 = some m.cls := findClass_of_methodNamed B.named
  have hlocks := B.notSynchronized
  subst hsz
  have hD := hD0.self (sz := s.heap.size)
  generalize hAe : va_A [(q 17, .inr (4, [.ref (q 5), .ref (q 18), .ref (q 19), .int (nI kc), .int (nI dp), .int fo, .int sl])), aI ci (q 18) 8 now, aI ci (q 19) 160 kept] s.heap.size = A at hD hO ⊢
  have hA : ∀ q : Nat, s.heap.size ≤ q → A q := fun q h => by rw [← hAe]; exact Or.inr h
  have ok := ok0
  refine startH (A := A) (fun H locs hP hS => ?_) hP
  have hi_X5 := (by decide +kernel : ∀ w ∈ wsX50, w ∈ wsX5_stride)
  have f_13 := hts (.fieldLink RX5 13 "PageReader$Place" "now" "[I") (by decide +kernel)
  have hl := lv_entry ([.ref (q 17), .int (nI a), .int (nI k), .int y]) (n := 4) (Nat.le_of_ble_eq_true rfl)
  rw [lg_entry_eq]
  generalize (lg_sl ([.ref (q 17), .int (nI a), .int (nI k), .int y]) ++ List.replicate (4 - (lg_sl ([.ref (q 17), .int (nI a), .int (nI k), .int y])).length) Slot.unset).toArray = ls at hl ⊢
  have hl : lv_has ls 4 [(0, .ref (q 17)), (1, .int (nI a)), (2, .int (nI k)), (3, .int y)] := hl
  refine lv_iload_n hx hb dX5_stride_0 rfl (lv_at hl 1 rfl) ?_
  refine lv_iconst (v := nI 4) hx hb dX5_stride_1 (by decide) ?_
  refine lv_icmp_lt (tgt := 11) hx hb dX5_stride_2 (by decide) (fun c_1 => ?_) (fun c_1 => ?_)
  · skip
    have z_1 := (nI_ltI (a := a) (b := 4) (by omega) (by omega)).mp c_1
    exfalso; omega
  · skip
    have z_1 := mt (nI_ltI (a := a) (b := 4) (by omega) (by omega)).mpr c_1
    refine lv_iload_n hx hb dX5_stride_5 rfl (lv_at hl 1 rfl) ?_
    refine lv_bipush (v := nI 7) hx hb dX5_stride_6 (by decide) ?_
    refine lv_icmp_le (tgt := 13) hx hb dX5_stride_8 (by decide) (fun c_2 => ?_) (fun c_2 => ?_)
    · skip
      have z_2 := (nI_leI (a := a) (b := 7) (by omega) (by omega)).mp c_2
      refine lv_iload_n hx hb dX5_stride_13 rfl (lv_at hl 2 rfl) ?_
      refine lv_if_eq (tgt := 24) hx hb dX5_stride_14 (by decide) (fun c_3 => ?_) (fun c_3 => ?_)
      · skip
        have z_3 := (nI_eq (a := k) (b := 0) (by omega) (by omega)).mp c_3
        refine lv_aload_n hx hb dX5_stride_24 rfl (lv_at hl 0 rfl) ?_
        refine va_get (D := G) (ci := 4) (v := .ref (q 18)) (C := RX5) (T := TX5) (N := 7) hx hb hts hi_X5 hown hK hP 0 rfl rfl 1 (by decide) f_13 (fun _ h9 => h9) rfl dX5_stride_25 ?_
        refine lv_iload_n hx hb dX5_stride_28 rfl (lv_at hl 1 rfl) ?_
        refine va_iald hx hb hK hP 1 0 rfl rfl (vp_in_nI (by omega) (by omega)) dX5_stride_29 ?_
        refine tp (y := now a) (congrArg now (nI_clamp (by omega))) ?_
        exact rI (v := now a) hx hb hr hlocks rfl hK hP hD hS [0, 1, 2] now rfl (by decide) ⟨by first | exact Or.inl ⟨by (try dsimp only); omega, rfl⟩ | exact Or.inr ⟨by (try dsimp only); omega, rfl⟩, rfl⟩ dX5_stride_30
      · skip
        have z_3 := mt (nI_eq (a := k) (b := 0) (by omega) (by omega)).mpr c_3
        refine lv_aload_n hx hb dX5_stride_17 rfl (lv_at hl 0 rfl) ?_
        refine va_get (D := G) (ci := 4) (v := .ref (q 18)) (C := RX5) (T := TX5) (N := 7) hx hb hts hi_X5 hown hK hP 0 rfl rfl 1 (by decide) f_13 (fun _ h9 => h9) rfl dX5_stride_18 ?_
        refine lv_iload_n hx hb dX5_stride_21 rfl (lv_at hl 1 rfl) ?_
        refine lv_iload_n hx hb dX5_stride_22 rfl (lv_at hl 3 rfl) ?_
        refine va_iast hx hb hK hP hD hS 1 0 rfl rfl (vp_in_nI (by omega) (by omega)) dX5_stride_23 (fun H locs hP hD hS => ?_)
        rw [nI_clamp (by omega)] at hP hD
        have hP : va_P G vwCl [(q 17, .inr (4, [.ref (q 5), .ref (q 18), .ref (q 19), .int (nI kc), .int (nI dp), .int fo, .int sl])), aI ci (q 18) 8 (upd now a y), aI ci (q 19) 160 kept] H := hP
        have hD : va_D A [(q 17, .inr (4, [.ref (q 5), .ref (q 18), .ref (q 19), .int (nI kc), .int (nI dp), .int fo, .int sl])), aI ci (q 18) 8 (upd now a y), aI ci (q 19) 160 kept] := hD
        refine lv_aload_n hx hb dX5_stride_24 rfl (lv_at hl 0 rfl) ?_
        refine va_get (D := G) (ci := 4) (v := .ref (q 18)) (C := RX5) (T := TX5) (N := 7) hx hb hts hi_X5 hown hK hP 0 rfl rfl 1 (by decide) f_13 (fun _ h9 => h9) rfl dX5_stride_25 ?_
        refine lv_iload_n hx hb dX5_stride_28 rfl (lv_at hl 1 rfl) ?_
        refine va_iald hx hb hK hP 1 0 rfl rfl (vp_in_nI (by omega) (by omega)) dX5_stride_29 ?_
        refine tp (y := (upd now a y) a) (congrArg (upd now a y) (nI_clamp (by omega))) ?_
        exact rI (v := (upd now a y) a) hx hb hr hlocks rfl hK hP hD hS [0, 1, 2] (upd now a y) rfl (by decide) ⟨by first | exact Or.inl ⟨by (try dsimp only); omega, rfl⟩ | exact Or.inr ⟨by (try dsimp only); omega, rfl⟩, rfl⟩ dX5_stride_30
    · skip
      have z_2 := mt (nI_leI (a := a) (b := 7) (by omega) (by omega)).mpr c_2
      exfalso; omega
set_option maxHeartbeats 4000000 in
set_option maxRecDepth 100000 in
theorem c_X5_held (l : Launch) (G : va_G) (ci cz cl : ClassId) (q : Nat → Nat) (sz : Nat) (x : Int32) (y : Int32) (kc : Nat) (dp : Nat) (fo : Int32) (sl : Int32) (now : Nat → Int32) (kept : Nat → Int32) (fac : UInt64) (hf : Fn fac) : CtI l yX5_held wsX5_held ({ frames := 1, cells := 0, slots := 0, locals := 23 }) G (TY ci cz cl) O0 [.ref (q 17), .int x, .int y] [(q 17, .inr (4, [.ref (q 5), .ref (q 18), .ref (q 19), .int (nI kc), .int (nI dp), .int fo, .int sl])), aI ci (q 18) 8 now, aI ci (q 19) 160 kept, (q 5, .inr (3, [.double fac]))] sz (fun (r : Int32) (u : Unit) => True) (fun u : Unit => [(q 17, .inr (4, [.ref (q 5), .ref (q 18), .ref (q 19), .int (nI kc), .int (nI dp), .int fo, .int sl])), aI ci (q 18) 8 now, aI ci (q 19) 160 kept, (q 5, .inr (3, [.double fac]))]) 0 0 := by
  refine Met.ofW (cc := cX5_held) (maxL := 5) (ret := (some .int)) (by decide) rfl ?_
  intro p e s m args below meth c s₁ B hml hv
  obtain ⟨rfl, ⟨hsz, hP, hK, hD0⟩, hO⟩ := hv
  have hx := B.exec
  have hb := B.bytes
  have hr := B.returns
  have hts := atoms_spec (ws := wsX5_held) B.pre
  have hown : s.vm.findClass RX5 = some m.cls := findClass_of_methodNamed B.named
  have hlocks := B.notSynchronized
  subst hsz
  have hD := hD0.self (sz := s.heap.size)
  generalize hAe : va_A [(q 17, .inr (4, [.ref (q 5), .ref (q 18), .ref (q 19), .int (nI kc), .int (nI dp), .int fo, .int sl])), aI ci (q 18) 8 now, aI ci (q 19) 160 kept, (q 5, .inr (3, [.double fac]))] s.heap.size = A at hD hO ⊢
  have hA : ∀ q : Nat, s.heap.size ≤ q → A q := fun q h => by rw [← hAe]; exact Or.inr h
  have ok := ok0
  refine startH (A := A) (fun H locs hP hS => ?_) hP
  have hi_X5 := (by decide +kernel : ∀ w ∈ wsX50, w ∈ wsX5_held)
  have f_7 := hts (.fieldLink RX5 7 "PageReader$Place" "pixels" "LPageReader$Pixels;") (by decide +kernel)
  have hl := lv_entry ([.ref (q 17), .int x, .int y]) (n := 5) (Nat.le_of_ble_eq_true rfl)
  rw [lg_entry_eq]
  generalize (lg_sl ([.ref (q 17), .int x, .int y]) ++ List.replicate (5 - (lg_sl ([.ref (q 17), .int x, .int y])).length) Slot.unset).toArray = ls at hl ⊢
  have hl : lv_has ls 5 [(0, .ref (q 17)), (1, .int x), (2, .int y)] := hl
  refine lv_aload_n hx hb dX5_held_0 rfl (lv_at hl 0 rfl) ?_
  refine va_get (D := G) (ci := 4) (v := .ref (q 5)) (C := RX5) (T := TX5) (N := 7) hx hb hts hi_X5 hown hK hP 0 rfl rfl 0 (by decide) f_7 (fun _ h9 => h9) rfl dX5_held_1 ?_
  refine lv_iload_n hx hb dX5_held_4 rfl (lv_at hl 2 rfl) ?_
  refine jI (va_runV (As := [.int y]) (rest := []) ⟨hx, hb, hml, hown, hts⟩ (c_X4_rounded l G ci cz cl q H.size y fac (by assumption)) (cwV 1 hts gX5_held_X4_rounded rfl rfl rfl (by decide +kernel) ⟨(Nat.le_of_ble_eq_true rfl), (Nat.le_of_ble_eq_true rfl)⟩) (pV (wc := [(q 5, .inr (3, [.double fac]))]) ok hK hP hD hS hA hO [3] rfl (by decide) 3 rfl rfl) rfl rfl hl.1 rfl (lv_room (Nat.le_of_ble_eq_true rfl)) dX5_held_5 ⟨(Nat.le_of_ble_eq_true rfl), (Nat.le_of_ble_eq_true rfl)⟩) (wr := [(q 17, .inr (4, [.ref (q 5), .ref (q 18), .ref (q 19), .int (nI kc), .int (nI dp), .int fo, .int sl])), aI ci (q 18) 8 now, aI ci (q 19) 160 kept]) hP hD hS hA [3] [0, 1, 2] rfl rfl (by decide) (by decide) (fun r_1 u H locs hw_1 hP hD hS => ?_)
  try dsimp only at hw_1
  have hP : va_P G vwCl [(q 17, .inr (4, [.ref (q 5), .ref (q 18), .ref (q 19), .int (nI kc), .int (nI dp), .int fo, .int sl])), aI ci (q 18) 8 now, aI ci (q 19) 160 kept, (q 5, .inr (3, [.double fac]))] H := hP
  have hD : va_D A [(q 17, .inr (4, [.ref (q 5), .ref (q 18), .ref (q 19), .int (nI kc), .int (nI dp), .int fo, .int sl])), aI ci (q 18) 8 now, aI ci (q 19) 160 kept, (q 5, .inr (3, [.double fac]))] := hD
  refine lv_istore_n (lv' := [(3, .int r_1), (0, .ref (q 17)), (1, .int x), (2, .int y)]) hx hb dX5_held_8 rfl hl (by decide) rfl (fun ls hl => ?_)
  refine lv_iload_n hx hb dX5_held_9 rfl (lv_at hl 2 rfl) ?_
  refine lv_iload_n hx hb dX5_held_10 rfl (lv_at hl 0 rfl) ?_
  refine lv_iconst (v := nI 2) hx hb dX5_held_11 (by decide) ?_
  refine lv_iadd hx hb dX5_held_12 ?_
  refine lv_icmp_le (tgt := 22) hx hb dX5_held_13 (by decide) (fun c_2 => ?_) (fun c_2 => ?_)
  · skip
    have z_2 := (i_le x (r_1 + (nI 2))).mp c_2
    refine lv_iload_n hx hb dX5_held_22 rfl (lv_at hl 2 rfl) ?_
    refine lv_istore (lv' := [(4, .int x), (3, .int r_1), (0, .ref (q 17)), (1, .int x), (2, .int y)]) hx hb dX5_held_23 hl (by decide) rfl (fun ls hl => ?_)
    refine lv_iload hx hb dX5_held_25 (lv_at hl 0 rfl) ?_
    refine lv_iload_n hx hb dX5_held_27 rfl (lv_at hl 1 rfl) ?_
    refine lv_iconst (v := nI 2) hx hb dX5_held_28 (by decide) ?_
    refine lv_isub hx hb dX5_held_29 ?_
    refine lv_icmp_ge (tgt := 39) hx hb dX5_held_30 (by decide) (fun c_3 => ?_) (fun c_3 => ?_)
    · skip
      have z_3 := (i_le (r_1 - (nI 2)) x).mp c_3
      refine lv_iload hx hb dX5_held_39 (lv_at hl 0 rfl) ?_
      exact rI (v := x) hx hb hr hlocks rfl hK hP hD hS [0, 1, 2, 3] () rfl (by decide) trivial dX5_held_41
    · skip
      have z_3 := mt (i_le (r_1 - (nI 2)) x).mpr c_3
      refine lv_iload_n hx hb dX5_held_33 rfl (lv_at hl 1 rfl) ?_
      refine lv_iconst (v := nI 2) hx hb dX5_held_34 (by decide) ?_
      refine lv_isub hx hb dX5_held_35 ?_
      refine lv_goto (tgt := 41) hx hb dX5_held_36 (by decide) ?_
      exact rI (v := r_1 - (nI 2)) hx hb hr hlocks rfl hK hP hD hS [0, 1, 2, 3] () rfl (by decide) trivial dX5_held_41
  · skip
    have z_2 := mt (i_le x (r_1 + (nI 2))).mpr c_2
    refine lv_iload_n hx hb dX5_held_16 rfl (lv_at hl 0 rfl) ?_
    refine lv_iconst (v := nI 2) hx hb dX5_held_17 (by decide) ?_
    refine lv_iadd hx hb dX5_held_18 ?_
    refine lv_goto (tgt := 23) hx hb dX5_held_19 (by decide) ?_
    refine lv_istore (lv' := [(4, .int (r_1 + (nI 2))), (3, .int r_1), (0, .ref (q 17)), (1, .int x), (2, .int y)]) hx hb dX5_held_23 hl (by decide) rfl (fun ls hl => ?_)
    refine lv_iload hx hb dX5_held_25 (lv_at hl 0 rfl) ?_
    refine lv_iload_n hx hb dX5_held_27 rfl (lv_at hl 1 rfl) ?_
    refine lv_iconst (v := nI 2) hx hb dX5_held_28 (by decide) ?_
    refine lv_isub hx hb dX5_held_29 ?_
    refine lv_icmp_ge (tgt := 39) hx hb dX5_held_30 (by decide) (fun c_4 => ?_) (fun c_4 => ?_)
    · skip
      have z_4 := (i_le (r_1 - (nI 2)) (r_1 + (nI 2))).mp c_4
      refine lv_iload hx hb dX5_held_39 (lv_at hl 0 rfl) ?_
      exact rI (v := r_1 + (nI 2)) hx hb hr hlocks rfl hK hP hD hS [0, 1, 2, 3] () rfl (by decide) trivial dX5_held_41
    · skip
      have z_4 := mt (i_le (r_1 - (nI 2)) (r_1 + (nI 2))).mpr c_4
      refine lv_iload_n hx hb dX5_held_33 rfl (lv_at hl 1 rfl) ?_
      refine lv_iconst (v := nI 2) hx hb dX5_held_34 (by decide) ?_
      refine lv_isub hx hb dX5_held_35 ?_
      refine lv_goto (tgt := 41) hx hb dX5_held_36 (by decide) ?_
      exact rI (v := r_1 - (nI 2)) hx hb hr hlocks rfl hK hP hD hS [0, 1, 2, 3] () rfl (by decide) trivial dX5_held_41
set_option maxHeartbeats 4000000 in
set_option maxRecDepth 100000 in
theorem c_X5_moveRight (l : Launch) (G : va_G) (ci cz cl : ClassId) (q : Nat → Nat) (sz : Nat) (x : Int32) (kc : Nat) (dp : Nat) (fo : Int32) (sl : Int32) (now : Nat → Int32) (kept : Nat → Int32) (fac : UInt64) (hf : Fn fac) : CtV l yX5_moveRight wsX5_moveRight ({ frames := 2, cells := 0, slots := 0, locals := 47 }) G (TY ci cz cl) O0 [.ref (q 17), .int x] [(q 17, .inr (4, [.ref (q 5), .ref (q 18), .ref (q 19), .int (nI kc), .int (nI dp), .int fo, .int sl])), aI ci (q 18) 8 now, aI ci (q 19) 160 kept, (q 5, .inr (3, [.double fac]))] sz (fun (u : Nat → Int32) => QMh now u x) (fun u : Nat → Int32 => [(q 17, .inr (4, [.ref (q 5), .ref (q 18), .ref (q 19), .int (nI kc), .int (nI dp), .int fo, .int sl])), aI ci (q 18) 8 u, aI ci (q 19) 160 kept, (q 5, .inr (3, [.double fac]))]) 0 0 := by
  refine Met.ofW (cc := cX5_moveRight) (maxL := 5) (ret := none) (by decide) rfl ?_
  intro p e s m args below meth c s₁ B hml hv
  obtain ⟨rfl, ⟨hsz, hP, hK, hD0⟩, hO⟩ := hv
  have hx := B.exec
  have hb := B.bytes
  have hr := B.returns
  have hts := atoms_spec (ws := wsX5_moveRight) B.pre
  have hown : s.vm.findClass RX5 = some m.cls := findClass_of_methodNamed B.named
  have hlocks := B.notSynchronized
  subst hsz
  have hD := hD0.self (sz := s.heap.size)
  generalize hAe : va_A [(q 17, .inr (4, [.ref (q 5), .ref (q 18), .ref (q 19), .int (nI kc), .int (nI dp), .int fo, .int sl])), aI ci (q 18) 8 now, aI ci (q 19) 160 kept, (q 5, .inr (3, [.double fac]))] s.heap.size = A at hD hO ⊢
  have hA : ∀ q : Nat, s.heap.size ≤ q → A q := fun q h => by rw [← hAe]; exact Or.inr h
  have ok := ok0
  refine startH (A := A) (fun H locs hP hS => ?_) hP
  have hi_X5 := (by decide +kernel : ∀ w ∈ wsX50, w ∈ wsX5_moveRight)
  have f_30 := hts (.fieldLink RX5 30 "PageReader$Place" "scale" "I") (by decide +kernel)
  have f_7 := hts (.fieldLink RX5 7 "PageReader$Place" "pixels" "LPageReader$Pixels;") (by decide +kernel)
  have f_13 := hts (.fieldLink RX5 13 "PageReader$Place" "now" "[I") (by decide +kernel)
  have hl := lv_entry ([.ref (q 17), .int x]) (n := 5) (Nat.le_of_ble_eq_true rfl)
  rw [lg_entry_eq]
  generalize (lg_sl ([.ref (q 17), .int x]) ++ List.replicate (5 - (lg_sl ([.ref (q 17), .int x])).length) Slot.unset).toArray = ls at hl ⊢
  have hl : lv_has ls 5 [(0, .ref (q 17)), (1, .int x)] := hl
  refine lv_aload_n hx hb dX5_moveRight_0 rfl (lv_at hl 0 rfl) ?_
  refine va_get (D := G) (ci := 4) (v := .int sl) (C := RX5) (T := TX5) (N := 7) hx hb hts hi_X5 hown hK hP 0 rfl rfl 6 (by decide) f_30 (fun _ h9 => h9) rfl dX5_moveRight_1 ?_
  refine lv_bipush (v := nI 6) hx hb dX5_moveRight_4 (by decide) ?_
  refine lv_idiv hx hb dX5_moveRight_6 (by decide) ?_
  refine lv_istore_n (lv' := [(2, .int (sl / (nI 6))), (0, .ref (q 17)), (1, .int x)]) hx hb dX5_moveRight_7 rfl hl (by decide) rfl (fun ls hl => ?_)
  refine lv_aload_n hx hb dX5_moveRight_8 rfl (lv_at hl 1 rfl) ?_
  refine jI (va_runV (As := []) (rest := []) ⟨hx, hb, hml, hown, hts⟩ (c_X5_hasFont l G ci cz cl q H.size kc dp fo sl now kept ) (cwV 0 hts gX5_moveRight_X5_hasFont rfl rfl rfl (by decide +kernel) ⟨(Nat.le_of_ble_eq_true rfl), (Nat.le_of_ble_eq_true rfl)⟩) (pV (wc := [(q 17, .inr (4, [.ref (q 5), .ref (q 18), .ref (q 19), .int (nI kc), .int (nI dp), .int fo, .int sl])), aI ci (q 18) 8 now, aI ci (q 19) 160 kept]) ok hK hP hD hS hA hO [0, 1, 2] rfl (by decide) 0 rfl rfl) rfl rfl hl.1 rfl (lv_room (Nat.le_of_ble_eq_true rfl)) dX5_moveRight_9 ⟨(Nat.le_of_ble_eq_true rfl), (Nat.le_of_ble_eq_true rfl)⟩) (wr := [(q 5, .inr (3, [.double fac]))]) hP hD hS hA [0, 1, 2] [3] rfl rfl (by decide) (by decide) (fun r_1 u H locs hw_1 hP hD hS => ?_)
  obtain ⟨bo_1, rfl⟩ : ∃ z, z = u := ⟨_, rfl⟩
  try dsimp only at hw_1
  obtain ⟨rfl, h_1⟩ := hw_1
  rcases h_1 with ⟨rfl, a_1⟩ | ⟨rfl, a_1⟩
  · skip
    have hP : va_P G vwCl [(q 5, .inr (3, [.double fac])), (q 17, .inr (4, [.ref (q 5), .ref (q 18), .ref (q 19), .int (nI kc), .int (nI dp), .int fo, .int sl])), aI ci (q 18) 8 now, aI ci (q 19) 160 kept] H := hP
    have hD : va_D A [(q 5, .inr (3, [.double fac])), (q 17, .inr (4, [.ref (q 5), .ref (q 18), .ref (q 19), .int (nI kc), .int (nI dp), .int fo, .int sl])), aI ci (q 18) 8 now, aI ci (q 19) 160 kept] := hD
    refine lv_if_eq (tgt := 32) hx hb dX5_moveRight_12 (by decide) (fun c => absurd c (by decide)) (fun _ => ?_)
    refine lv_iload_n hx hb dX5_moveRight_15 rfl (lv_at hl 2 rfl) ?_
    refine lv_iload_n hx hb dX5_moveRight_16 rfl (lv_at hl 0 rfl) ?_
    refine lv_icmp_ge (tgt := 32) hx hb dX5_moveRight_17 (by decide) (fun c_2 => ?_) (fun c_2 => ?_)
    · skip
      have z_2 := (i_le (sl / (nI 6)) x).mp c_2
      refine lv_iconst (v := nI 0) hx hb dX5_moveRight_32 (by decide) ?_
      refine lv_istore_n (lv' := [(3, .int (nI 0)), (2, .int (sl / (nI 6))), (0, .ref (q 17)), (1, .int x)]) hx hb dX5_moveRight_33 rfl hl (by decide) rfl (fun ls hl => ?_)
      refine lv_iload_n hx hb dX5_moveRight_34 rfl (lv_at hl 0 rfl) ?_
      refine lv_if_eq (tgt := 56) hx hb dX5_moveRight_35 (by decide) (fun _ => ?_) (fun c => absurd c (by decide))
      refine lv_aload_n hx hb dX5_moveRight_56 rfl (lv_at hl 2 rfl) ?_
      refine va_get (D := G) (ci := 4) (v := .ref (q 5)) (C := RX5) (T := TX5) (N := 7) hx hb hts hi_X5 hown hK hP 1 rfl rfl 0 (by decide) f_7 (fun _ h9 => h9) rfl dX5_moveRight_57 ?_
      refine lv_aload_n hx hb dX5_moveRight_60 rfl (lv_at hl 2 rfl) ?_
      refine va_get (D := G) (ci := 4) (v := .ref (q 18)) (C := RX5) (T := TX5) (N := 7) hx hb hts hi_X5 hown hK hP 1 rfl rfl 1 (by decide) f_13 (fun _ h9 => h9) rfl dX5_moveRight_61 ?_
      refine lv_iconst (v := nI 0) hx hb dX5_moveRight_64 (by decide) ?_
      refine va_iald hx hb hK hP 2 0 rfl rfl (vp_in_nI (by omega) (by omega)) dX5_moveRight_65 ?_
      refine tp (y := now 0) (congrArg now (nI_clamp (by omega))) ?_
      refine lv_iload_n hx hb dX5_moveRight_66 rfl (lv_at hl 3 rfl) ?_
      refine lv_iadd hx hb dX5_moveRight_67 ?_
      refine jI (va_runV (As := [.int ((now 0) + x)]) (rest := []) ⟨hx, hb, hml, hown, hts⟩ (c_X4_rounded l G ci cz cl q H.size ((now 0) + x) fac (by assumption)) (cwV 1 hts gX5_moveRight_X4_rounded rfl rfl rfl (by decide +kernel) ⟨(Nat.le_of_ble_eq_true rfl), (Nat.le_of_ble_eq_true rfl)⟩) (pV (wc := [(q 5, .inr (3, [.double fac]))]) ok hK hP hD hS hA hO [0] rfl (by decide) 0 rfl rfl) rfl rfl hl.1 rfl (lv_room (Nat.le_of_ble_eq_true rfl)) dX5_moveRight_68 ⟨(Nat.le_of_ble_eq_true rfl), (Nat.le_of_ble_eq_true rfl)⟩) (wr := [(q 17, .inr (4, [.ref (q 5), .ref (q 18), .ref (q 19), .int (nI kc), .int (nI dp), .int fo, .int sl])), aI ci (q 18) 8 now, aI ci (q 19) 160 kept]) hP hD hS hA [0] [1, 2, 3] rfl rfl (by decide) (by decide) (fun r_3 u H locs hw_3 hP hD hS => ?_)
      try dsimp only at hw_3
      have hP : va_P G vwCl [(q 17, .inr (4, [.ref (q 5), .ref (q 18), .ref (q 19), .int (nI kc), .int (nI dp), .int fo, .int sl])), aI ci (q 18) 8 now, aI ci (q 19) 160 kept, (q 5, .inr (3, [.double fac]))] H := hP
      have hD : va_D A [(q 17, .inr (4, [.ref (q 5), .ref (q 18), .ref (q 19), .int (nI kc), .int (nI dp), .int fo, .int sl])), aI ci (q 18) 8 now, aI ci (q 19) 160 kept, (q 5, .inr (3, [.double fac]))] := hD
      refine lv_istore (lv' := [(4, .int r_3), (3, .int (nI 0)), (2, .int (sl / (nI 6))), (0, .ref (q 17)), (1, .int x)]) hx hb dX5_moveRight_71 hl (by decide) rfl (fun ls hl => ?_)
      refine lv_aload_n hx hb dX5_moveRight_73 rfl (lv_at hl 3 rfl) ?_
      refine va_get (D := G) (ci := 4) (v := .ref (q 18)) (C := RX5) (T := TX5) (N := 7) hx hb hts hi_X5 hown hK hP 0 rfl rfl 1 (by decide) f_13 (fun _ h9 => h9) rfl dX5_moveRight_74 ?_
      refine lv_iconst (v := nI 0) hx hb dX5_moveRight_77 (by decide) ?_
      refine lv_dup2_11 hx hb dX5_moveRight_78 rfl rfl ?_
      refine va_iald hx hb hK hP 1 0 rfl rfl (vp_in_nI (by omega) (by omega)) dX5_moveRight_79 ?_
      refine tp (y := now 0) (congrArg now (nI_clamp (by omega))) ?_
      refine lv_iload_n hx hb dX5_moveRight_80 rfl (lv_at hl 4 rfl) ?_
      refine lv_iadd hx hb dX5_moveRight_81 ?_
      refine va_iast hx hb hK hP hD hS 1 0 rfl rfl (vp_in_nI (by omega) (by omega)) dX5_moveRight_82 (fun H locs hP hD hS => ?_)
      rw [nI_clamp (by omega)] at hP hD
      have hP : va_P G vwCl [(q 17, .inr (4, [.ref (q 5), .ref (q 18), .ref (q 19), .int (nI kc), .int (nI dp), .int fo, .int sl])), aI ci (q 18) 8 (upd now 0 ((now 0) + x)), aI ci (q 19) 160 kept, (q 5, .inr (3, [.double fac]))] H := hP
      have hD : va_D A [(q 17, .inr (4, [.ref (q 5), .ref (q 18), .ref (q 19), .int (nI kc), .int (nI dp), .int fo, .int sl])), aI ci (q 18) 8 (upd now 0 ((now 0) + x)), aI ci (q 19) 160 kept, (q 5, .inr (3, [.double fac]))] := hD
      refine lv_aload_n hx hb dX5_moveRight_83 rfl (lv_at hl 3 rfl) ?_
      refine va_get (D := G) (ci := 4) (v := .ref (q 18)) (C := RX5) (T := TX5) (N := 7) hx hb hts hi_X5 hown hK hP 0 rfl rfl 1 (by decide) f_13 (fun _ h9 => h9) rfl dX5_moveRight_84 ?_
      refine lv_iconst (v := nI 2) hx hb dX5_moveRight_87 (by decide) ?_
      refine lv_aload_n hx hb dX5_moveRight_88 rfl (lv_at hl 3 rfl) ?_
      refine lv_iload hx hb dX5_moveRight_89 (lv_at hl 0 rfl) ?_
      refine lv_aload_n hx hb dX5_moveRight_91 rfl (lv_at hl 3 rfl) ?_
      refine va_get (D := G) (ci := 4) (v := .ref (q 18)) (C := RX5) (T := TX5) (N := 7) hx hb hts hi_X5 hown hK hP 0 rfl rfl 1 (by decide) f_13 (fun _ h9 => h9) rfl dX5_moveRight_92 ?_
      refine lv_iconst (v := nI 0) hx hb dX5_moveRight_95 (by decide) ?_
      refine va_iald hx hb hK hP 1 0 rfl rfl (vp_in_nI (by omega) (by omega)) dX5_moveRight_96 ?_
      refine tp (y := (upd now 0 ((now 0) + x)) 0) (congrArg (upd now 0 ((now 0) + x)) (nI_clamp (by omega))) ?_
      refine jI (va_runV (As := [.int r_3, .int ((upd now 0 ((now 0) + x)) 0)]) (rest := [.int (nI 2), .ref (q 18)]) ⟨hx, hb, hml, hown, hts⟩ (c_X5_held l G ci cz cl q H.size r_3 ((upd now 0 ((now 0) + x)) 0) kc dp fo sl (upd now 0 ((now 0) + x)) kept fac (by assumption)) (cwV 2 hts gX5_moveRight_X5_held rfl rfl rfl (by decide +kernel) ⟨(Nat.le_of_ble_eq_true rfl), (Nat.le_of_ble_eq_true rfl)⟩) (pV (wc := [(q 17, .inr (4, [.ref (q 5), .ref (q 18), .ref (q 19), .int (nI kc), .int (nI dp), .int fo, .int sl])), aI ci (q 18) 8 (upd now 0 ((now 0) + x)), aI ci (q 19) 160 kept, (q 5, .inr (3, [.double fac]))]) ok hK hP hD hS hA hO [0, 1, 2, 3] rfl (by decide) 0 rfl rfl) rfl rfl hl.1 rfl (lv_room (Nat.le_of_ble_eq_true rfl)) dX5_moveRight_97 ⟨(Nat.le_of_ble_eq_true rfl), (Nat.le_of_ble_eq_true rfl)⟩) (wr := []) hP hD hS hA [0, 1, 2, 3] [] rfl rfl (by decide) (by decide) (fun r_4 u H locs hw_4 hP hD hS => ?_)
      try dsimp only at hw_4
      have hP : va_P G vwCl [(q 17, .inr (4, [.ref (q 5), .ref (q 18), .ref (q 19), .int (nI kc), .int (nI dp), .int fo, .int sl])), aI ci (q 18) 8 (upd now 0 ((now 0) + x)), aI ci (q 19) 160 kept, (q 5, .inr (3, [.double fac]))] H := hP
      have hD : va_D A [(q 17, .inr (4, [.ref (q 5), .ref (q 18), .ref (q 19), .int (nI kc), .int (nI dp), .int fo, .int sl])), aI ci (q 18) 8 (upd now 0 ((now 0) + x)), aI ci (q 19) 160 kept, (q 5, .inr (3, [.double fac]))] := hD
      refine va_iast hx hb hK hP hD hS 1 0 rfl rfl (vp_in_nI (by omega) (by omega)) dX5_moveRight_100 (fun H locs hP hD hS => ?_)
      rw [nI_clamp (by omega)] at hP hD
      have hP : va_P G vwCl [(q 17, .inr (4, [.ref (q 5), .ref (q 18), .ref (q 19), .int (nI kc), .int (nI dp), .int fo, .int sl])), aI ci (q 18) 8 (upd (upd now 0 ((now 0) + x)) 2 r_4), aI ci (q 19) 160 kept, (q 5, .inr (3, [.double fac]))] H := hP
      have hD : va_D A [(q 17, .inr (4, [.ref (q 5), .ref (q 18), .ref (q 19), .int (nI kc), .int (nI dp), .int fo, .int sl])), aI ci (q 18) 8 (upd (upd now 0 ((now 0) + x)) 2 r_4), aI ci (q 19) 160 kept, (q 5, .inr (3, [.double fac]))] := hD
      exact rV hx hb hr hlocks hK hP hD hS [0, 1, 2, 3] (upd (upd now 0 ((now 0) + x)) 2 r_4) rfl (by decide) QMh_u dX5_moveRight_101
    · skip
      have z_2 := mt (i_le (sl / (nI 6)) x).mpr c_2
      refine lv_iload_n hx hb dX5_moveRight_20 rfl (lv_at hl 2 rfl) ?_
      refine lv_bipush (v := (-4)) hx hb dX5_moveRight_21 (by decide) ?_
      refine lv_iload_n hx hb dX5_moveRight_23 rfl (lv_at hl 0 rfl) ?_
      refine lv_imul hx hb dX5_moveRight_24 ?_
      refine lv_icmp_le (tgt := 32) hx hb dX5_moveRight_25 (by decide) (fun c_5 => ?_) (fun c_5 => ?_)
      · skip
        have z_5 := (i_le x ((-4) * (sl / (nI 6)))).mp c_5
        refine lv_iconst (v := nI 0) hx hb dX5_moveRight_32 (by decide) ?_
        refine lv_istore_n (lv' := [(3, .int (nI 0)), (2, .int (sl / (nI 6))), (0, .ref (q 17)), (1, .int x)]) hx hb dX5_moveRight_33 rfl hl (by decide) rfl (fun ls hl => ?_)
        refine lv_iload_n hx hb dX5_moveRight_34 rfl (lv_at hl 0 rfl) ?_
        refine lv_if_eq (tgt := 56) hx hb dX5_moveRight_35 (by decide) (fun _ => ?_) (fun c => absurd c (by decide))
        refine lv_aload_n hx hb dX5_moveRight_56 rfl (lv_at hl 2 rfl) ?_
        refine va_get (D := G) (ci := 4) (v := .ref (q 5)) (C := RX5) (T := TX5) (N := 7) hx hb hts hi_X5 hown hK hP 1 rfl rfl 0 (by decide) f_7 (fun _ h9 => h9) rfl dX5_moveRight_57 ?_
        refine lv_aload_n hx hb dX5_moveRight_60 rfl (lv_at hl 2 rfl) ?_
        refine va_get (D := G) (ci := 4) (v := .ref (q 18)) (C := RX5) (T := TX5) (N := 7) hx hb hts hi_X5 hown hK hP 1 rfl rfl 1 (by decide) f_13 (fun _ h9 => h9) rfl dX5_moveRight_61 ?_
        refine lv_iconst (v := nI 0) hx hb dX5_moveRight_64 (by decide) ?_
        refine va_iald hx hb hK hP 2 0 rfl rfl (vp_in_nI (by omega) (by omega)) dX5_moveRight_65 ?_
        refine tp (y := now 0) (congrArg now (nI_clamp (by omega))) ?_
        refine lv_iload_n hx hb dX5_moveRight_66 rfl (lv_at hl 3 rfl) ?_
        refine lv_iadd hx hb dX5_moveRight_67 ?_
        refine jI (va_runV (As := [.int ((now 0) + x)]) (rest := []) ⟨hx, hb, hml, hown, hts⟩ (c_X4_rounded l G ci cz cl q H.size ((now 0) + x) fac (by assumption)) (cwV 1 hts gX5_moveRight_X4_rounded rfl rfl rfl (by decide +kernel) ⟨(Nat.le_of_ble_eq_true rfl), (Nat.le_of_ble_eq_true rfl)⟩) (pV (wc := [(q 5, .inr (3, [.double fac]))]) ok hK hP hD hS hA hO [0] rfl (by decide) 0 rfl rfl) rfl rfl hl.1 rfl (lv_room (Nat.le_of_ble_eq_true rfl)) dX5_moveRight_68 ⟨(Nat.le_of_ble_eq_true rfl), (Nat.le_of_ble_eq_true rfl)⟩) (wr := [(q 17, .inr (4, [.ref (q 5), .ref (q 18), .ref (q 19), .int (nI kc), .int (nI dp), .int fo, .int sl])), aI ci (q 18) 8 now, aI ci (q 19) 160 kept]) hP hD hS hA [0] [1, 2, 3] rfl rfl (by decide) (by decide) (fun r_6 u H locs hw_6 hP hD hS => ?_)
        try dsimp only at hw_6
        have hP : va_P G vwCl [(q 17, .inr (4, [.ref (q 5), .ref (q 18), .ref (q 19), .int (nI kc), .int (nI dp), .int fo, .int sl])), aI ci (q 18) 8 now, aI ci (q 19) 160 kept, (q 5, .inr (3, [.double fac]))] H := hP
        have hD : va_D A [(q 17, .inr (4, [.ref (q 5), .ref (q 18), .ref (q 19), .int (nI kc), .int (nI dp), .int fo, .int sl])), aI ci (q 18) 8 now, aI ci (q 19) 160 kept, (q 5, .inr (3, [.double fac]))] := hD
        refine lv_istore (lv' := [(4, .int r_6), (3, .int (nI 0)), (2, .int (sl / (nI 6))), (0, .ref (q 17)), (1, .int x)]) hx hb dX5_moveRight_71 hl (by decide) rfl (fun ls hl => ?_)
        refine lv_aload_n hx hb dX5_moveRight_73 rfl (lv_at hl 3 rfl) ?_
        refine va_get (D := G) (ci := 4) (v := .ref (q 18)) (C := RX5) (T := TX5) (N := 7) hx hb hts hi_X5 hown hK hP 0 rfl rfl 1 (by decide) f_13 (fun _ h9 => h9) rfl dX5_moveRight_74 ?_
        refine lv_iconst (v := nI 0) hx hb dX5_moveRight_77 (by decide) ?_
        refine lv_dup2_11 hx hb dX5_moveRight_78 rfl rfl ?_
        refine va_iald hx hb hK hP 1 0 rfl rfl (vp_in_nI (by omega) (by omega)) dX5_moveRight_79 ?_
        refine tp (y := now 0) (congrArg now (nI_clamp (by omega))) ?_
        refine lv_iload_n hx hb dX5_moveRight_80 rfl (lv_at hl 4 rfl) ?_
        refine lv_iadd hx hb dX5_moveRight_81 ?_
        refine va_iast hx hb hK hP hD hS 1 0 rfl rfl (vp_in_nI (by omega) (by omega)) dX5_moveRight_82 (fun H locs hP hD hS => ?_)
        rw [nI_clamp (by omega)] at hP hD
        have hP : va_P G vwCl [(q 17, .inr (4, [.ref (q 5), .ref (q 18), .ref (q 19), .int (nI kc), .int (nI dp), .int fo, .int sl])), aI ci (q 18) 8 (upd now 0 ((now 0) + x)), aI ci (q 19) 160 kept, (q 5, .inr (3, [.double fac]))] H := hP
        have hD : va_D A [(q 17, .inr (4, [.ref (q 5), .ref (q 18), .ref (q 19), .int (nI kc), .int (nI dp), .int fo, .int sl])), aI ci (q 18) 8 (upd now 0 ((now 0) + x)), aI ci (q 19) 160 kept, (q 5, .inr (3, [.double fac]))] := hD
        refine lv_aload_n hx hb dX5_moveRight_83 rfl (lv_at hl 3 rfl) ?_
        refine va_get (D := G) (ci := 4) (v := .ref (q 18)) (C := RX5) (T := TX5) (N := 7) hx hb hts hi_X5 hown hK hP 0 rfl rfl 1 (by decide) f_13 (fun _ h9 => h9) rfl dX5_moveRight_84 ?_
        refine lv_iconst (v := nI 2) hx hb dX5_moveRight_87 (by decide) ?_
        refine lv_aload_n hx hb dX5_moveRight_88 rfl (lv_at hl 3 rfl) ?_
        refine lv_iload hx hb dX5_moveRight_89 (lv_at hl 0 rfl) ?_
        refine lv_aload_n hx hb dX5_moveRight_91 rfl (lv_at hl 3 rfl) ?_
        refine va_get (D := G) (ci := 4) (v := .ref (q 18)) (C := RX5) (T := TX5) (N := 7) hx hb hts hi_X5 hown hK hP 0 rfl rfl 1 (by decide) f_13 (fun _ h9 => h9) rfl dX5_moveRight_92 ?_
        refine lv_iconst (v := nI 0) hx hb dX5_moveRight_95 (by decide) ?_
        refine va_iald hx hb hK hP 1 0 rfl rfl (vp_in_nI (by omega) (by omega)) dX5_moveRight_96 ?_
        refine tp (y := (upd now 0 ((now 0) + x)) 0) (congrArg (upd now 0 ((now 0) + x)) (nI_clamp (by omega))) ?_
        refine jI (va_runV (As := [.int r_6, .int ((upd now 0 ((now 0) + x)) 0)]) (rest := [.int (nI 2), .ref (q 18)]) ⟨hx, hb, hml, hown, hts⟩ (c_X5_held l G ci cz cl q H.size r_6 ((upd now 0 ((now 0) + x)) 0) kc dp fo sl (upd now 0 ((now 0) + x)) kept fac (by assumption)) (cwV 2 hts gX5_moveRight_X5_held rfl rfl rfl (by decide +kernel) ⟨(Nat.le_of_ble_eq_true rfl), (Nat.le_of_ble_eq_true rfl)⟩) (pV (wc := [(q 17, .inr (4, [.ref (q 5), .ref (q 18), .ref (q 19), .int (nI kc), .int (nI dp), .int fo, .int sl])), aI ci (q 18) 8 (upd now 0 ((now 0) + x)), aI ci (q 19) 160 kept, (q 5, .inr (3, [.double fac]))]) ok hK hP hD hS hA hO [0, 1, 2, 3] rfl (by decide) 0 rfl rfl) rfl rfl hl.1 rfl (lv_room (Nat.le_of_ble_eq_true rfl)) dX5_moveRight_97 ⟨(Nat.le_of_ble_eq_true rfl), (Nat.le_of_ble_eq_true rfl)⟩) (wr := []) hP hD hS hA [0, 1, 2, 3] [] rfl rfl (by decide) (by decide) (fun r_7 u H locs hw_7 hP hD hS => ?_)
        try dsimp only at hw_7
        have hP : va_P G vwCl [(q 17, .inr (4, [.ref (q 5), .ref (q 18), .ref (q 19), .int (nI kc), .int (nI dp), .int fo, .int sl])), aI ci (q 18) 8 (upd now 0 ((now 0) + x)), aI ci (q 19) 160 kept, (q 5, .inr (3, [.double fac]))] H := hP
        have hD : va_D A [(q 17, .inr (4, [.ref (q 5), .ref (q 18), .ref (q 19), .int (nI kc), .int (nI dp), .int fo, .int sl])), aI ci (q 18) 8 (upd now 0 ((now 0) + x)), aI ci (q 19) 160 kept, (q 5, .inr (3, [.double fac]))] := hD
        refine va_iast hx hb hK hP hD hS 1 0 rfl rfl (vp_in_nI (by omega) (by omega)) dX5_moveRight_100 (fun H locs hP hD hS => ?_)
        rw [nI_clamp (by omega)] at hP hD
        have hP : va_P G vwCl [(q 17, .inr (4, [.ref (q 5), .ref (q 18), .ref (q 19), .int (nI kc), .int (nI dp), .int fo, .int sl])), aI ci (q 18) 8 (upd (upd now 0 ((now 0) + x)) 2 r_7), aI ci (q 19) 160 kept, (q 5, .inr (3, [.double fac]))] H := hP
        have hD : va_D A [(q 17, .inr (4, [.ref (q 5), .ref (q 18), .ref (q 19), .int (nI kc), .int (nI dp), .int fo, .int sl])), aI ci (q 18) 8 (upd (upd now 0 ((now 0) + x)) 2 r_7), aI ci (q 19) 160 kept, (q 5, .inr (3, [.double fac]))] := hD
        exact rV hx hb hr hlocks hK hP hD hS [0, 1, 2, 3] (upd (upd now 0 ((now 0) + x)) 2 r_7) rfl (by decide) QMh_u dX5_moveRight_101
      · skip
        have z_5 := mt (i_le x ((-4) * (sl / (nI 6)))).mpr c_5
        refine lv_iconst (v := nI 1) hx hb dX5_moveRight_28 (by decide) ?_
        refine lv_goto (tgt := 33) hx hb dX5_moveRight_29 (by decide) ?_
        refine lv_istore_n (lv' := [(3, .int (nI 1)), (2, .int (sl / (nI 6))), (0, .ref (q 17)), (1, .int x)]) hx hb dX5_moveRight_33 rfl hl (by decide) rfl (fun ls hl => ?_)
        refine lv_iload_n hx hb dX5_moveRight_34 rfl (lv_at hl 0 rfl) ?_
        refine lv_if_eq (tgt := 56) hx hb dX5_moveRight_35 (by decide) (fun c => absurd c (by decide)) (fun _ => ?_)
        refine lv_aload_n hx hb dX5_moveRight_38 rfl (lv_at hl 2 rfl) ?_
        refine va_get (D := G) (ci := 4) (v := .ref (q 18)) (C := RX5) (T := TX5) (N := 7) hx hb hts hi_X5 hown hK hP 1 rfl rfl 1 (by decide) f_13 (fun _ h9 => h9) rfl dX5_moveRight_39 ?_
        refine lv_iconst (v := nI 2) hx hb dX5_moveRight_42 (by decide) ?_
        refine va_iald hx hb hK hP 2 0 rfl rfl (vp_in_nI (by omega) (by omega)) dX5_moveRight_43 ?_
        refine tp (y := now 2) (congrArg now (nI_clamp (by omega))) ?_
        refine lv_aload_n hx hb dX5_moveRight_44 rfl (lv_at hl 2 rfl) ?_
        refine va_get (D := G) (ci := 4) (v := .ref (q 5)) (C := RX5) (T := TX5) (N := 7) hx hb hts hi_X5 hown hK hP 1 rfl rfl 0 (by decide) f_7 (fun _ h9 => h9) rfl dX5_moveRight_45 ?_
        refine lv_iload_n hx hb dX5_moveRight_48 rfl (lv_at hl 3 rfl) ?_
        refine jI (va_runV (As := [.int x]) (rest := [.int (now 2)]) ⟨hx, hb, hml, hown, hts⟩ (c_X4_rounded l G ci cz cl q H.size x fac (by assumption)) (cwV 1 hts gX5_moveRight_X4_rounded rfl rfl rfl (by decide +kernel) ⟨(Nat.le_of_ble_eq_true rfl), (Nat.le_of_ble_eq_true rfl)⟩) (pV (wc := [(q 5, .inr (3, [.double fac]))]) ok hK hP hD hS hA hO [0] rfl (by decide) 0 rfl rfl) rfl rfl hl.1 rfl (lv_room (Nat.le_of_ble_eq_true rfl)) dX5_moveRight_49 ⟨(Nat.le_of_ble_eq_true rfl), (Nat.le_of_ble_eq_true rfl)⟩) (wr := [(q 17, .inr (4, [.ref (q 5), .ref (q 18), .ref (q 19), .int (nI kc), .int (nI dp), .int fo, .int sl])), aI ci (q 18) 8 now, aI ci (q 19) 160 kept]) hP hD hS hA [0] [1, 2, 3] rfl rfl (by decide) (by decide) (fun r_8 u H locs hw_8 hP hD hS => ?_)
        try dsimp only at hw_8
        have hP : va_P G vwCl [(q 17, .inr (4, [.ref (q 5), .ref (q 18), .ref (q 19), .int (nI kc), .int (nI dp), .int fo, .int sl])), aI ci (q 18) 8 now, aI ci (q 19) 160 kept, (q 5, .inr (3, [.double fac]))] H := hP
        have hD : va_D A [(q 17, .inr (4, [.ref (q 5), .ref (q 18), .ref (q 19), .int (nI kc), .int (nI dp), .int fo, .int sl])), aI ci (q 18) 8 now, aI ci (q 19) 160 kept, (q 5, .inr (3, [.double fac]))] := hD
        refine lv_iadd hx hb dX5_moveRight_52 ?_
        refine lv_goto (tgt := 71) hx hb dX5_moveRight_53 (by decide) ?_
        refine lv_istore (lv' := [(4, .int ((now 2) + r_8)), (3, .int (nI 1)), (2, .int (sl / (nI 6))), (0, .ref (q 17)), (1, .int x)]) hx hb dX5_moveRight_71 hl (by decide) rfl (fun ls hl => ?_)
        refine lv_aload_n hx hb dX5_moveRight_73 rfl (lv_at hl 3 rfl) ?_
        refine va_get (D := G) (ci := 4) (v := .ref (q 18)) (C := RX5) (T := TX5) (N := 7) hx hb hts hi_X5 hown hK hP 0 rfl rfl 1 (by decide) f_13 (fun _ h9 => h9) rfl dX5_moveRight_74 ?_
        refine lv_iconst (v := nI 0) hx hb dX5_moveRight_77 (by decide) ?_
        refine lv_dup2_11 hx hb dX5_moveRight_78 rfl rfl ?_
        refine va_iald hx hb hK hP 1 0 rfl rfl (vp_in_nI (by omega) (by omega)) dX5_moveRight_79 ?_
        refine tp (y := now 0) (congrArg now (nI_clamp (by omega))) ?_
        refine lv_iload_n hx hb dX5_moveRight_80 rfl (lv_at hl 4 rfl) ?_
        refine lv_iadd hx hb dX5_moveRight_81 ?_
        refine va_iast hx hb hK hP hD hS 1 0 rfl rfl (vp_in_nI (by omega) (by omega)) dX5_moveRight_82 (fun H locs hP hD hS => ?_)
        rw [nI_clamp (by omega)] at hP hD
        have hP : va_P G vwCl [(q 17, .inr (4, [.ref (q 5), .ref (q 18), .ref (q 19), .int (nI kc), .int (nI dp), .int fo, .int sl])), aI ci (q 18) 8 (upd now 0 ((now 0) + x)), aI ci (q 19) 160 kept, (q 5, .inr (3, [.double fac]))] H := hP
        have hD : va_D A [(q 17, .inr (4, [.ref (q 5), .ref (q 18), .ref (q 19), .int (nI kc), .int (nI dp), .int fo, .int sl])), aI ci (q 18) 8 (upd now 0 ((now 0) + x)), aI ci (q 19) 160 kept, (q 5, .inr (3, [.double fac]))] := hD
        refine lv_aload_n hx hb dX5_moveRight_83 rfl (lv_at hl 3 rfl) ?_
        refine va_get (D := G) (ci := 4) (v := .ref (q 18)) (C := RX5) (T := TX5) (N := 7) hx hb hts hi_X5 hown hK hP 0 rfl rfl 1 (by decide) f_13 (fun _ h9 => h9) rfl dX5_moveRight_84 ?_
        refine lv_iconst (v := nI 2) hx hb dX5_moveRight_87 (by decide) ?_
        refine lv_aload_n hx hb dX5_moveRight_88 rfl (lv_at hl 3 rfl) ?_
        refine lv_iload hx hb dX5_moveRight_89 (lv_at hl 0 rfl) ?_
        refine lv_aload_n hx hb dX5_moveRight_91 rfl (lv_at hl 3 rfl) ?_
        refine va_get (D := G) (ci := 4) (v := .ref (q 18)) (C := RX5) (T := TX5) (N := 7) hx hb hts hi_X5 hown hK hP 0 rfl rfl 1 (by decide) f_13 (fun _ h9 => h9) rfl dX5_moveRight_92 ?_
        refine lv_iconst (v := nI 0) hx hb dX5_moveRight_95 (by decide) ?_
        refine va_iald hx hb hK hP 1 0 rfl rfl (vp_in_nI (by omega) (by omega)) dX5_moveRight_96 ?_
        refine tp (y := (upd now 0 ((now 0) + x)) 0) (congrArg (upd now 0 ((now 0) + x)) (nI_clamp (by omega))) ?_
        refine jI (va_runV (As := [.int ((now 2) + r_8), .int ((upd now 0 ((now 0) + x)) 0)]) (rest := [.int (nI 2), .ref (q 18)]) ⟨hx, hb, hml, hown, hts⟩ (c_X5_held l G ci cz cl q H.size ((now 2) + r_8) ((upd now 0 ((now 0) + x)) 0) kc dp fo sl (upd now 0 ((now 0) + x)) kept fac (by assumption)) (cwV 2 hts gX5_moveRight_X5_held rfl rfl rfl (by decide +kernel) ⟨(Nat.le_of_ble_eq_true rfl), (Nat.le_of_ble_eq_true rfl)⟩) (pV (wc := [(q 17, .inr (4, [.ref (q 5), .ref (q 18), .ref (q 19), .int (nI kc), .int (nI dp), .int fo, .int sl])), aI ci (q 18) 8 (upd now 0 ((now 0) + x)), aI ci (q 19) 160 kept, (q 5, .inr (3, [.double fac]))]) ok hK hP hD hS hA hO [0, 1, 2, 3] rfl (by decide) 0 rfl rfl) rfl rfl hl.1 rfl (lv_room (Nat.le_of_ble_eq_true rfl)) dX5_moveRight_97 ⟨(Nat.le_of_ble_eq_true rfl), (Nat.le_of_ble_eq_true rfl)⟩) (wr := []) hP hD hS hA [0, 1, 2, 3] [] rfl rfl (by decide) (by decide) (fun r_9 u H locs hw_9 hP hD hS => ?_)
        try dsimp only at hw_9
        have hP : va_P G vwCl [(q 17, .inr (4, [.ref (q 5), .ref (q 18), .ref (q 19), .int (nI kc), .int (nI dp), .int fo, .int sl])), aI ci (q 18) 8 (upd now 0 ((now 0) + x)), aI ci (q 19) 160 kept, (q 5, .inr (3, [.double fac]))] H := hP
        have hD : va_D A [(q 17, .inr (4, [.ref (q 5), .ref (q 18), .ref (q 19), .int (nI kc), .int (nI dp), .int fo, .int sl])), aI ci (q 18) 8 (upd now 0 ((now 0) + x)), aI ci (q 19) 160 kept, (q 5, .inr (3, [.double fac]))] := hD
        refine va_iast hx hb hK hP hD hS 1 0 rfl rfl (vp_in_nI (by omega) (by omega)) dX5_moveRight_100 (fun H locs hP hD hS => ?_)
        rw [nI_clamp (by omega)] at hP hD
        have hP : va_P G vwCl [(q 17, .inr (4, [.ref (q 5), .ref (q 18), .ref (q 19), .int (nI kc), .int (nI dp), .int fo, .int sl])), aI ci (q 18) 8 (upd (upd now 0 ((now 0) + x)) 2 r_9), aI ci (q 19) 160 kept, (q 5, .inr (3, [.double fac]))] H := hP
        have hD : va_D A [(q 17, .inr (4, [.ref (q 5), .ref (q 18), .ref (q 19), .int (nI kc), .int (nI dp), .int fo, .int sl])), aI ci (q 18) 8 (upd (upd now 0 ((now 0) + x)) 2 r_9), aI ci (q 19) 160 kept, (q 5, .inr (3, [.double fac]))] := hD
        exact rV hx hb hr hlocks hK hP hD hS [0, 1, 2, 3] (upd (upd now 0 ((now 0) + x)) 2 r_9) rfl (by decide) QMh_u dX5_moveRight_101
  · skip
    have hP : va_P G vwCl [(q 5, .inr (3, [.double fac])), (q 17, .inr (4, [.ref (q 5), .ref (q 18), .ref (q 19), .int (nI kc), .int (nI dp), .int fo, .int sl])), aI ci (q 18) 8 now, aI ci (q 19) 160 kept] H := hP
    have hD : va_D A [(q 5, .inr (3, [.double fac])), (q 17, .inr (4, [.ref (q 5), .ref (q 18), .ref (q 19), .int (nI kc), .int (nI dp), .int fo, .int sl])), aI ci (q 18) 8 now, aI ci (q 19) 160 kept] := hD
    refine lv_if_eq (tgt := 32) hx hb dX5_moveRight_12 (by decide) (fun _ => ?_) (fun c => absurd c (by decide))
    refine lv_iconst (v := nI 0) hx hb dX5_moveRight_32 (by decide) ?_
    refine lv_istore_n (lv' := [(3, .int (nI 0)), (2, .int (sl / (nI 6))), (0, .ref (q 17)), (1, .int x)]) hx hb dX5_moveRight_33 rfl hl (by decide) rfl (fun ls hl => ?_)
    refine lv_iload_n hx hb dX5_moveRight_34 rfl (lv_at hl 0 rfl) ?_
    refine lv_if_eq (tgt := 56) hx hb dX5_moveRight_35 (by decide) (fun _ => ?_) (fun c => absurd c (by decide))
    refine lv_aload_n hx hb dX5_moveRight_56 rfl (lv_at hl 2 rfl) ?_
    refine va_get (D := G) (ci := 4) (v := .ref (q 5)) (C := RX5) (T := TX5) (N := 7) hx hb hts hi_X5 hown hK hP 1 rfl rfl 0 (by decide) f_7 (fun _ h9 => h9) rfl dX5_moveRight_57 ?_
    refine lv_aload_n hx hb dX5_moveRight_60 rfl (lv_at hl 2 rfl) ?_
    refine va_get (D := G) (ci := 4) (v := .ref (q 18)) (C := RX5) (T := TX5) (N := 7) hx hb hts hi_X5 hown hK hP 1 rfl rfl 1 (by decide) f_13 (fun _ h9 => h9) rfl dX5_moveRight_61 ?_
    refine lv_iconst (v := nI 0) hx hb dX5_moveRight_64 (by decide) ?_
    refine va_iald hx hb hK hP 2 0 rfl rfl (vp_in_nI (by omega) (by omega)) dX5_moveRight_65 ?_
    refine tp (y := now 0) (congrArg now (nI_clamp (by omega))) ?_
    refine lv_iload_n hx hb dX5_moveRight_66 rfl (lv_at hl 3 rfl) ?_
    refine lv_iadd hx hb dX5_moveRight_67 ?_
    refine jI (va_runV (As := [.int ((now 0) + x)]) (rest := []) ⟨hx, hb, hml, hown, hts⟩ (c_X4_rounded l G ci cz cl q H.size ((now 0) + x) fac (by assumption)) (cwV 1 hts gX5_moveRight_X4_rounded rfl rfl rfl (by decide +kernel) ⟨(Nat.le_of_ble_eq_true rfl), (Nat.le_of_ble_eq_true rfl)⟩) (pV (wc := [(q 5, .inr (3, [.double fac]))]) ok hK hP hD hS hA hO [0] rfl (by decide) 0 rfl rfl) rfl rfl hl.1 rfl (lv_room (Nat.le_of_ble_eq_true rfl)) dX5_moveRight_68 ⟨(Nat.le_of_ble_eq_true rfl), (Nat.le_of_ble_eq_true rfl)⟩) (wr := [(q 17, .inr (4, [.ref (q 5), .ref (q 18), .ref (q 19), .int (nI kc), .int (nI dp), .int fo, .int sl])), aI ci (q 18) 8 now, aI ci (q 19) 160 kept]) hP hD hS hA [0] [1, 2, 3] rfl rfl (by decide) (by decide) (fun r_10 u H locs hw_10 hP hD hS => ?_)
    try dsimp only at hw_10
    have hP : va_P G vwCl [(q 17, .inr (4, [.ref (q 5), .ref (q 18), .ref (q 19), .int (nI kc), .int (nI dp), .int fo, .int sl])), aI ci (q 18) 8 now, aI ci (q 19) 160 kept, (q 5, .inr (3, [.double fac]))] H := hP
    have hD : va_D A [(q 17, .inr (4, [.ref (q 5), .ref (q 18), .ref (q 19), .int (nI kc), .int (nI dp), .int fo, .int sl])), aI ci (q 18) 8 now, aI ci (q 19) 160 kept, (q 5, .inr (3, [.double fac]))] := hD
    refine lv_istore (lv' := [(4, .int r_10), (3, .int (nI 0)), (2, .int (sl / (nI 6))), (0, .ref (q 17)), (1, .int x)]) hx hb dX5_moveRight_71 hl (by decide) rfl (fun ls hl => ?_)
    refine lv_aload_n hx hb dX5_moveRight_73 rfl (lv_at hl 3 rfl) ?_
    refine va_get (D := G) (ci := 4) (v := .ref (q 18)) (C := RX5) (T := TX5) (N := 7) hx hb hts hi_X5 hown hK hP 0 rfl rfl 1 (by decide) f_13 (fun _ h9 => h9) rfl dX5_moveRight_74 ?_
    refine lv_iconst (v := nI 0) hx hb dX5_moveRight_77 (by decide) ?_
    refine lv_dup2_11 hx hb dX5_moveRight_78 rfl rfl ?_
    refine va_iald hx hb hK hP 1 0 rfl rfl (vp_in_nI (by omega) (by omega)) dX5_moveRight_79 ?_
    refine tp (y := now 0) (congrArg now (nI_clamp (by omega))) ?_
    refine lv_iload_n hx hb dX5_moveRight_80 rfl (lv_at hl 4 rfl) ?_
    refine lv_iadd hx hb dX5_moveRight_81 ?_
    refine va_iast hx hb hK hP hD hS 1 0 rfl rfl (vp_in_nI (by omega) (by omega)) dX5_moveRight_82 (fun H locs hP hD hS => ?_)
    rw [nI_clamp (by omega)] at hP hD
    have hP : va_P G vwCl [(q 17, .inr (4, [.ref (q 5), .ref (q 18), .ref (q 19), .int (nI kc), .int (nI dp), .int fo, .int sl])), aI ci (q 18) 8 (upd now 0 ((now 0) + x)), aI ci (q 19) 160 kept, (q 5, .inr (3, [.double fac]))] H := hP
    have hD : va_D A [(q 17, .inr (4, [.ref (q 5), .ref (q 18), .ref (q 19), .int (nI kc), .int (nI dp), .int fo, .int sl])), aI ci (q 18) 8 (upd now 0 ((now 0) + x)), aI ci (q 19) 160 kept, (q 5, .inr (3, [.double fac]))] := hD
    refine lv_aload_n hx hb dX5_moveRight_83 rfl (lv_at hl 3 rfl) ?_
    refine va_get (D := G) (ci := 4) (v := .ref (q 18)) (C := RX5) (T := TX5) (N := 7) hx hb hts hi_X5 hown hK hP 0 rfl rfl 1 (by decide) f_13 (fun _ h9 => h9) rfl dX5_moveRight_84 ?_
    refine lv_iconst (v := nI 2) hx hb dX5_moveRight_87 (by decide) ?_
    refine lv_aload_n hx hb dX5_moveRight_88 rfl (lv_at hl 3 rfl) ?_
    refine lv_iload hx hb dX5_moveRight_89 (lv_at hl 0 rfl) ?_
    refine lv_aload_n hx hb dX5_moveRight_91 rfl (lv_at hl 3 rfl) ?_
    refine va_get (D := G) (ci := 4) (v := .ref (q 18)) (C := RX5) (T := TX5) (N := 7) hx hb hts hi_X5 hown hK hP 0 rfl rfl 1 (by decide) f_13 (fun _ h9 => h9) rfl dX5_moveRight_92 ?_
    refine lv_iconst (v := nI 0) hx hb dX5_moveRight_95 (by decide) ?_
    refine va_iald hx hb hK hP 1 0 rfl rfl (vp_in_nI (by omega) (by omega)) dX5_moveRight_96 ?_
    refine tp (y := (upd now 0 ((now 0) + x)) 0) (congrArg (upd now 0 ((now 0) + x)) (nI_clamp (by omega))) ?_
    refine jI (va_runV (As := [.int r_10, .int ((upd now 0 ((now 0) + x)) 0)]) (rest := [.int (nI 2), .ref (q 18)]) ⟨hx, hb, hml, hown, hts⟩ (c_X5_held l G ci cz cl q H.size r_10 ((upd now 0 ((now 0) + x)) 0) kc dp fo sl (upd now 0 ((now 0) + x)) kept fac (by assumption)) (cwV 2 hts gX5_moveRight_X5_held rfl rfl rfl (by decide +kernel) ⟨(Nat.le_of_ble_eq_true rfl), (Nat.le_of_ble_eq_true rfl)⟩) (pV (wc := [(q 17, .inr (4, [.ref (q 5), .ref (q 18), .ref (q 19), .int (nI kc), .int (nI dp), .int fo, .int sl])), aI ci (q 18) 8 (upd now 0 ((now 0) + x)), aI ci (q 19) 160 kept, (q 5, .inr (3, [.double fac]))]) ok hK hP hD hS hA hO [0, 1, 2, 3] rfl (by decide) 0 rfl rfl) rfl rfl hl.1 rfl (lv_room (Nat.le_of_ble_eq_true rfl)) dX5_moveRight_97 ⟨(Nat.le_of_ble_eq_true rfl), (Nat.le_of_ble_eq_true rfl)⟩) (wr := []) hP hD hS hA [0, 1, 2, 3] [] rfl rfl (by decide) (by decide) (fun r_11 u H locs hw_11 hP hD hS => ?_)
    try dsimp only at hw_11
    have hP : va_P G vwCl [(q 17, .inr (4, [.ref (q 5), .ref (q 18), .ref (q 19), .int (nI kc), .int (nI dp), .int fo, .int sl])), aI ci (q 18) 8 (upd now 0 ((now 0) + x)), aI ci (q 19) 160 kept, (q 5, .inr (3, [.double fac]))] H := hP
    have hD : va_D A [(q 17, .inr (4, [.ref (q 5), .ref (q 18), .ref (q 19), .int (nI kc), .int (nI dp), .int fo, .int sl])), aI ci (q 18) 8 (upd now 0 ((now 0) + x)), aI ci (q 19) 160 kept, (q 5, .inr (3, [.double fac]))] := hD
    refine va_iast hx hb hK hP hD hS 1 0 rfl rfl (vp_in_nI (by omega) (by omega)) dX5_moveRight_100 (fun H locs hP hD hS => ?_)
    rw [nI_clamp (by omega)] at hP hD
    have hP : va_P G vwCl [(q 17, .inr (4, [.ref (q 5), .ref (q 18), .ref (q 19), .int (nI kc), .int (nI dp), .int fo, .int sl])), aI ci (q 18) 8 (upd (upd now 0 ((now 0) + x)) 2 r_11), aI ci (q 19) 160 kept, (q 5, .inr (3, [.double fac]))] H := hP
    have hD : va_D A [(q 17, .inr (4, [.ref (q 5), .ref (q 18), .ref (q 19), .int (nI kc), .int (nI dp), .int fo, .int sl])), aI ci (q 18) 8 (upd (upd now 0 ((now 0) + x)) 2 r_11), aI ci (q 19) 160 kept, (q 5, .inr (3, [.double fac]))] := hD
    exact rV hx hb hr hlocks hK hP hD hS [0, 1, 2, 3] (upd (upd now 0 ((now 0) + x)) 2 r_11) rfl (by decide) QMh_u dX5_moveRight_101
set_option maxHeartbeats 4000000 in
set_option maxRecDepth 100000 in
theorem c_X5_moveDown (l : Launch) (G : va_G) (ci cz cl : ClassId) (q : Nat → Nat) (sz : Nat) (x : Int32) (kc : Nat) (dp : Nat) (fo : Int32) (sl : Int32) (now : Nat → Int32) (kept : Nat → Int32) (fac : UInt64) (hf : Fn fac) : CtV l yX5_moveDown wsX5_moveDown ({ frames := 2, cells := 0, slots := 0, locals := 47 }) G (TY ci cz cl) O0 [.ref (q 17), .int x] [(q 17, .inr (4, [.ref (q 5), .ref (q 18), .ref (q 19), .int (nI kc), .int (nI dp), .int fo, .int sl])), aI ci (q 18) 8 now, aI ci (q 19) 160 kept, (q 5, .inr (3, [.double fac]))] sz (fun (u : Nat → Int32) => QMv now u x) (fun u : Nat → Int32 => [(q 17, .inr (4, [.ref (q 5), .ref (q 18), .ref (q 19), .int (nI kc), .int (nI dp), .int fo, .int sl])), aI ci (q 18) 8 u, aI ci (q 19) 160 kept, (q 5, .inr (3, [.double fac]))]) 0 0 := by
  refine Met.ofW (cc := cX5_moveDown) (maxL := 5) (ret := none) (by decide) rfl ?_
  intro p e s m args below meth c s₁ B hml hv
  obtain ⟨rfl, ⟨hsz, hP, hK, hD0⟩, hO⟩ := hv
  have hx := B.exec
  have hb := B.bytes
  have hr := B.returns
  have hts := atoms_spec (ws := wsX5_moveDown) B.pre
  have hown : s.vm.findClass RX5 = some m.cls := findClass_of_methodNamed B.named
  have hlocks := B.notSynchronized
  subst hsz
  have hD := hD0.self (sz := s.heap.size)
  generalize hAe : va_A [(q 17, .inr (4, [.ref (q 5), .ref (q 18), .ref (q 19), .int (nI kc), .int (nI dp), .int fo, .int sl])), aI ci (q 18) 8 now, aI ci (q 19) 160 kept, (q 5, .inr (3, [.double fac]))] s.heap.size = A at hD hO ⊢
  have hA : ∀ q : Nat, s.heap.size ≤ q → A q := fun q h => by rw [← hAe]; exact Or.inr h
  have ok := ok0
  refine startH (A := A) (fun H locs hP hS => ?_) hP
  have hi_X5 := (by decide +kernel : ∀ w ∈ wsX50, w ∈ wsX5_moveDown)
  have f_30 := hts (.fieldLink RX5 30 "PageReader$Place" "scale" "I") (by decide +kernel)
  have f_7 := hts (.fieldLink RX5 7 "PageReader$Place" "pixels" "LPageReader$Pixels;") (by decide +kernel)
  have f_13 := hts (.fieldLink RX5 13 "PageReader$Place" "now" "[I") (by decide +kernel)
  have hl := lv_entry ([.ref (q 17), .int x]) (n := 5) (Nat.le_of_ble_eq_true rfl)
  rw [lg_entry_eq]
  generalize (lg_sl ([.ref (q 17), .int x]) ++ List.replicate (5 - (lg_sl ([.ref (q 17), .int x])).length) Slot.unset).toArray = ls at hl ⊢
  have hl : lv_has ls 5 [(0, .ref (q 17)), (1, .int x)] := hl
  refine lv_iconst (v := nI 4) hx hb dX5_moveDown_0 (by decide) ?_
  refine lv_aload_n hx hb dX5_moveDown_1 rfl (lv_at hl 0 rfl) ?_
  refine va_get (D := G) (ci := 4) (v := .int sl) (C := RX5) (T := TX5) (N := 7) hx hb hts hi_X5 hown hK hP 0 rfl rfl 6 (by decide) f_30 (fun _ h9 => h9) rfl dX5_moveDown_2 ?_
  refine lv_iconst (v := nI 5) hx hb dX5_moveDown_5 (by decide) ?_
  refine lv_idiv hx hb dX5_moveDown_6 (by decide) ?_
  refine lv_imul hx hb dX5_moveDown_7 ?_
  refine lv_istore_n (lv' := [(2, .int ((nI 4) * (sl / (nI 5)))), (0, .ref (q 17)), (1, .int x)]) hx hb dX5_moveDown_8 rfl hl (by decide) rfl (fun ls hl => ?_)
  refine lv_aload_n hx hb dX5_moveDown_9 rfl (lv_at hl 1 rfl) ?_
  refine jI (va_runV (As := []) (rest := []) ⟨hx, hb, hml, hown, hts⟩ (c_X5_hasFont l G ci cz cl q H.size kc dp fo sl now kept ) (cwV 0 hts gX5_moveDown_X5_hasFont rfl rfl rfl (by decide +kernel) ⟨(Nat.le_of_ble_eq_true rfl), (Nat.le_of_ble_eq_true rfl)⟩) (pV (wc := [(q 17, .inr (4, [.ref (q 5), .ref (q 18), .ref (q 19), .int (nI kc), .int (nI dp), .int fo, .int sl])), aI ci (q 18) 8 now, aI ci (q 19) 160 kept]) ok hK hP hD hS hA hO [0, 1, 2] rfl (by decide) 0 rfl rfl) rfl rfl hl.1 rfl (lv_room (Nat.le_of_ble_eq_true rfl)) dX5_moveDown_10 ⟨(Nat.le_of_ble_eq_true rfl), (Nat.le_of_ble_eq_true rfl)⟩) (wr := [(q 5, .inr (3, [.double fac]))]) hP hD hS hA [0, 1, 2] [3] rfl rfl (by decide) (by decide) (fun r_1 u H locs hw_1 hP hD hS => ?_)
  obtain ⟨bo_1, rfl⟩ : ∃ z, z = u := ⟨_, rfl⟩
  try dsimp only at hw_1
  obtain ⟨rfl, h_1⟩ := hw_1
  rcases h_1 with ⟨rfl, a_1⟩ | ⟨rfl, a_1⟩
  · skip
    have hP : va_P G vwCl [(q 5, .inr (3, [.double fac])), (q 17, .inr (4, [.ref (q 5), .ref (q 18), .ref (q 19), .int (nI kc), .int (nI dp), .int fo, .int sl])), aI ci (q 18) 8 now, aI ci (q 19) 160 kept] H := hP
    have hD : va_D A [(q 5, .inr (3, [.double fac])), (q 17, .inr (4, [.ref (q 5), .ref (q 18), .ref (q 19), .int (nI kc), .int (nI dp), .int fo, .int sl])), aI ci (q 18) 8 now, aI ci (q 19) 160 kept] := hD
    refine lv_if_eq (tgt := 31) hx hb dX5_moveDown_13 (by decide) (fun c => absurd c (by decide)) (fun _ => ?_)
    refine lv_iload_n hx hb dX5_moveDown_16 rfl (lv_at hl 2 rfl) ?_
    refine lv_iload_n hx hb dX5_moveDown_17 rfl (lv_at hl 0 rfl) ?_
    refine lv_icmp_ge (tgt := 31) hx hb dX5_moveDown_18 (by decide) (fun c_2 => ?_) (fun c_2 => ?_)
    · skip
      have z_2 := (i_le ((nI 4) * (sl / (nI 5))) x).mp c_2
      refine lv_iconst (v := nI 0) hx hb dX5_moveDown_31 (by decide) ?_
      refine lv_istore_n (lv' := [(3, .int (nI 0)), (2, .int ((nI 4) * (sl / (nI 5)))), (0, .ref (q 17)), (1, .int x)]) hx hb dX5_moveDown_32 rfl hl (by decide) rfl (fun ls hl => ?_)
      refine lv_iload_n hx hb dX5_moveDown_33 rfl (lv_at hl 0 rfl) ?_
      refine lv_if_eq (tgt := 55) hx hb dX5_moveDown_34 (by decide) (fun _ => ?_) (fun c => absurd c (by decide))
      refine lv_aload_n hx hb dX5_moveDown_55 rfl (lv_at hl 2 rfl) ?_
      refine va_get (D := G) (ci := 4) (v := .ref (q 5)) (C := RX5) (T := TX5) (N := 7) hx hb hts hi_X5 hown hK hP 1 rfl rfl 0 (by decide) f_7 (fun _ h9 => h9) rfl dX5_moveDown_56 ?_
      refine lv_aload_n hx hb dX5_moveDown_59 rfl (lv_at hl 2 rfl) ?_
      refine va_get (D := G) (ci := 4) (v := .ref (q 18)) (C := RX5) (T := TX5) (N := 7) hx hb hts hi_X5 hown hK hP 1 rfl rfl 1 (by decide) f_13 (fun _ h9 => h9) rfl dX5_moveDown_60 ?_
      refine lv_iconst (v := nI 1) hx hb dX5_moveDown_63 (by decide) ?_
      refine va_iald hx hb hK hP 2 0 rfl rfl (vp_in_nI (by omega) (by omega)) dX5_moveDown_64 ?_
      refine tp (y := now 1) (congrArg now (nI_clamp (by omega))) ?_
      refine lv_iload_n hx hb dX5_moveDown_65 rfl (lv_at hl 3 rfl) ?_
      refine lv_iadd hx hb dX5_moveDown_66 ?_
      refine jI (va_runV (As := [.int ((now 1) + x)]) (rest := []) ⟨hx, hb, hml, hown, hts⟩ (c_X4_rounded l G ci cz cl q H.size ((now 1) + x) fac (by assumption)) (cwV 1 hts gX5_moveDown_X4_rounded rfl rfl rfl (by decide +kernel) ⟨(Nat.le_of_ble_eq_true rfl), (Nat.le_of_ble_eq_true rfl)⟩) (pV (wc := [(q 5, .inr (3, [.double fac]))]) ok hK hP hD hS hA hO [0] rfl (by decide) 0 rfl rfl) rfl rfl hl.1 rfl (lv_room (Nat.le_of_ble_eq_true rfl)) dX5_moveDown_67 ⟨(Nat.le_of_ble_eq_true rfl), (Nat.le_of_ble_eq_true rfl)⟩) (wr := [(q 17, .inr (4, [.ref (q 5), .ref (q 18), .ref (q 19), .int (nI kc), .int (nI dp), .int fo, .int sl])), aI ci (q 18) 8 now, aI ci (q 19) 160 kept]) hP hD hS hA [0] [1, 2, 3] rfl rfl (by decide) (by decide) (fun r_3 u H locs hw_3 hP hD hS => ?_)
      try dsimp only at hw_3
      have hP : va_P G vwCl [(q 17, .inr (4, [.ref (q 5), .ref (q 18), .ref (q 19), .int (nI kc), .int (nI dp), .int fo, .int sl])), aI ci (q 18) 8 now, aI ci (q 19) 160 kept, (q 5, .inr (3, [.double fac]))] H := hP
      have hD : va_D A [(q 17, .inr (4, [.ref (q 5), .ref (q 18), .ref (q 19), .int (nI kc), .int (nI dp), .int fo, .int sl])), aI ci (q 18) 8 now, aI ci (q 19) 160 kept, (q 5, .inr (3, [.double fac]))] := hD
      refine lv_istore (lv' := [(4, .int r_3), (3, .int (nI 0)), (2, .int ((nI 4) * (sl / (nI 5)))), (0, .ref (q 17)), (1, .int x)]) hx hb dX5_moveDown_70 hl (by decide) rfl (fun ls hl => ?_)
      refine lv_aload_n hx hb dX5_moveDown_72 rfl (lv_at hl 3 rfl) ?_
      refine va_get (D := G) (ci := 4) (v := .ref (q 18)) (C := RX5) (T := TX5) (N := 7) hx hb hts hi_X5 hown hK hP 0 rfl rfl 1 (by decide) f_13 (fun _ h9 => h9) rfl dX5_moveDown_73 ?_
      refine lv_iconst (v := nI 1) hx hb dX5_moveDown_76 (by decide) ?_
      refine lv_dup2_11 hx hb dX5_moveDown_77 rfl rfl ?_
      refine va_iald hx hb hK hP 1 0 rfl rfl (vp_in_nI (by omega) (by omega)) dX5_moveDown_78 ?_
      refine tp (y := now 1) (congrArg now (nI_clamp (by omega))) ?_
      refine lv_iload_n hx hb dX5_moveDown_79 rfl (lv_at hl 4 rfl) ?_
      refine lv_iadd hx hb dX5_moveDown_80 ?_
      refine va_iast hx hb hK hP hD hS 1 0 rfl rfl (vp_in_nI (by omega) (by omega)) dX5_moveDown_81 (fun H locs hP hD hS => ?_)
      rw [nI_clamp (by omega)] at hP hD
      have hP : va_P G vwCl [(q 17, .inr (4, [.ref (q 5), .ref (q 18), .ref (q 19), .int (nI kc), .int (nI dp), .int fo, .int sl])), aI ci (q 18) 8 (upd now 1 ((now 1) + x)), aI ci (q 19) 160 kept, (q 5, .inr (3, [.double fac]))] H := hP
      have hD : va_D A [(q 17, .inr (4, [.ref (q 5), .ref (q 18), .ref (q 19), .int (nI kc), .int (nI dp), .int fo, .int sl])), aI ci (q 18) 8 (upd now 1 ((now 1) + x)), aI ci (q 19) 160 kept, (q 5, .inr (3, [.double fac]))] := hD
      refine lv_aload_n hx hb dX5_moveDown_82 rfl (lv_at hl 3 rfl) ?_
      refine va_get (D := G) (ci := 4) (v := .ref (q 18)) (C := RX5) (T := TX5) (N := 7) hx hb hts hi_X5 hown hK hP 0 rfl rfl 1 (by decide) f_13 (fun _ h9 => h9) rfl dX5_moveDown_83 ?_
      refine lv_iconst (v := nI 3) hx hb dX5_moveDown_86 (by decide) ?_
      refine lv_aload_n hx hb dX5_moveDown_87 rfl (lv_at hl 3 rfl) ?_
      refine lv_iload hx hb dX5_moveDown_88 (lv_at hl 0 rfl) ?_
      refine lv_aload_n hx hb dX5_moveDown_90 rfl (lv_at hl 3 rfl) ?_
      refine va_get (D := G) (ci := 4) (v := .ref (q 18)) (C := RX5) (T := TX5) (N := 7) hx hb hts hi_X5 hown hK hP 0 rfl rfl 1 (by decide) f_13 (fun _ h9 => h9) rfl dX5_moveDown_91 ?_
      refine lv_iconst (v := nI 1) hx hb dX5_moveDown_94 (by decide) ?_
      refine va_iald hx hb hK hP 1 0 rfl rfl (vp_in_nI (by omega) (by omega)) dX5_moveDown_95 ?_
      refine tp (y := (upd now 1 ((now 1) + x)) 1) (congrArg (upd now 1 ((now 1) + x)) (nI_clamp (by omega))) ?_
      refine jI (va_runV (As := [.int r_3, .int ((upd now 1 ((now 1) + x)) 1)]) (rest := [.int (nI 3), .ref (q 18)]) ⟨hx, hb, hml, hown, hts⟩ (c_X5_held l G ci cz cl q H.size r_3 ((upd now 1 ((now 1) + x)) 1) kc dp fo sl (upd now 1 ((now 1) + x)) kept fac (by assumption)) (cwV 2 hts gX5_moveDown_X5_held rfl rfl rfl (by decide +kernel) ⟨(Nat.le_of_ble_eq_true rfl), (Nat.le_of_ble_eq_true rfl)⟩) (pV (wc := [(q 17, .inr (4, [.ref (q 5), .ref (q 18), .ref (q 19), .int (nI kc), .int (nI dp), .int fo, .int sl])), aI ci (q 18) 8 (upd now 1 ((now 1) + x)), aI ci (q 19) 160 kept, (q 5, .inr (3, [.double fac]))]) ok hK hP hD hS hA hO [0, 1, 2, 3] rfl (by decide) 0 rfl rfl) rfl rfl hl.1 rfl (lv_room (Nat.le_of_ble_eq_true rfl)) dX5_moveDown_96 ⟨(Nat.le_of_ble_eq_true rfl), (Nat.le_of_ble_eq_true rfl)⟩) (wr := []) hP hD hS hA [0, 1, 2, 3] [] rfl rfl (by decide) (by decide) (fun r_4 u H locs hw_4 hP hD hS => ?_)
      try dsimp only at hw_4
      have hP : va_P G vwCl [(q 17, .inr (4, [.ref (q 5), .ref (q 18), .ref (q 19), .int (nI kc), .int (nI dp), .int fo, .int sl])), aI ci (q 18) 8 (upd now 1 ((now 1) + x)), aI ci (q 19) 160 kept, (q 5, .inr (3, [.double fac]))] H := hP
      have hD : va_D A [(q 17, .inr (4, [.ref (q 5), .ref (q 18), .ref (q 19), .int (nI kc), .int (nI dp), .int fo, .int sl])), aI ci (q 18) 8 (upd now 1 ((now 1) + x)), aI ci (q 19) 160 kept, (q 5, .inr (3, [.double fac]))] := hD
      refine va_iast hx hb hK hP hD hS 1 0 rfl rfl (vp_in_nI (by omega) (by omega)) dX5_moveDown_99 (fun H locs hP hD hS => ?_)
      rw [nI_clamp (by omega)] at hP hD
      have hP : va_P G vwCl [(q 17, .inr (4, [.ref (q 5), .ref (q 18), .ref (q 19), .int (nI kc), .int (nI dp), .int fo, .int sl])), aI ci (q 18) 8 (upd (upd now 1 ((now 1) + x)) 3 r_4), aI ci (q 19) 160 kept, (q 5, .inr (3, [.double fac]))] H := hP
      have hD : va_D A [(q 17, .inr (4, [.ref (q 5), .ref (q 18), .ref (q 19), .int (nI kc), .int (nI dp), .int fo, .int sl])), aI ci (q 18) 8 (upd (upd now 1 ((now 1) + x)) 3 r_4), aI ci (q 19) 160 kept, (q 5, .inr (3, [.double fac]))] := hD
      exact rV hx hb hr hlocks hK hP hD hS [0, 1, 2, 3] (upd (upd now 1 ((now 1) + x)) 3 r_4) rfl (by decide) QMv_u dX5_moveDown_100
    · skip
      have z_2 := mt (i_le ((nI 4) * (sl / (nI 5))) x).mpr c_2
      refine lv_iload_n hx hb dX5_moveDown_21 rfl (lv_at hl 2 rfl) ?_
      refine lv_iload_n hx hb dX5_moveDown_22 rfl (lv_at hl 0 rfl) ?_
      refine lv_ineg hx hb dX5_moveDown_23 ?_
      refine lv_icmp_le (tgt := 31) hx hb dX5_moveDown_24 (by decide) (fun c_5 => ?_) (fun c_5 => ?_)
      · skip
        have z_5 := (i_le x (-((nI 4) * (sl / (nI 5))))).mp c_5
        refine lv_iconst (v := nI 0) hx hb dX5_moveDown_31 (by decide) ?_
        refine lv_istore_n (lv' := [(3, .int (nI 0)), (2, .int ((nI 4) * (sl / (nI 5)))), (0, .ref (q 17)), (1, .int x)]) hx hb dX5_moveDown_32 rfl hl (by decide) rfl (fun ls hl => ?_)
        refine lv_iload_n hx hb dX5_moveDown_33 rfl (lv_at hl 0 rfl) ?_
        refine lv_if_eq (tgt := 55) hx hb dX5_moveDown_34 (by decide) (fun _ => ?_) (fun c => absurd c (by decide))
        refine lv_aload_n hx hb dX5_moveDown_55 rfl (lv_at hl 2 rfl) ?_
        refine va_get (D := G) (ci := 4) (v := .ref (q 5)) (C := RX5) (T := TX5) (N := 7) hx hb hts hi_X5 hown hK hP 1 rfl rfl 0 (by decide) f_7 (fun _ h9 => h9) rfl dX5_moveDown_56 ?_
        refine lv_aload_n hx hb dX5_moveDown_59 rfl (lv_at hl 2 rfl) ?_
        refine va_get (D := G) (ci := 4) (v := .ref (q 18)) (C := RX5) (T := TX5) (N := 7) hx hb hts hi_X5 hown hK hP 1 rfl rfl 1 (by decide) f_13 (fun _ h9 => h9) rfl dX5_moveDown_60 ?_
        refine lv_iconst (v := nI 1) hx hb dX5_moveDown_63 (by decide) ?_
        refine va_iald hx hb hK hP 2 0 rfl rfl (vp_in_nI (by omega) (by omega)) dX5_moveDown_64 ?_
        refine tp (y := now 1) (congrArg now (nI_clamp (by omega))) ?_
        refine lv_iload_n hx hb dX5_moveDown_65 rfl (lv_at hl 3 rfl) ?_
        refine lv_iadd hx hb dX5_moveDown_66 ?_
        refine jI (va_runV (As := [.int ((now 1) + x)]) (rest := []) ⟨hx, hb, hml, hown, hts⟩ (c_X4_rounded l G ci cz cl q H.size ((now 1) + x) fac (by assumption)) (cwV 1 hts gX5_moveDown_X4_rounded rfl rfl rfl (by decide +kernel) ⟨(Nat.le_of_ble_eq_true rfl), (Nat.le_of_ble_eq_true rfl)⟩) (pV (wc := [(q 5, .inr (3, [.double fac]))]) ok hK hP hD hS hA hO [0] rfl (by decide) 0 rfl rfl) rfl rfl hl.1 rfl (lv_room (Nat.le_of_ble_eq_true rfl)) dX5_moveDown_67 ⟨(Nat.le_of_ble_eq_true rfl), (Nat.le_of_ble_eq_true rfl)⟩) (wr := [(q 17, .inr (4, [.ref (q 5), .ref (q 18), .ref (q 19), .int (nI kc), .int (nI dp), .int fo, .int sl])), aI ci (q 18) 8 now, aI ci (q 19) 160 kept]) hP hD hS hA [0] [1, 2, 3] rfl rfl (by decide) (by decide) (fun r_6 u H locs hw_6 hP hD hS => ?_)
        try dsimp only at hw_6
        have hP : va_P G vwCl [(q 17, .inr (4, [.ref (q 5), .ref (q 18), .ref (q 19), .int (nI kc), .int (nI dp), .int fo, .int sl])), aI ci (q 18) 8 now, aI ci (q 19) 160 kept, (q 5, .inr (3, [.double fac]))] H := hP
        have hD : va_D A [(q 17, .inr (4, [.ref (q 5), .ref (q 18), .ref (q 19), .int (nI kc), .int (nI dp), .int fo, .int sl])), aI ci (q 18) 8 now, aI ci (q 19) 160 kept, (q 5, .inr (3, [.double fac]))] := hD
        refine lv_istore (lv' := [(4, .int r_6), (3, .int (nI 0)), (2, .int ((nI 4) * (sl / (nI 5)))), (0, .ref (q 17)), (1, .int x)]) hx hb dX5_moveDown_70 hl (by decide) rfl (fun ls hl => ?_)
        refine lv_aload_n hx hb dX5_moveDown_72 rfl (lv_at hl 3 rfl) ?_
        refine va_get (D := G) (ci := 4) (v := .ref (q 18)) (C := RX5) (T := TX5) (N := 7) hx hb hts hi_X5 hown hK hP 0 rfl rfl 1 (by decide) f_13 (fun _ h9 => h9) rfl dX5_moveDown_73 ?_
        refine lv_iconst (v := nI 1) hx hb dX5_moveDown_76 (by decide) ?_
        refine lv_dup2_11 hx hb dX5_moveDown_77 rfl rfl ?_
        refine va_iald hx hb hK hP 1 0 rfl rfl (vp_in_nI (by omega) (by omega)) dX5_moveDown_78 ?_
        refine tp (y := now 1) (congrArg now (nI_clamp (by omega))) ?_
        refine lv_iload_n hx hb dX5_moveDown_79 rfl (lv_at hl 4 rfl) ?_
        refine lv_iadd hx hb dX5_moveDown_80 ?_
        refine va_iast hx hb hK hP hD hS 1 0 rfl rfl (vp_in_nI (by omega) (by omega)) dX5_moveDown_81 (fun H locs hP hD hS => ?_)
        rw [nI_clamp (by omega)] at hP hD
        have hP : va_P G vwCl [(q 17, .inr (4, [.ref (q 5), .ref (q 18), .ref (q 19), .int (nI kc), .int (nI dp), .int fo, .int sl])), aI ci (q 18) 8 (upd now 1 ((now 1) + x)), aI ci (q 19) 160 kept, (q 5, .inr (3, [.double fac]))] H := hP
        have hD : va_D A [(q 17, .inr (4, [.ref (q 5), .ref (q 18), .ref (q 19), .int (nI kc), .int (nI dp), .int fo, .int sl])), aI ci (q 18) 8 (upd now 1 ((now 1) + x)), aI ci (q 19) 160 kept, (q 5, .inr (3, [.double fac]))] := hD
        refine lv_aload_n hx hb dX5_moveDown_82 rfl (lv_at hl 3 rfl) ?_
        refine va_get (D := G) (ci := 4) (v := .ref (q 18)) (C := RX5) (T := TX5) (N := 7) hx hb hts hi_X5 hown hK hP 0 rfl rfl 1 (by decide) f_13 (fun _ h9 => h9) rfl dX5_moveDown_83 ?_
        refine lv_iconst (v := nI 3) hx hb dX5_moveDown_86 (by decide) ?_
        refine lv_aload_n hx hb dX5_moveDown_87 rfl (lv_at hl 3 rfl) ?_
        refine lv_iload hx hb dX5_moveDown_88 (lv_at hl 0 rfl) ?_
        refine lv_aload_n hx hb dX5_moveDown_90 rfl (lv_at hl 3 rfl) ?_
        refine va_get (D := G) (ci := 4) (v := .ref (q 18)) (C := RX5) (T := TX5) (N := 7) hx hb hts hi_X5 hown hK hP 0 rfl rfl 1 (by decide) f_13 (fun _ h9 => h9) rfl dX5_moveDown_91 ?_
        refine lv_iconst (v := nI 1) hx hb dX5_moveDown_94 (by decide) ?_
        refine va_iald hx hb hK hP 1 0 rfl rfl (vp_in_nI (by omega) (by omega)) dX5_moveDown_95 ?_
        refine tp (y := (upd now 1 ((now 1) + x)) 1) (congrArg (upd now 1 ((now 1) + x)) (nI_clamp (by omega))) ?_
        refine jI (va_runV (As := [.int r_6, .int ((upd now 1 ((now 1) + x)) 1)]) (rest := [.int (nI 3), .ref (q 18)]) ⟨hx, hb, hml, hown, hts⟩ (c_X5_held l G ci cz cl q H.size r_6 ((upd now 1 ((now 1) + x)) 1) kc dp fo sl (upd now 1 ((now 1) + x)) kept fac (by assumption)) (cwV 2 hts gX5_moveDown_X5_held rfl rfl rfl (by decide +kernel) ⟨(Nat.le_of_ble_eq_true rfl), (Nat.le_of_ble_eq_true rfl)⟩) (pV (wc := [(q 17, .inr (4, [.ref (q 5), .ref (q 18), .ref (q 19), .int (nI kc), .int (nI dp), .int fo, .int sl])), aI ci (q 18) 8 (upd now 1 ((now 1) + x)), aI ci (q 19) 160 kept, (q 5, .inr (3, [.double fac]))]) ok hK hP hD hS hA hO [0, 1, 2, 3] rfl (by decide) 0 rfl rfl) rfl rfl hl.1 rfl (lv_room (Nat.le_of_ble_eq_true rfl)) dX5_moveDown_96 ⟨(Nat.le_of_ble_eq_true rfl), (Nat.le_of_ble_eq_true rfl)⟩) (wr := []) hP hD hS hA [0, 1, 2, 3] [] rfl rfl (by decide) (by decide) (fun r_7 u H locs hw_7 hP hD hS => ?_)
        try dsimp only at hw_7
        have hP : va_P G vwCl [(q 17, .inr (4, [.ref (q 5), .ref (q 18), .ref (q 19), .int (nI kc), .int (nI dp), .int fo, .int sl])), aI ci (q 18) 8 (upd now 1 ((now 1) + x)), aI ci (q 19) 160 kept, (q 5, .inr (3, [.double fac]))] H := hP
        have hD : va_D A [(q 17, .inr (4, [.ref (q 5), .ref (q 18), .ref (q 19), .int (nI kc), .int (nI dp), .int fo, .int sl])), aI ci (q 18) 8 (upd now 1 ((now 1) + x)), aI ci (q 19) 160 kept, (q 5, .inr (3, [.double fac]))] := hD
        refine va_iast hx hb hK hP hD hS 1 0 rfl rfl (vp_in_nI (by omega) (by omega)) dX5_moveDown_99 (fun H locs hP hD hS => ?_)
        rw [nI_clamp (by omega)] at hP hD
        have hP : va_P G vwCl [(q 17, .inr (4, [.ref (q 5), .ref (q 18), .ref (q 19), .int (nI kc), .int (nI dp), .int fo, .int sl])), aI ci (q 18) 8 (upd (upd now 1 ((now 1) + x)) 3 r_7), aI ci (q 19) 160 kept, (q 5, .inr (3, [.double fac]))] H := hP
        have hD : va_D A [(q 17, .inr (4, [.ref (q 5), .ref (q 18), .ref (q 19), .int (nI kc), .int (nI dp), .int fo, .int sl])), aI ci (q 18) 8 (upd (upd now 1 ((now 1) + x)) 3 r_7), aI ci (q 19) 160 kept, (q 5, .inr (3, [.double fac]))] := hD
        exact rV hx hb hr hlocks hK hP hD hS [0, 1, 2, 3] (upd (upd now 1 ((now 1) + x)) 3 r_7) rfl (by decide) QMv_u dX5_moveDown_100
      · skip
        have z_5 := mt (i_le x (-((nI 4) * (sl / (nI 5))))).mpr c_5
        refine lv_iconst (v := nI 1) hx hb dX5_moveDown_27 (by decide) ?_
        refine lv_goto (tgt := 32) hx hb dX5_moveDown_28 (by decide) ?_
        refine lv_istore_n (lv' := [(3, .int (nI 1)), (2, .int ((nI 4) * (sl / (nI 5)))), (0, .ref (q 17)), (1, .int x)]) hx hb dX5_moveDown_32 rfl hl (by decide) rfl (fun ls hl => ?_)
        refine lv_iload_n hx hb dX5_moveDown_33 rfl (lv_at hl 0 rfl) ?_
        refine lv_if_eq (tgt := 55) hx hb dX5_moveDown_34 (by decide) (fun c => absurd c (by decide)) (fun _ => ?_)
        refine lv_aload_n hx hb dX5_moveDown_37 rfl (lv_at hl 2 rfl) ?_
        refine va_get (D := G) (ci := 4) (v := .ref (q 18)) (C := RX5) (T := TX5) (N := 7) hx hb hts hi_X5 hown hK hP 1 rfl rfl 1 (by decide) f_13 (fun _ h9 => h9) rfl dX5_moveDown_38 ?_
        refine lv_iconst (v := nI 3) hx hb dX5_moveDown_41 (by decide) ?_
        refine va_iald hx hb hK hP 2 0 rfl rfl (vp_in_nI (by omega) (by omega)) dX5_moveDown_42 ?_
        refine tp (y := now 3) (congrArg now (nI_clamp (by omega))) ?_
        refine lv_aload_n hx hb dX5_moveDown_43 rfl (lv_at hl 2 rfl) ?_
        refine va_get (D := G) (ci := 4) (v := .ref (q 5)) (C := RX5) (T := TX5) (N := 7) hx hb hts hi_X5 hown hK hP 1 rfl rfl 0 (by decide) f_7 (fun _ h9 => h9) rfl dX5_moveDown_44 ?_
        refine lv_iload_n hx hb dX5_moveDown_47 rfl (lv_at hl 3 rfl) ?_
        refine jI (va_runV (As := [.int x]) (rest := [.int (now 3)]) ⟨hx, hb, hml, hown, hts⟩ (c_X4_rounded l G ci cz cl q H.size x fac (by assumption)) (cwV 1 hts gX5_moveDown_X4_rounded rfl rfl rfl (by decide +kernel) ⟨(Nat.le_of_ble_eq_true rfl), (Nat.le_of_ble_eq_true rfl)⟩) (pV (wc := [(q 5, .inr (3, [.double fac]))]) ok hK hP hD hS hA hO [0] rfl (by decide) 0 rfl rfl) rfl rfl hl.1 rfl (lv_room (Nat.le_of_ble_eq_true rfl)) dX5_moveDown_48 ⟨(Nat.le_of_ble_eq_true rfl), (Nat.le_of_ble_eq_true rfl)⟩) (wr := [(q 17, .inr (4, [.ref (q 5), .ref (q 18), .ref (q 19), .int (nI kc), .int (nI dp), .int fo, .int sl])), aI ci (q 18) 8 now, aI ci (q 19) 160 kept]) hP hD hS hA [0] [1, 2, 3] rfl rfl (by decide) (by decide) (fun r_8 u H locs hw_8 hP hD hS => ?_)
        try dsimp only at hw_8
        have hP : va_P G vwCl [(q 17, .inr (4, [.ref (q 5), .ref (q 18), .ref (q 19), .int (nI kc), .int (nI dp), .int fo, .int sl])), aI ci (q 18) 8 now, aI ci (q 19) 160 kept, (q 5, .inr (3, [.double fac]))] H := hP
        have hD : va_D A [(q 17, .inr (4, [.ref (q 5), .ref (q 18), .ref (q 19), .int (nI kc), .int (nI dp), .int fo, .int sl])), aI ci (q 18) 8 now, aI ci (q 19) 160 kept, (q 5, .inr (3, [.double fac]))] := hD
        refine lv_iadd hx hb dX5_moveDown_51 ?_
        refine lv_goto (tgt := 70) hx hb dX5_moveDown_52 (by decide) ?_
        refine lv_istore (lv' := [(4, .int ((now 3) + r_8)), (3, .int (nI 1)), (2, .int ((nI 4) * (sl / (nI 5)))), (0, .ref (q 17)), (1, .int x)]) hx hb dX5_moveDown_70 hl (by decide) rfl (fun ls hl => ?_)
        refine lv_aload_n hx hb dX5_moveDown_72 rfl (lv_at hl 3 rfl) ?_
        refine va_get (D := G) (ci := 4) (v := .ref (q 18)) (C := RX5) (T := TX5) (N := 7) hx hb hts hi_X5 hown hK hP 0 rfl rfl 1 (by decide) f_13 (fun _ h9 => h9) rfl dX5_moveDown_73 ?_
        refine lv_iconst (v := nI 1) hx hb dX5_moveDown_76 (by decide) ?_
        refine lv_dup2_11 hx hb dX5_moveDown_77 rfl rfl ?_
        refine va_iald hx hb hK hP 1 0 rfl rfl (vp_in_nI (by omega) (by omega)) dX5_moveDown_78 ?_
        refine tp (y := now 1) (congrArg now (nI_clamp (by omega))) ?_
        refine lv_iload_n hx hb dX5_moveDown_79 rfl (lv_at hl 4 rfl) ?_
        refine lv_iadd hx hb dX5_moveDown_80 ?_
        refine va_iast hx hb hK hP hD hS 1 0 rfl rfl (vp_in_nI (by omega) (by omega)) dX5_moveDown_81 (fun H locs hP hD hS => ?_)
        rw [nI_clamp (by omega)] at hP hD
        have hP : va_P G vwCl [(q 17, .inr (4, [.ref (q 5), .ref (q 18), .ref (q 19), .int (nI kc), .int (nI dp), .int fo, .int sl])), aI ci (q 18) 8 (upd now 1 ((now 1) + x)), aI ci (q 19) 160 kept, (q 5, .inr (3, [.double fac]))] H := hP
        have hD : va_D A [(q 17, .inr (4, [.ref (q 5), .ref (q 18), .ref (q 19), .int (nI kc), .int (nI dp), .int fo, .int sl])), aI ci (q 18) 8 (upd now 1 ((now 1) + x)), aI ci (q 19) 160 kept, (q 5, .inr (3, [.double fac]))] := hD
        refine lv_aload_n hx hb dX5_moveDown_82 rfl (lv_at hl 3 rfl) ?_
        refine va_get (D := G) (ci := 4) (v := .ref (q 18)) (C := RX5) (T := TX5) (N := 7) hx hb hts hi_X5 hown hK hP 0 rfl rfl 1 (by decide) f_13 (fun _ h9 => h9) rfl dX5_moveDown_83 ?_
        refine lv_iconst (v := nI 3) hx hb dX5_moveDown_86 (by decide) ?_
        refine lv_aload_n hx hb dX5_moveDown_87 rfl (lv_at hl 3 rfl) ?_
        refine lv_iload hx hb dX5_moveDown_88 (lv_at hl 0 rfl) ?_
        refine lv_aload_n hx hb dX5_moveDown_90 rfl (lv_at hl 3 rfl) ?_
        refine va_get (D := G) (ci := 4) (v := .ref (q 18)) (C := RX5) (T := TX5) (N := 7) hx hb hts hi_X5 hown hK hP 0 rfl rfl 1 (by decide) f_13 (fun _ h9 => h9) rfl dX5_moveDown_91 ?_
        refine lv_iconst (v := nI 1) hx hb dX5_moveDown_94 (by decide) ?_
        refine va_iald hx hb hK hP 1 0 rfl rfl (vp_in_nI (by omega) (by omega)) dX5_moveDown_95 ?_
        refine tp (y := (upd now 1 ((now 1) + x)) 1) (congrArg (upd now 1 ((now 1) + x)) (nI_clamp (by omega))) ?_
        refine jI (va_runV (As := [.int ((now 3) + r_8), .int ((upd now 1 ((now 1) + x)) 1)]) (rest := [.int (nI 3), .ref (q 18)]) ⟨hx, hb, hml, hown, hts⟩ (c_X5_held l G ci cz cl q H.size ((now 3) + r_8) ((upd now 1 ((now 1) + x)) 1) kc dp fo sl (upd now 1 ((now 1) + x)) kept fac (by assumption)) (cwV 2 hts gX5_moveDown_X5_held rfl rfl rfl (by decide +kernel) ⟨(Nat.le_of_ble_eq_true rfl), (Nat.le_of_ble_eq_true rfl)⟩) (pV (wc := [(q 17, .inr (4, [.ref (q 5), .ref (q 18), .ref (q 19), .int (nI kc), .int (nI dp), .int fo, .int sl])), aI ci (q 18) 8 (upd now 1 ((now 1) + x)), aI ci (q 19) 160 kept, (q 5, .inr (3, [.double fac]))]) ok hK hP hD hS hA hO [0, 1, 2, 3] rfl (by decide) 0 rfl rfl) rfl rfl hl.1 rfl (lv_room (Nat.le_of_ble_eq_true rfl)) dX5_moveDown_96 ⟨(Nat.le_of_ble_eq_true rfl), (Nat.le_of_ble_eq_true rfl)⟩) (wr := []) hP hD hS hA [0, 1, 2, 3] [] rfl rfl (by decide) (by decide) (fun r_9 u H locs hw_9 hP hD hS => ?_)
        try dsimp only at hw_9
        have hP : va_P G vwCl [(q 17, .inr (4, [.ref (q 5), .ref (q 18), .ref (q 19), .int (nI kc), .int (nI dp), .int fo, .int sl])), aI ci (q 18) 8 (upd now 1 ((now 1) + x)), aI ci (q 19) 160 kept, (q 5, .inr (3, [.double fac]))] H := hP
        have hD : va_D A [(q 17, .inr (4, [.ref (q 5), .ref (q 18), .ref (q 19), .int (nI kc), .int (nI dp), .int fo, .int sl])), aI ci (q 18) 8 (upd now 1 ((now 1) + x)), aI ci (q 19) 160 kept, (q 5, .inr (3, [.double fac]))] := hD
        refine va_iast hx hb hK hP hD hS 1 0 rfl rfl (vp_in_nI (by omega) (by omega)) dX5_moveDown_99 (fun H locs hP hD hS => ?_)
        rw [nI_clamp (by omega)] at hP hD
        have hP : va_P G vwCl [(q 17, .inr (4, [.ref (q 5), .ref (q 18), .ref (q 19), .int (nI kc), .int (nI dp), .int fo, .int sl])), aI ci (q 18) 8 (upd (upd now 1 ((now 1) + x)) 3 r_9), aI ci (q 19) 160 kept, (q 5, .inr (3, [.double fac]))] H := hP
        have hD : va_D A [(q 17, .inr (4, [.ref (q 5), .ref (q 18), .ref (q 19), .int (nI kc), .int (nI dp), .int fo, .int sl])), aI ci (q 18) 8 (upd (upd now 1 ((now 1) + x)) 3 r_9), aI ci (q 19) 160 kept, (q 5, .inr (3, [.double fac]))] := hD
        exact rV hx hb hr hlocks hK hP hD hS [0, 1, 2, 3] (upd (upd now 1 ((now 1) + x)) 3 r_9) rfl (by decide) QMv_u dX5_moveDown_100
  · skip
    have hP : va_P G vwCl [(q 5, .inr (3, [.double fac])), (q 17, .inr (4, [.ref (q 5), .ref (q 18), .ref (q 19), .int (nI kc), .int (nI dp), .int fo, .int sl])), aI ci (q 18) 8 now, aI ci (q 19) 160 kept] H := hP
    have hD : va_D A [(q 5, .inr (3, [.double fac])), (q 17, .inr (4, [.ref (q 5), .ref (q 18), .ref (q 19), .int (nI kc), .int (nI dp), .int fo, .int sl])), aI ci (q 18) 8 now, aI ci (q 19) 160 kept] := hD
    refine lv_if_eq (tgt := 31) hx hb dX5_moveDown_13 (by decide) (fun _ => ?_) (fun c => absurd c (by decide))
    refine lv_iconst (v := nI 0) hx hb dX5_moveDown_31 (by decide) ?_
    refine lv_istore_n (lv' := [(3, .int (nI 0)), (2, .int ((nI 4) * (sl / (nI 5)))), (0, .ref (q 17)), (1, .int x)]) hx hb dX5_moveDown_32 rfl hl (by decide) rfl (fun ls hl => ?_)
    refine lv_iload_n hx hb dX5_moveDown_33 rfl (lv_at hl 0 rfl) ?_
    refine lv_if_eq (tgt := 55) hx hb dX5_moveDown_34 (by decide) (fun _ => ?_) (fun c => absurd c (by decide))
    refine lv_aload_n hx hb dX5_moveDown_55 rfl (lv_at hl 2 rfl) ?_
    refine va_get (D := G) (ci := 4) (v := .ref (q 5)) (C := RX5) (T := TX5) (N := 7) hx hb hts hi_X5 hown hK hP 1 rfl rfl 0 (by decide) f_7 (fun _ h9 => h9) rfl dX5_moveDown_56 ?_
    refine lv_aload_n hx hb dX5_moveDown_59 rfl (lv_at hl 2 rfl) ?_
    refine va_get (D := G) (ci := 4) (v := .ref (q 18)) (C := RX5) (T := TX5) (N := 7) hx hb hts hi_X5 hown hK hP 1 rfl rfl 1 (by decide) f_13 (fun _ h9 => h9) rfl dX5_moveDown_60 ?_
    refine lv_iconst (v := nI 1) hx hb dX5_moveDown_63 (by decide) ?_
    refine va_iald hx hb hK hP 2 0 rfl rfl (vp_in_nI (by omega) (by omega)) dX5_moveDown_64 ?_
    refine tp (y := now 1) (congrArg now (nI_clamp (by omega))) ?_
    refine lv_iload_n hx hb dX5_moveDown_65 rfl (lv_at hl 3 rfl) ?_
    refine lv_iadd hx hb dX5_moveDown_66 ?_
    refine jI (va_runV (As := [.int ((now 1) + x)]) (rest := []) ⟨hx, hb, hml, hown, hts⟩ (c_X4_rounded l G ci cz cl q H.size ((now 1) + x) fac (by assumption)) (cwV 1 hts gX5_moveDown_X4_rounded rfl rfl rfl (by decide +kernel) ⟨(Nat.le_of_ble_eq_true rfl), (Nat.le_of_ble_eq_true rfl)⟩) (pV (wc := [(q 5, .inr (3, [.double fac]))]) ok hK hP hD hS hA hO [0] rfl (by decide) 0 rfl rfl) rfl rfl hl.1 rfl (lv_room (Nat.le_of_ble_eq_true rfl)) dX5_moveDown_67 ⟨(Nat.le_of_ble_eq_true rfl), (Nat.le_of_ble_eq_true rfl)⟩) (wr := [(q 17, .inr (4, [.ref (q 5), .ref (q 18), .ref (q 19), .int (nI kc), .int (nI dp), .int fo, .int sl])), aI ci (q 18) 8 now, aI ci (q 19) 160 kept]) hP hD hS hA [0] [1, 2, 3] rfl rfl (by decide) (by decide) (fun r_10 u H locs hw_10 hP hD hS => ?_)
    try dsimp only at hw_10
    have hP : va_P G vwCl [(q 17, .inr (4, [.ref (q 5), .ref (q 18), .ref (q 19), .int (nI kc), .int (nI dp), .int fo, .int sl])), aI ci (q 18) 8 now, aI ci (q 19) 160 kept, (q 5, .inr (3, [.double fac]))] H := hP
    have hD : va_D A [(q 17, .inr (4, [.ref (q 5), .ref (q 18), .ref (q 19), .int (nI kc), .int (nI dp), .int fo, .int sl])), aI ci (q 18) 8 now, aI ci (q 19) 160 kept, (q 5, .inr (3, [.double fac]))] := hD
    refine lv_istore (lv' := [(4, .int r_10), (3, .int (nI 0)), (2, .int ((nI 4) * (sl / (nI 5)))), (0, .ref (q 17)), (1, .int x)]) hx hb dX5_moveDown_70 hl (by decide) rfl (fun ls hl => ?_)
    refine lv_aload_n hx hb dX5_moveDown_72 rfl (lv_at hl 3 rfl) ?_
    refine va_get (D := G) (ci := 4) (v := .ref (q 18)) (C := RX5) (T := TX5) (N := 7) hx hb hts hi_X5 hown hK hP 0 rfl rfl 1 (by decide) f_13 (fun _ h9 => h9) rfl dX5_moveDown_73 ?_
    refine lv_iconst (v := nI 1) hx hb dX5_moveDown_76 (by decide) ?_
    refine lv_dup2_11 hx hb dX5_moveDown_77 rfl rfl ?_
    refine va_iald hx hb hK hP 1 0 rfl rfl (vp_in_nI (by omega) (by omega)) dX5_moveDown_78 ?_
    refine tp (y := now 1) (congrArg now (nI_clamp (by omega))) ?_
    refine lv_iload_n hx hb dX5_moveDown_79 rfl (lv_at hl 4 rfl) ?_
    refine lv_iadd hx hb dX5_moveDown_80 ?_
    refine va_iast hx hb hK hP hD hS 1 0 rfl rfl (vp_in_nI (by omega) (by omega)) dX5_moveDown_81 (fun H locs hP hD hS => ?_)
    rw [nI_clamp (by omega)] at hP hD
    have hP : va_P G vwCl [(q 17, .inr (4, [.ref (q 5), .ref (q 18), .ref (q 19), .int (nI kc), .int (nI dp), .int fo, .int sl])), aI ci (q 18) 8 (upd now 1 ((now 1) + x)), aI ci (q 19) 160 kept, (q 5, .inr (3, [.double fac]))] H := hP
    have hD : va_D A [(q 17, .inr (4, [.ref (q 5), .ref (q 18), .ref (q 19), .int (nI kc), .int (nI dp), .int fo, .int sl])), aI ci (q 18) 8 (upd now 1 ((now 1) + x)), aI ci (q 19) 160 kept, (q 5, .inr (3, [.double fac]))] := hD
    refine lv_aload_n hx hb dX5_moveDown_82 rfl (lv_at hl 3 rfl) ?_
    refine va_get (D := G) (ci := 4) (v := .ref (q 18)) (C := RX5) (T := TX5) (N := 7) hx hb hts hi_X5 hown hK hP 0 rfl rfl 1 (by decide) f_13 (fun _ h9 => h9) rfl dX5_moveDown_83 ?_
    refine lv_iconst (v := nI 3) hx hb dX5_moveDown_86 (by decide) ?_
    refine lv_aload_n hx hb dX5_moveDown_87 rfl (lv_at hl 3 rfl) ?_
    refine lv_iload hx hb dX5_moveDown_88 (lv_at hl 0 rfl) ?_
    refine lv_aload_n hx hb dX5_moveDown_90 rfl (lv_at hl 3 rfl) ?_
    refine va_get (D := G) (ci := 4) (v := .ref (q 18)) (C := RX5) (T := TX5) (N := 7) hx hb hts hi_X5 hown hK hP 0 rfl rfl 1 (by decide) f_13 (fun _ h9 => h9) rfl dX5_moveDown_91 ?_
    refine lv_iconst (v := nI 1) hx hb dX5_moveDown_94 (by decide) ?_
    refine va_iald hx hb hK hP 1 0 rfl rfl (vp_in_nI (by omega) (by omega)) dX5_moveDown_95 ?_
    refine tp (y := (upd now 1 ((now 1) + x)) 1) (congrArg (upd now 1 ((now 1) + x)) (nI_clamp (by omega))) ?_
    refine jI (va_runV (As := [.int r_10, .int ((upd now 1 ((now 1) + x)) 1)]) (rest := [.int (nI 3), .ref (q 18)]) ⟨hx, hb, hml, hown, hts⟩ (c_X5_held l G ci cz cl q H.size r_10 ((upd now 1 ((now 1) + x)) 1) kc dp fo sl (upd now 1 ((now 1) + x)) kept fac (by assumption)) (cwV 2 hts gX5_moveDown_X5_held rfl rfl rfl (by decide +kernel) ⟨(Nat.le_of_ble_eq_true rfl), (Nat.le_of_ble_eq_true rfl)⟩) (pV (wc := [(q 17, .inr (4, [.ref (q 5), .ref (q 18), .ref (q 19), .int (nI kc), .int (nI dp), .int fo, .int sl])), aI ci (q 18) 8 (upd now 1 ((now 1) + x)), aI ci (q 19) 160 kept, (q 5, .inr (3, [.double fac]))]) ok hK hP hD hS hA hO [0, 1, 2, 3] rfl (by decide) 0 rfl rfl) rfl rfl hl.1 rfl (lv_room (Nat.le_of_ble_eq_true rfl)) dX5_moveDown_96 ⟨(Nat.le_of_ble_eq_true rfl), (Nat.le_of_ble_eq_true rfl)⟩) (wr := []) hP hD hS hA [0, 1, 2, 3] [] rfl rfl (by decide) (by decide) (fun r_11 u H locs hw_11 hP hD hS => ?_)
    try dsimp only at hw_11
    have hP : va_P G vwCl [(q 17, .inr (4, [.ref (q 5), .ref (q 18), .ref (q 19), .int (nI kc), .int (nI dp), .int fo, .int sl])), aI ci (q 18) 8 (upd now 1 ((now 1) + x)), aI ci (q 19) 160 kept, (q 5, .inr (3, [.double fac]))] H := hP
    have hD : va_D A [(q 17, .inr (4, [.ref (q 5), .ref (q 18), .ref (q 19), .int (nI kc), .int (nI dp), .int fo, .int sl])), aI ci (q 18) 8 (upd now 1 ((now 1) + x)), aI ci (q 19) 160 kept, (q 5, .inr (3, [.double fac]))] := hD
    refine va_iast hx hb hK hP hD hS 1 0 rfl rfl (vp_in_nI (by omega) (by omega)) dX5_moveDown_99 (fun H locs hP hD hS => ?_)
    rw [nI_clamp (by omega)] at hP hD
    have hP : va_P G vwCl [(q 17, .inr (4, [.ref (q 5), .ref (q 18), .ref (q 19), .int (nI kc), .int (nI dp), .int fo, .int sl])), aI ci (q 18) 8 (upd (upd now 1 ((now 1) + x)) 3 r_11), aI ci (q 19) 160 kept, (q 5, .inr (3, [.double fac]))] H := hP
    have hD : va_D A [(q 17, .inr (4, [.ref (q 5), .ref (q 18), .ref (q 19), .int (nI kc), .int (nI dp), .int fo, .int sl])), aI ci (q 18) 8 (upd (upd now 1 ((now 1) + x)) 3 r_11), aI ci (q 19) 160 kept, (q 5, .inr (3, [.double fac]))] := hD
    exact rV hx hb hr hlocks hK hP hD hS [0, 1, 2, 3] (upd (upd now 1 ((now 1) + x)) 3 r_11) rfl (by decide) QMv_u dX5_moveDown_100
set_option maxHeartbeats 4000000 in
set_option maxRecDepth 100000 in
theorem c_X5_advance (l : Launch) (G : va_G) (ci cz cl : ClassId) (q : Nat → Nat) (sz : Nat) (x : Int32) (y : Int32) (kc : Nat) (dp : Nat) (fo : Int32) (sl : Int32) (now : Nat → Int32) (kept : Nat → Int32) (fac : UInt64) (hf : Fn fac) : CtV l yX5_advance wsX5_advance ({ frames := 2, cells := 0, slots := 0, locals := 47 }) G (TY ci cz cl) O0 [.ref (q 17), .int x, .int y] [(q 17, .inr (4, [.ref (q 5), .ref (q 18), .ref (q 19), .int (nI kc), .int (nI dp), .int fo, .int sl])), aI ci (q 18) 8 now, aI ci (q 19) 160 kept, (q 5, .inr (3, [.double fac]))] sz (fun (u : Nat → Int32) => QMh now u x) (fun u : Nat → Int32 => [(q 17, .inr (4, [.ref (q 5), .ref (q 18), .ref (q 19), .int (nI kc), .int (nI dp), .int fo, .int sl])), aI ci (q 18) 8 u, aI ci (q 19) 160 kept, (q 5, .inr (3, [.double fac]))]) 0 0 := by
  refine Met.ofW (cc := cX5_advance) (maxL := 3) (ret := none) (by decide) rfl ?_
  intro p e s m args below meth c s₁ B hml hv
  obtain ⟨rfl, ⟨hsz, hP, hK, hD0⟩, hO⟩ := hv
  have hx := B.exec
  have hb := B.bytes
  have hr := B.returns
  have hts := atoms_spec (ws := wsX5_advance) B.pre
  have hown : s.vm.findClass RX5 = some m.cls := findClass_of_methodNamed B.named
  have hlocks := B.notSynchronized
  subst hsz
  have hD := hD0.self (sz := s.heap.size)
  generalize hAe : va_A [(q 17, .inr (4, [.ref (q 5), .ref (q 18), .ref (q 19), .int (nI kc), .int (nI dp), .int fo, .int sl])), aI ci (q 18) 8 now, aI ci (q 19) 160 kept, (q 5, .inr (3, [.double fac]))] s.heap.size = A at hD hO ⊢
  have hA : ∀ q : Nat, s.heap.size ≤ q → A q := fun q h => by rw [← hAe]; exact Or.inr h
  have ok := ok0
  refine startH (A := A) (fun H locs hP hS => ?_) hP
  have hi_X5 := (by decide +kernel : ∀ w ∈ wsX50, w ∈ wsX5_advance)
  have f_13 := hts (.fieldLink RX5 13 "PageReader$Place" "now" "[I") (by decide +kernel)
  have hl := lv_entry ([.ref (q 17), .int x, .int y]) (n := 3) (Nat.le_of_ble_eq_true rfl)
  rw [lg_entry_eq]
  generalize (lg_sl ([.ref (q 17), .int x, .int y]) ++ List.replicate (3 - (lg_sl ([.ref (q 17), .int x, .int y])).length) Slot.unset).toArray = ls at hl ⊢
  have hl : lv_has ls 3 [(0, .ref (q 17)), (1, .int x), (2, .int y)] := hl
  refine lv_aload_n hx hb dX5_advance_0 rfl (lv_at hl 0 rfl) ?_
  refine va_get (D := G) (ci := 4) (v := .ref (q 18)) (C := RX5) (T := TX5) (N := 7) hx hb hts hi_X5 hown hK hP 0 rfl rfl 1 (by decide) f_13 (fun _ h9 => h9) rfl dX5_advance_1 ?_
  refine lv_iconst (v := nI 0) hx hb dX5_advance_4 (by decide) ?_
  refine lv_dup2_11 hx hb dX5_advance_5 rfl rfl ?_
  refine va_iald hx hb hK hP 1 0 rfl rfl (vp_in_nI (by omega) (by omega)) dX5_advance_6 ?_
  refine tp (y := now 0) (congrArg now (nI_clamp (by omega))) ?_
  refine lv_iload_n hx hb dX5_advance_7 rfl (lv_at hl 1 rfl) ?_
  refine lv_iadd hx hb dX5_advance_8 ?_
  refine va_iast hx hb hK hP hD hS 1 0 rfl rfl (vp_in_nI (by omega) (by omega)) dX5_advance_9 (fun H locs hP hD hS => ?_)
  rw [nI_clamp (by omega)] at hP hD
  have hP : va_P G vwCl [(q 17, .inr (4, [.ref (q 5), .ref (q 18), .ref (q 19), .int (nI kc), .int (nI dp), .int fo, .int sl])), aI ci (q 18) 8 (upd now 0 ((now 0) + x)), aI ci (q 19) 160 kept, (q 5, .inr (3, [.double fac]))] H := hP
  have hD : va_D A [(q 17, .inr (4, [.ref (q 5), .ref (q 18), .ref (q 19), .int (nI kc), .int (nI dp), .int fo, .int sl])), aI ci (q 18) 8 (upd now 0 ((now 0) + x)), aI ci (q 19) 160 kept, (q 5, .inr (3, [.double fac]))] := hD
  refine lv_aload_n hx hb dX5_advance_10 rfl (lv_at hl 0 rfl) ?_
  refine va_get (D := G) (ci := 4) (v := .ref (q 18)) (C := RX5) (T := TX5) (N := 7) hx hb hts hi_X5 hown hK hP 0 rfl rfl 1 (by decide) f_13 (fun _ h9 => h9) rfl dX5_advance_11 ?_
  refine lv_iconst (v := nI 2) hx hb dX5_advance_14 (by decide) ?_
  refine lv_aload_n hx hb dX5_advance_15 rfl (lv_at hl 0 rfl) ?_
  refine lv_aload_n hx hb dX5_advance_16 rfl (lv_at hl 0 rfl) ?_
  refine va_get (D := G) (ci := 4) (v := .ref (q 18)) (C := RX5) (T := TX5) (N := 7) hx hb hts hi_X5 hown hK hP 0 rfl rfl 1 (by decide) f_13 (fun _ h9 => h9) rfl dX5_advance_17 ?_
  refine lv_iconst (v := nI 2) hx hb dX5_advance_20 (by decide) ?_
  refine va_iald hx hb hK hP 1 0 rfl rfl (vp_in_nI (by omega) (by omega)) dX5_advance_21 ?_
  refine tp (y := (upd now 0 ((now 0) + x)) 2) (congrArg (upd now 0 ((now 0) + x)) (nI_clamp (by omega))) ?_
  refine lv_iload_n hx hb dX5_advance_22 rfl (lv_at hl 2 rfl) ?_
  refine lv_iadd hx hb dX5_advance_23 ?_
  refine lv_aload_n hx hb dX5_advance_24 rfl (lv_at hl 0 rfl) ?_
  refine va_get (D := G) (ci := 4) (v := .ref (q 18)) (C := RX5) (T := TX5) (N := 7) hx hb hts hi_X5 hown hK hP 0 rfl rfl 1 (by decide) f_13 (fun _ h9 => h9) rfl dX5_advance_25 ?_
  refine lv_iconst (v := nI 0) hx hb dX5_advance_28 (by decide) ?_
  refine va_iald hx hb hK hP 1 0 rfl rfl (vp_in_nI (by omega) (by omega)) dX5_advance_29 ?_
  refine tp (y := (upd now 0 ((now 0) + x)) 0) (congrArg (upd now 0 ((now 0) + x)) (nI_clamp (by omega))) ?_
  refine jI (va_runV (As := [.int (((upd now 0 ((now 0) + x)) 2) + y), .int ((upd now 0 ((now 0) + x)) 0)]) (rest := [.int (nI 2), .ref (q 18)]) ⟨hx, hb, hml, hown, hts⟩ (c_X5_held l G ci cz cl q H.size (((upd now 0 ((now 0) + x)) 2) + y) ((upd now 0 ((now 0) + x)) 0) kc dp fo sl (upd now 0 ((now 0) + x)) kept fac (by assumption)) (cwV 2 hts gX5_advance_X5_held rfl rfl rfl (by decide +kernel) ⟨(Nat.le_of_ble_eq_true rfl), (Nat.le_of_ble_eq_true rfl)⟩) (pV (wc := [(q 17, .inr (4, [.ref (q 5), .ref (q 18), .ref (q 19), .int (nI kc), .int (nI dp), .int fo, .int sl])), aI ci (q 18) 8 (upd now 0 ((now 0) + x)), aI ci (q 19) 160 kept, (q 5, .inr (3, [.double fac]))]) ok hK hP hD hS hA hO [0, 1, 2, 3] rfl (by decide) 0 rfl rfl) rfl rfl hl.1 rfl (lv_room (Nat.le_of_ble_eq_true rfl)) dX5_advance_30 ⟨(Nat.le_of_ble_eq_true rfl), (Nat.le_of_ble_eq_true rfl)⟩) (wr := []) hP hD hS hA [0, 1, 2, 3] [] rfl rfl (by decide) (by decide) (fun r_1 u H locs hw_1 hP hD hS => ?_)
  try dsimp only at hw_1
  have hP : va_P G vwCl [(q 17, .inr (4, [.ref (q 5), .ref (q 18), .ref (q 19), .int (nI kc), .int (nI dp), .int fo, .int sl])), aI ci (q 18) 8 (upd now 0 ((now 0) + x)), aI ci (q 19) 160 kept, (q 5, .inr (3, [.double fac]))] H := hP
  have hD : va_D A [(q 17, .inr (4, [.ref (q 5), .ref (q 18), .ref (q 19), .int (nI kc), .int (nI dp), .int fo, .int sl])), aI ci (q 18) 8 (upd now 0 ((now 0) + x)), aI ci (q 19) 160 kept, (q 5, .inr (3, [.double fac]))] := hD
  refine va_iast hx hb hK hP hD hS 1 0 rfl rfl (vp_in_nI (by omega) (by omega)) dX5_advance_33 (fun H locs hP hD hS => ?_)
  rw [nI_clamp (by omega)] at hP hD
  have hP : va_P G vwCl [(q 17, .inr (4, [.ref (q 5), .ref (q 18), .ref (q 19), .int (nI kc), .int (nI dp), .int fo, .int sl])), aI ci (q 18) 8 (upd (upd now 0 ((now 0) + x)) 2 r_1), aI ci (q 19) 160 kept, (q 5, .inr (3, [.double fac]))] H := hP
  have hD : va_D A [(q 17, .inr (4, [.ref (q 5), .ref (q 18), .ref (q 19), .int (nI kc), .int (nI dp), .int fo, .int sl])), aI ci (q 18) 8 (upd (upd now 0 ((now 0) + x)) 2 r_1), aI ci (q 19) 160 kept, (q 5, .inr (3, [.double fac]))] := hD
  exact rV hx hb hr hlocks hK hP hD hS [0, 1, 2, 3] (upd (upd now 0 ((now 0) + x)) 2 r_1) rfl (by decide) QMh_u dX5_advance_34
