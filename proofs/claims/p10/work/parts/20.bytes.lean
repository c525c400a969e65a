set_option maxHeartbeats 4000000 in
set_option maxRecDepth 100000 in
theorem c_X0_count (l : Launch) (G : va_G) (ci cz cl : ClassId) (q : Nat → Nat) (sz : Nat) (n : Nat) (row : Nat → Int32) : CtI l yX0_count wsX0_count ({ frames := 0, cells := 0, slots := 0, locals := 0 }) G (TY ci cz cl) O0 [.ref (q 1)] [(q 1, .inr (0, [.ref (q 2), .int (nI n)])), aI ci (q 2) 600 row] sz (fun (r : Int32) (u : Unit) => r = nI n) (fun u : Unit => [(q 1, .inr (0, [.ref (q 2), .int (nI n)])), aI ci (q 2) 600 row]) 0 0 := by
  refine Met.ofW (cc := cX0_count) (maxL := 1) (ret := (some .int)) (by decide) rfl ?_
  intro p e s m args below meth c s₁ B hml hv
  obtain ⟨rfl, ⟨hsz, hP, hK, hD0⟩, hO⟩ := hv
  have hx := B.exec
  have hb := B.bytes
  have hr := B.returns
  have hts := atoms_spec (ws := wsX0_count) B.pre
  have hown : s.vm.findClass RX0 = some m.cls := findClass_of_methodNamed B.named
  have hlocks := B.notSynchronized
  subst hsz
  have hD := hD0.self (sz := s.heap.size)
  generalize hAe : va_A [(q 1, .inr (0, [.ref (q 2), .int (nI n)])), aI ci (q 2) 600 row] s.heap.size = A at hD hO ⊢
  have hA : ∀ q : Nat, s.heap.size ≤ q → A q := fun q h => by rw [← hAe]; exact Or.inr h
  have ok := ok0
  refine startH (A := A) (fun H locs hP hS => ?_) hP
  have hi_X0 := (by decide +kernel : ∀ w ∈ wsX00, w ∈ wsX0_count)
  have f_13 := hts (.fieldLink RX0 13 "PageReader$Bytes" "count" "I") (by decide +kernel)
  have hl := lv_entry ([.ref (q 1)]) (n := 1) (Nat.le_of_ble_eq_true rfl)
  rw [lg_entry_eq]
  generalize (lg_sl ([.ref (q 1)]) ++ List.replicate (1 - (lg_sl ([.ref (q 1)])).length) Slot.unset).toArray = ls at hl ⊢
  have hl : lv_has ls 1 [(0, .ref (q 1))] := hl
  refine lv_aload_n hx hb dX0_count_0 rfl (lv_at hl 0 rfl) ?_
  refine va_get (D := G) (ci := 0) (v := .int (nI n)) (C := RX0) (T := TX0) (N := 2) hx hb hts hi_X0 hown hK hP 0 rfl rfl 1 (by decide) f_13 (fun _ h9 => h9) rfl dX0_count_1 ?_
  exact rI (v := nI n) hx hb hr hlocks rfl hK hP hD hS [0, 1] () rfl (by decide) rfl dX0_count_4
set_option maxHeartbeats 4000000 in
set_option maxRecDepth 100000 in
theorem c_X0_at (l : Launch) (G : va_G) (ci cz cl : ClassId) (q : Nat → Nat) (sz : Nat) (a : Nat) (n : Nat) (row : Nat → Int32) (hn : n ≤ 600) (ha : a ≤ 700) (hB : FB row) : CtI l yX0_at wsX0_at ({ frames := 0, cells := 0, slots := 0, locals := 0 }) G (TY ci cz cl) O0 [.ref (q 1), .int (nI a)] [(q 1, .inr (0, [.ref (q 2), .int (nI n)])), aI ci (q 2) 600 row] sz (fun (r : Int32) (u : Unit) => r = nI (rdB row n a) ∧ rdB row n a ≤ 255) (fun u : Unit => [(q 1, .inr (0, [.ref (q 2), .int (nI n)])), aI ci (q 2) 600 row]) 0 0 := by
  refine Met.ofW (cc := cX0_at) (maxL := 2) (ret := (some .int)) (by decide) rfl ?_
  intro p e s m args below meth c s₁ B hml hv
  obtain ⟨rfl, ⟨hsz, hP, hK, hD0⟩, hO⟩ := hv
  have hx := B.exec
  have hb := B.bytes
  have hr := B.returns
  have hts := atoms_spec (ws := wsX0_at) B.pre
  have hown : s.vm.findClass RX0 = some m.cls := findClass_of_methodNamed B.named
  have hlocks := B.notSynchronized
  subst hsz
  have hD := hD0.self (sz := s.heap.size)
  generalize hAe : va_A [(q 1, .inr (0, [.ref (q 2), .int (nI n)])), aI ci (q 2) 600 row] s.heap.size = A at hD hO ⊢
  have hA : ∀ q : Nat, s.heap.size ≤ q → A q := fun q h => by rw [← hAe]; exact Or.inr h
  have ok := ok0
  refine startH (A := A) (fun H locs hP hS => ?_) hP
  have hi_X0 := (by decide +kernel : ∀ w ∈ wsX00, w ∈ wsX0_at)
  have f_13 := hts (.fieldLink RX0 13 "PageReader$Bytes" "count" "I") (by decide +kernel)
  have f_9 := hts (.fieldLink RX0 9 "PageReader$Bytes" "row" "[I") (by decide +kernel)
  have hl := lv_entry ([.ref (q 1), .int (nI a)]) (n := 2) (Nat.le_of_ble_eq_true rfl)
  rw [lg_entry_eq]
  generalize (lg_sl ([.ref (q 1), .int (nI a)]) ++ List.replicate (2 - (lg_sl ([.ref (q 1), .int (nI a)])).length) Slot.unset).toArray = ls at hl ⊢
  have hl : lv_has ls 2 [(0, .ref (q 1)), (1, .int (nI a))] := hl
  refine lv_iload_n hx hb dX0_at_0 rfl (lv_at hl 1 rfl) ?_
  refine lv_if_lt (tgt := 12) hx hb dX0_at_1 (by decide) (fun c_1 => ?_) (fun c_1 => ?_)
  · skip
    have z_1 := (nI_ltI (a := a) (b := 0) (by omega) (by omega)).mp c_1
    exfalso; omega
  · skip
    have z_1 := mt (nI_ltI (a := a) (b := 0) (by omega) (by omega)).mpr c_1
    refine lv_iload_n hx hb dX0_at_4 rfl (lv_at hl 1 rfl) ?_
    refine lv_aload_n hx hb dX0_at_5 rfl (lv_at hl 0 rfl) ?_
    refine va_get (D := G) (ci := 0) (v := .int (nI n)) (C := RX0) (T := TX0) (N := 2) hx hb hts hi_X0 hown hK hP 0 rfl rfl 1 (by decide) f_13 (fun _ h9 => h9) rfl dX0_at_6 ?_
    refine lv_icmp_lt (tgt := 16) hx hb dX0_at_9 (by decide) (fun c_2 => ?_) (fun c_2 => ?_)
    · skip
      have z_2 := (nI_ltI (a := a) (b := n) (by omega) (by omega)).mp c_2
      refine lv_aload_n hx hb dX0_at_16 rfl (lv_at hl 0 rfl) ?_
      refine va_get (D := G) (ci := 0) (v := .ref (q 2)) (C := RX0) (T := TX0) (N := 2) hx hb hts hi_X0 hown hK hP 0 rfl rfl 0 (by decide) f_9 (fun _ h9 => h9) rfl dX0_at_17 ?_
      refine lv_iload_n hx hb dX0_at_20 rfl (lv_at hl 1 rfl) ?_
      refine va_iald hx hb hK hP 1 0 rfl rfl (vp_in_nI (by omega) (by omega)) dX0_at_21 ?_
      refine tp (y := row a) (congrArg row (nI_clamp (by omega))) ?_
      exact rI (v := row a) hx hb hr hlocks rfl hK hP hD hS [0, 1] () rfl (by decide) ⟨rdB_row hB (by (try dsimp only); omega), rdB_le hB n a⟩ dX0_at_22
    · skip
      have z_2 := mt (nI_ltI (a := a) (b := n) (by omega) (by omega)).mpr c_2
      refine lv_iconst (v := nI 0) hx hb dX0_at_12 (by decide) ?_
      refine lv_goto (tgt := 22) hx hb dX0_at_13 (by decide) ?_
      exact rI (v := nI 0) hx hb hr hlocks rfl hK hP hD hS [0, 1] () rfl (by decide) ⟨congrArg nI (rdB_hi (by (try dsimp only); omega)).symm, rdB_le hB n a⟩ dX0_at_22
set_option maxHeartbeats 4000000 in
set_option maxRecDepth 100000 in
theorem c_X0_number (l : Launch) (G : va_G) (ci cz cl : ClassId) (q : Nat → Nat) (sz : Nat) (a : Nat) (k : Nat) (n : Nat) (row : Nat → Int32) (hn : n ≤ 600) (ha : a ≤ 690) (hk : k ≤ 3) (hB : FB row) : CtI l yX0_number wsX0_number ({ frames := 1, cells := 0, slots := 0, locals := 21 }) G (TY ci cz cl) O0 [.ref (q 1), .int (nI a), .int (nI k)] [(q 1, .inr (0, [.ref (q 2), .int (nI n)])), aI ci (q 2) 600 row] sz (fun (r : Int32) (u : Unit) => r = nI (rdN row n a k) ∧ rdN row n a k ≤ 16777215) (fun u : Unit => [(q 1, .inr (0, [.ref (q 2), .int (nI n)])), aI ci (q 2) 600 row]) 0 0 := by
  refine Met.ofW (cc := cX0_number) (maxL := 5) (ret := (some .int)) (by decide) rfl ?_
  intro p e s m args below meth c s₁ B hml hv
  obtain ⟨rfl, ⟨hsz, hP, hK, hD0⟩, hO⟩ := hv
  have hx := B.exec
  have hb := B.bytes
  have hr := B.returns
  have hts := atoms_spec (ws := wsX0_number) B.pre
  have hown : s.vm.findClass RX0 = some m.cls := findClass_of_methodNamed B.named
  have hlocks := B.notSynchronized
  subst hsz
  have hD := hD0.self (sz := s.heap.size)
  generalize hAe : va_A [(q 1, .inr (0, [.ref (q 2), .int (nI n)])), aI ci (q 2) 600 row] s.heap.size = A at hD hO ⊢
  have hA : ∀ q : Nat, s.heap.size ≤ q → A q := fun q h => by rw [← hAe]; exact Or.inr h
  have ok := ok0
  refine startH (A := A) (fun H locs hP hS => ?_) hP
  have hl := lv_entry ([.ref (q 1), .int (nI a), .int (nI k)]) (n := 5) (Nat.le_of_ble_eq_true rfl)
  rw [lg_entry_eq]
  generalize (lg_sl ([.ref (q 1), .int (nI a), .int (nI k)]) ++ List.replicate (5 - (lg_sl ([.ref (q 1), .int (nI a), .int (nI k)])).length) Slot.unset).toArray = ls at hl ⊢
  have hl : lv_has ls 5 [(0, .ref (q 1)), (1, .int (nI a)), (2, .int (nI k))] := hl
  refine lv_iconst (v := nI 0) hx hb dX0_number_0 (by decide) ?_
  refine lv_istore_n (lv' := [(3, .int (nI 0)), (0, .ref (q 1)), (1, .int (nI a)), (2, .int (nI k))]) hx hb dX0_number_1 rfl hl (by decide) rfl (fun ls hl => ?_)
  refine lv_iconst (v := nI 0) hx hb dX0_number_2 (by decide) ?_
  refine lv_istore (lv' := [(4, .int (nI 0)), (3, .int (nI 0)), (0, .ref (q 1)), (1, .int (nI a)), (2, .int (nI k))]) hx hb dX0_number_3 hl (by decide) rfl (fun ls hl => ?_)
  have loop_5 : ∀ (fuel : Nat) (i : Nat) (H : Heap) (locs : List Loc), k - i < fuel → (i ≤ k) → va_P G vwCl [(q 1, .inr (0, [.ref (q 2), .int (nI n)])), aI ci (q 2) 600 row] H → va_D A [(q 1, .inr (0, [.ref (q 2), .int (nI n)])), aI ci (q 2) 600 row] → va_S A s.heap H locs → ∀ ls : Array Slot, lv_has ls 5 [(0, .ref (q 1)), (1, .int (nI a)), (2, .int (nI k)), (3, .int (nI (rdN row n a i))), (4, .int (nI i))] → W p l e (headSpec wsX0_number ({ frames := 1, cells := 0, slots := 0, locals := 21 })).room s m ([.ref (q 1), .int (nI a), .int (nI k)] : List Value).toArray below meth c H locs 0 0 (MQ below (va_Qi (fun (r : Int32) (u : Unit) => r = nI (rdN row n a k) ∧ rdN row n a k ≤ 16777215) (fun u t => PQ G (TY ci cz cl) A [(q 1, .inr (0, [.ref (q 2), .int (nI n)])), aI ci (q 2) 600 row] t) A) ([.ref (q 1), .int (nI a), .int (nI k)] : List Value).toArray s 0 0 A) (F0 m 5 ls []) := by
    intro fuel
    induction fuel with
    | zero => intro i H locs hf; exact absurd hf (by omega)
    | succ fuel ih =>
      intro i H locs hf hi hP hD hS ls hl
      refine lv_iload hx hb dX0_number_5 (lv_at hl 4 rfl) ?_
      refine lv_iload_n hx hb dX0_number_7 rfl (lv_at hl 2 rfl) ?_
      refine lv_icmp_ge (tgt := 31) hx hb dX0_number_8 (by decide) (fun c_1 => ?_) (fun c_1 => ?_)
      · skip
        have z_1 := (nI_leI (a := k) (b := i) (by omega) (by omega)).mp c_1
        refine lv_iload_n hx hb dX0_number_31 rfl (lv_at hl 3 rfl) ?_
        exact rI (v := nI (rdN row n a i)) hx hb hr hlocks rfl hK hP hD hS [0, 1] () rfl (by decide) ⟨congrArg nI (congrArg (rdN row n a) (show i = k by (try dsimp only); omega)), rdN_3 hB n a (by (try dsimp only); omega)⟩ dX0_number_32
      · skip
        have z_1 := mt (nI_leI (a := k) (b := i) (by omega) (by omega)).mpr c_1
        refine lv_iload_n hx hb dX0_number_11 rfl (lv_at hl 3 rfl) ?_
        refine lv_bipush (v := nI 8) hx hb dX0_number_12 (by decide) ?_
        refine lv_ishl hx hb dX0_number_14 ?_
        refine lv_aload_n hx hb dX0_number_15 rfl (lv_at hl 0 rfl) ?_
        refine lv_iload_n hx hb dX0_number_16 rfl (lv_at hl 1 rfl) ?_
        refine lv_iload hx hb dX0_number_17 (lv_at hl 4 rfl) ?_
        refine lv_iadd hx hb dX0_number_19 ?_
        refine tp (nI_add _ _) ?_
        refine jI (va_runV (As := [.int (nI (a + i))]) (rest := [.int ((nI (rdN row n a i)) <<< ((nI 8) &&& 31))]) ⟨hx, hb, hml, hown, hts⟩ (c_X0_at l G ci cz cl q H.size (a + i) n row (by omega) (by omega) hB) (cwV 1 hts gX0_number_X0_at rfl rfl rfl (by decide +kernel) ⟨(Nat.le_of_ble_eq_true rfl), (Nat.le_of_ble_eq_true rfl)⟩) (pV (wc := [(q 1, .inr (0, [.ref (q 2), .int (nI n)])), aI ci (q 2) 600 row]) ok hK hP hD hS hA hO [0, 1] rfl (by decide) 0 rfl rfl) rfl rfl hl.1 rfl (lv_room (Nat.le_of_ble_eq_true rfl)) dX0_number_20 ⟨(Nat.le_of_ble_eq_true rfl), (Nat.le_of_ble_eq_true rfl)⟩) (wr := []) hP hD hS hA [0, 1] [] rfl rfl (by decide) (by decide) (fun r_2 u H locs hw_2 hP hD hS => ?_)
        try dsimp only at hw_2
        obtain ⟨rfl, h_2⟩ := hw_2
        have hP : va_P G vwCl [(q 1, .inr (0, [.ref (q 2), .int (nI n)])), aI ci (q 2) 600 row] H := hP
        have hD : va_D A [(q 1, .inr (0, [.ref (q 2), .int (nI n)])), aI ci (q 2) 600 row] := hD
        refine lv_ior hx hb dX0_number_23 ?_
        refine tp (y := nI (rdN row n a (i + 1))) (rdN_or (rdN_le2 hB n a (by omega)) (rdB_le hB n (a + i))) ?_
        refine lv_istore_n (lv' := [(3, .int (nI (rdN row n a (i + 1)))), (0, .ref (q 1)), (1, .int (nI a)), (2, .int (nI k)), (4, .int (nI i))]) hx hb dX0_number_24 rfl hl (by decide) rfl (fun ls hl => ?_)
        refine lv_iinc (v := nI (i + 1)) (lv' := [(4, .int (nI (i + 1))), (3, .int (nI (rdN row n a (i + 1)))), (0, .ref (q 1)), (1, .int (nI a)), (2, .int (nI k))]) hx hb dX0_number_25 hl (k := 4) rfl (nI_add _ _) (by decide) rfl (fun ls hl => ?_)
        refine lv_goto (tgt := 5) hx hb dX0_number_28 (by decide) ?_
        exact ih (i + 1) H locs (by omega) (by omega) (hP.sub [0, 1] rfl) (hD.sub [0, 1] (by decide) rfl) hS ls (lv_sub hl [2, 3, 4, 1, 0] rfl)
  exact loop_5 (k - 0 + 1) 0 H locs (Nat.lt_succ_self _) (by omega) (hP.sub [0, 1] rfl) (hD.sub [0, 1] (by decide) rfl) hS ls (lv_sub hl [2, 3, 4, 1, 0] rfl)
set_option maxHeartbeats 4000000 in
set_option maxRecDepth 100000 in
theorem c_X0_signedNumber (l : Launch) (G : va_G) (ci cz cl : ClassId) (q : Nat → Nat) (sz : Nat) (a : Nat) (k : Nat) (n : Nat) (row : Nat → Int32) (hn : n ≤ 600) (ha : a ≤ 690) (hk : k ≤ 3) (hB : FB row) : CtI l yX0_signedNumber wsX0_signedNumber ({ frames := 2, cells := 0, slots := 0, locals := 45 }) G (TY ci cz cl) O0 [.ref (q 1), .int (nI a), .int (nI k)] [(q 1, .inr (0, [.ref (q 2), .int (nI n)])), aI ci (q 2) 600 row] sz (fun (r : Int32) (u : Unit) => r = rdS row n a k) (fun u : Unit => [(q 1, .inr (0, [.ref (q 2), .int (nI n)])), aI ci (q 2) 600 row]) 0 0 := by
  refine Met.ofW (cc := cX0_signedNumber) (maxL := 4) (ret := (some .int)) (by decide) rfl ?_
  intro p e s m args below meth c s₁ B hml hv
  obtain ⟨rfl, ⟨hsz, hP, hK, hD0⟩, hO⟩ := hv
  have hx := B.exec
  have hb := B.bytes
  have hr := B.returns
  have hts := atoms_spec (ws := wsX0_signedNumber) B.pre
  have hown : s.vm.findClass RX0 = some m.cls := findClass_of_methodNamed B.named
  have hlocks := B.notSynchronized
  subst hsz
  have hD := hD0.self (sz := s.heap.size)
  generalize hAe : va_A [(q 1, .inr (0, [.ref (q 2), .int (nI n)])), aI ci (q 2) 600 row] s.heap.size = A at hD hO ⊢
  have hA : ∀ q : Nat, s.heap.size ≤ q → A q := fun q h => by rw [← hAe]; exact Or.inr h
  have ok := ok0
  refine startH (A := A) (fun H locs hP hS => ?_) hP
  have hl := lv_entry ([.ref (q 1), .int (nI a), .int (nI k)]) (n := 4) (Nat.le_of_ble_eq_true rfl)
  rw [lg_entry_eq]
  generalize (lg_sl ([.ref (q 1), .int (nI a), .int (nI k)]) ++ List.replicate (4 - (lg_sl ([.ref (q 1), .int (nI a), .int (nI k)])).length) Slot.unset).toArray = ls at hl ⊢
  have hl : lv_has ls 4 [(0, .ref (q 1)), (1, .int (nI a)), (2, .int (nI k))] := hl
  refine lv_bipush (v := nI 32) hx hb dX0_signedNumber_0 (by decide) ?_
  refine lv_bipush (v := nI 8) hx hb dX0_signedNumber_2 (by decide) ?_
  refine lv_iload_n hx hb dX0_signedNumber_4 rfl (lv_at hl 2 rfl) ?_
  refine lv_imul hx hb dX0_signedNumber_5 ?_
  refine tp (pk_mul _ _) ?_
  refine lv_isub hx hb dX0_signedNumber_6 ?_
  refine lv_istore_n (lv' := [(3, .int ((nI 32) - (nI (8 * k)))), (0, .ref (q 1)), (1, .int (nI a)), (2, .int (nI k))]) hx hb dX0_signedNumber_7 rfl hl (by decide) rfl (fun ls hl => ?_)
  refine lv_aload_n hx hb dX0_signedNumber_8 rfl (lv_at hl 1 rfl) ?_
  refine lv_iload_n hx hb dX0_signedNumber_9 rfl (lv_at hl 2 rfl) ?_
  refine lv_iload_n hx hb dX0_signedNumber_10 rfl (lv_at hl 3 rfl) ?_
  refine jI (va_runV (As := [.int (nI a), .int (nI k)]) (rest := []) ⟨hx, hb, hml, hown, hts⟩ (c_X0_number l G ci cz cl q H.size a k n row (by omega) (by omega) (by omega) hB) (cwV 2 hts gX0_signedNumber_X0_number rfl rfl rfl (by decide +kernel) ⟨(Nat.le_of_ble_eq_true rfl), (Nat.le_of_ble_eq_true rfl)⟩) (pV (wc := [(q 1, .inr (0, [.ref (q 2), .int (nI n)])), aI ci (q 2) 600 row]) ok hK hP hD hS hA hO [0, 1] rfl (by decide) 0 rfl rfl) rfl rfl hl.1 rfl (lv_room (Nat.le_of_ble_eq_true rfl)) dX0_signedNumber_11 ⟨(Nat.le_of_ble_eq_true rfl), (Nat.le_of_ble_eq_true rfl)⟩) (wr := []) hP hD hS hA [0, 1] [] rfl rfl (by decide) (by decide) (fun r_1 u H locs hw_1 hP hD hS => ?_)
  try dsimp only at hw_1
  obtain ⟨rfl, h_1⟩ := hw_1
  have hP : va_P G vwCl [(q 1, .inr (0, [.ref (q 2), .int (nI n)])), aI ci (q 2) 600 row] H := hP
  have hD : va_D A [(q 1, .inr (0, [.ref (q 2), .int (nI n)])), aI ci (q 2) 600 row] := hD
  refine lv_iload_n hx hb dX0_signedNumber_14 rfl (lv_at hl 0 rfl) ?_
  refine lv_ishl hx hb dX0_signedNumber_15 ?_
  refine lv_iload_n hx hb dX0_signedNumber_16 rfl (lv_at hl 0 rfl) ?_
  refine lv_ishr hx hb dX0_signedNumber_17 ?_
  exact rI (v := ((nI (rdN row n a k)) <<< (((nI 32) - (nI (8 * k))) &&& 31)) >>> (((nI 32) - (nI (8 * k))) &&& 31)) hx hb hr hlocks rfl hK hP hD hS [0, 1] () rfl (by decide) (rdS_ext hB n a (by (try dsimp only); omega)) dX0_signedNumber_18
set_option maxHeartbeats 4000000 in
set_option maxRecDepth 100000 in
theorem c_X2_bytesBehind (l : Launch) (G : va_G) (ci cz cl : ClassId) (q : Nat → Nat) (sz : Nat) (tb : Nat) (k : Nat) (hk : k ≤ 255) : CtI l yX2_bytesBehind wsX2_bytesBehind ({ frames := 0, cells := 0, slots := 0, locals := 0 }) G (TY ci cz cl) (OB tb) [.int (nI k)] [] sz (fun (r : Int32) (u : Unit) => r = nI (tbk k) ∧ tbk k ≤ 11) (fun u : Unit => []) 0 0 := by
  refine Met.ofW (cc := cX2_bytesBehind) (maxL := 1) (ret := (some .int)) (by decide) rfl ?_
  intro p e s m args below meth c s₁ B hml hv
  obtain ⟨rfl, ⟨hsz, hP, hK, hD0⟩, hO⟩ := hv
  have hx := B.exec
  have hb := B.bytes
  have hr := B.returns
  have hts := atoms_spec (ws := wsX2_bytesBehind) B.pre
  have hown : s.vm.findClass RX2 = some m.cls := findClass_of_methodNamed B.named
  have hlocks := B.notSynchronized
  subst hsz
  have hD := hD0.self (sz := s.heap.size)
  generalize hAe : va_A [] s.heap.size = A at hD hO ⊢
  have hA : ∀ q : Nat, s.heap.size ≤ q → A q := fun q h => by rw [← hAe]; exact Or.inr h
  have ok := (okB tb)
  refine startH (A := A) (fun H locs hP hS => ?_) hP
  have f_9 := hts (.fieldLink RX2 9 "PageReader$Op" "BYTES_BEHIND" "[I") (by decide +kernel)
  have hl := lv_entry ([.int (nI k)]) (n := 1) (Nat.le_of_ble_eq_true rfl)
  rw [lg_entry_eq]
  generalize (lg_sl ([.int (nI k)]) ++ List.replicate (1 - (lg_sl ([.int (nI k)])).length) Slot.unset).toArray = ls at hl ⊢
  have hl : lv_has ls 1 [(0, .int (nI k))] := hl
  refine lv_iload_n hx hb dX2_bytesBehind_0 rfl (lv_at hl 0 rfl) ?_
  refine lv_sipush (v := nI 128) hx hb dX2_bytesBehind_1 (by decide) ?_
  refine lv_icmp_lt (tgt := 14) hx hb dX2_bytesBehind_4 (by decide) (fun c_1 => ?_) (fun c_1 => ?_)
  · skip
    have z_1 := (nI_ltI (a := k) (b := 128) (by omega) (by omega)).mp c_1
    refine lv_iconst (v := nI 0) hx hb dX2_bytesBehind_14 (by decide) ?_
    refine lv_goto (tgt := 27) hx hb dX2_bytesBehind_15 (by decide) ?_
    exact rI (v := nI 0) hx hb hr hlocks rfl hK hP hD hS [] () rfl (by decide) ⟨congrArg nI (show 0 = tbk k by unfold tbk; rw [if_neg (by (try dsimp only); omega)]), (tbk_in k).1⟩ dX2_bytesBehind_27
  · skip
    have z_1 := mt (nI_ltI (a := k) (b := 128) (by omega) (by omega)).mpr c_1
    refine lv_iload_n hx hb dX2_bytesBehind_7 rfl (lv_at hl 0 rfl) ?_
    refine lv_sipush (v := nI 169) hx hb dX2_bytesBehind_8 (by decide) ?_
    refine lv_icmp_le (tgt := 18) hx hb dX2_bytesBehind_11 (by decide) (fun c_2 => ?_) (fun c_2 => ?_)
    · skip
      have z_2 := (nI_leI (a := k) (b := 169) (by omega) (by omega)).mp c_2
      refine va_gets hx hb hO.1 hS hown f_9 (fun _ h9 => h9) dX2_bytesBehind_18 ?_
      refine lv_iload_n hx hb dX2_bytesBehind_21 rfl (lv_at hl 0 rfl) ?_
      refine lv_sipush (v := nI 128) hx hb dX2_bytesBehind_22 (by decide) ?_
      refine lv_isub hx hb dX2_bytesBehind_25 ?_
      refine tp (pk_sub (by omega)) ?_
      refine va_ti hx hb hO.2 hS (v := .int (nI (tbl (k - 128)))) (vp_in_nI (by omega) (by omega)) (by rw [nI_clamp (by omega)]) dX2_bytesBehind_26 ?_
      exact rI (v := nI (tbl (k - 128))) hx hb hr hlocks rfl hK hP hD hS [] () rfl (by decide) ⟨congrArg nI (tbk_v (by (try dsimp only); omega) (by (try dsimp only); omega)).symm, (tbk_in k).1⟩ dX2_bytesBehind_27
    · skip
      have z_2 := mt (nI_leI (a := k) (b := 169) (by omega) (by omega)).mpr c_2
      refine lv_iconst (v := nI 0) hx hb dX2_bytesBehind_14 (by decide) ?_
      refine lv_goto (tgt := 27) hx hb dX2_bytesBehind_15 (by decide) ?_
      exact rI (v := nI 0) hx hb hr hlocks rfl hK hP hD hS [] () rfl (by decide) ⟨congrArg nI (show 0 = tbk k by unfold tbk; rw [if_neg (by (try dsimp only); omega)]), (tbk_in k).1⟩ dX2_bytesBehind_27
set_option maxHeartbeats 4000000 in
set_option maxRecDepth 100000 in
theorem c_X0_commandLength (l : Launch) (G : va_G) (ci cz cl : ClassId) (q : Nat → Nat) (sz : Nat) (tb : Nat) (a : Nat) (n : Nat) (row : Nat → Int32) (hn : n ≤ 600) (ha : a ≤ 600) (hB : FB row) : CtI l yX0_commandLength wsX0_commandLength ({ frames := 1, cells := 0, slots := 0, locals := 21 }) G (TY ci cz cl) (OB tb) [.ref (q 1), .int (nI a)] [(q 1, .inr (0, [.ref (q 2), .int (nI n)])), aI ci (q 2) 600 row] sz (fun (r : Int32) (u : Unit) => r = nI (rdL row n a) ∧ rdL row n a ≤ 12) (fun u : Unit => [(q 1, .inr (0, [.ref (q 2), .int (nI n)])), aI ci (q 2) 600 row]) 0 0 := by
  refine Met.ofW (cc := cX0_commandLength) (maxL := 3) (ret := (some .int)) (by decide) rfl ?_
  intro p e s m args below meth c s₁ B hml hv
  obtain ⟨rfl, ⟨hsz, hP, hK, hD0⟩, hO⟩ := hv
  have hx := B.exec
  have hb := B.bytes
  have hr := B.returns
  have hts := atoms_spec (ws := wsX0_commandLength) B.pre
  have hown : s.vm.findClass RX0 = some m.cls := findClass_of_methodNamed B.named
  have hlocks := B.notSynchronized
  subst hsz
  have hD := hD0.self (sz := s.heap.size)
  generalize hAe : va_A [(q 1, .inr (0, [.ref (q 2), .int (nI n)])), aI ci (q 2) 600 row] s.heap.size = A at hD hO ⊢
  have hA : ∀ q : Nat, s.heap.size ≤ q → A q := fun q h => by rw [← hAe]; exact Or.inr h
  have ok := (okB tb)
  refine startH (A := A) (fun H locs hP hS => ?_) hP
  have hi_X0 := (by decide +kernel : ∀ w ∈ wsX00, w ∈ wsX0_commandLength)
  have f_13 := hts (.fieldLink RX0 13 "PageReader$Bytes" "count" "I") (by decide +kernel)
  have hl := lv_entry ([.ref (q 1), .int (nI a)]) (n := 3) (Nat.le_of_ble_eq_true rfl)
  rw [lg_entry_eq]
  generalize (lg_sl ([.ref (q 1), .int (nI a)]) ++ List.replicate (3 - (lg_sl ([.ref (q 1), .int (nI a)])).length) Slot.unset).toArray = ls at hl ⊢
  have hl : lv_has ls 3 [(0, .ref (q 1)), (1, .int (nI a))] := hl
  refine lv_aload_n hx hb dX0_commandLength_0 rfl (lv_at hl 0 rfl) ?_
  refine lv_iload_n hx hb dX0_commandLength_1 rfl (lv_at hl 1 rfl) ?_
  refine jI (va_runV (As := [.int (nI a)]) (rest := []) ⟨hx, hb, hml, hown, hts⟩ (c_X0_at l G ci cz cl q H.size a n row (by omega) (by omega) hB) (cwV 1 hts gX0_commandLength_X0_at rfl rfl rfl (by decide +kernel) ⟨(Nat.le_of_ble_eq_true rfl), (Nat.le_of_ble_eq_true rfl)⟩) (pV (wc := [(q 1, .inr (0, [.ref (q 2), .int (nI n)])), aI ci (q 2) 600 row]) ok0 hK hP hD hS hA trivial [0, 1] rfl (by decide) 0 rfl rfl) rfl rfl hl.1 rfl (lv_room (Nat.le_of_ble_eq_true rfl)) dX0_commandLength_2 ⟨(Nat.le_of_ble_eq_true rfl), (Nat.le_of_ble_eq_true rfl)⟩) (wr := []) hP hD hS hA [0, 1] [] rfl rfl (by decide) (by decide) (fun r_1 u H locs hw_1 hP hD hS => ?_)
  try dsimp only at hw_1
  obtain ⟨rfl, h_1⟩ := hw_1
  have hP : va_P G vwCl [(q 1, .inr (0, [.ref (q 2), .int (nI n)])), aI ci (q 2) 600 row] H := hP
  have hD : va_D A [(q 1, .inr (0, [.ref (q 2), .int (nI n)])), aI ci (q 2) 600 row] := hD
  refine lv_sipush (v := nI 169) hx hb dX0_commandLength_5 (by decide) ?_
  refine lv_icmp_le (tgt := 13) hx hb dX0_commandLength_8 (by decide) (fun c_2 => ?_) (fun c_2 => ?_)
  · skip
    have z_2 := (nI_leI (a := (rdB row n a)) (b := 169) (by omega) (by omega)).mp c_2
    refine lv_iconst (v := nI 1) hx hb dX0_commandLength_13 (by decide) ?_
    refine lv_aload_n hx hb dX0_commandLength_14 rfl (lv_at hl 0 rfl) ?_
    refine lv_iload_n hx hb dX0_commandLength_15 rfl (lv_at hl 1 rfl) ?_
    refine jI (va_runV (As := [.int (nI a)]) (rest := [.int (nI 1)]) ⟨hx, hb, hml, hown, hts⟩ (c_X0_at l G ci cz cl q H.size a n row (by omega) (by omega) hB) (cwV 1 hts gX0_commandLength_X0_at rfl rfl rfl (by decide +kernel) ⟨(Nat.le_of_ble_eq_true rfl), (Nat.le_of_ble_eq_true rfl)⟩) (pV (wc := [(q 1, .inr (0, [.ref (q 2), .int (nI n)])), aI ci (q 2) 600 row]) ok0 hK hP hD hS hA trivial [0, 1] rfl (by decide) 0 rfl rfl) rfl rfl hl.1 rfl (lv_room (Nat.le_of_ble_eq_true rfl)) dX0_commandLength_16 ⟨(Nat.le_of_ble_eq_true rfl), (Nat.le_of_ble_eq_true rfl)⟩) (wr := []) hP hD hS hA [0, 1] [] rfl rfl (by decide) (by decide) (fun r_3 u H locs hw_3 hP hD hS => ?_)
    try dsimp only at hw_3
    obtain ⟨rfl, h_3⟩ := hw_3
    have hP : va_P G vwCl [(q 1, .inr (0, [.ref (q 2), .int (nI n)])), aI ci (q 2) 600 row] H := hP
    have hD : va_D A [(q 1, .inr (0, [.ref (q 2), .int (nI n)])), aI ci (q 2) 600 row] := hD
    refine jI (va_runS (As := [.int (nI (rdB row n a))]) (rest := [.int (nI 1)]) ⟨hx, hb, hml, hown, hts⟩ (c_X2_bytesBehind l G ci cz cl q H.size tb (rdB row n a) (by omega)) (va_cwS 1 hts gX0_commandLength_X2_bytesBehind rfl rfl rfl (by decide +kernel) ⟨(Nat.le_of_ble_eq_true rfl), (Nat.le_of_ble_eq_true rfl)⟩) (pS (wc := []) ok hK hP hD hS hA hO [] rfl (by decide)) rfl rfl hl.1 rfl (lv_room (Nat.le_of_ble_eq_true rfl)) dX0_commandLength_19 ⟨(Nat.le_of_ble_eq_true rfl), (Nat.le_of_ble_eq_true rfl)⟩) (wr := [(q 1, .inr (0, [.ref (q 2), .int (nI n)])), aI ci (q 2) 600 row]) hP hD hS hA [] [0, 1] rfl rfl (by decide) (by decide) (fun r_4 u H locs hw_4 hP hD hS => ?_)
    try dsimp only at hw_4
    obtain ⟨rfl, h_4⟩ := hw_4
    have hP : va_P G vwCl [(q 1, .inr (0, [.ref (q 2), .int (nI n)])), aI ci (q 2) 600 row] H := hP
    have hD : va_D A [(q 1, .inr (0, [.ref (q 2), .int (nI n)])), aI ci (q 2) 600 row] := hD
    refine lv_iadd hx hb dX0_commandLength_22 ?_
    refine tp (nI_add _ _) ?_
    refine lv_istore_n (lv' := [(2, .int (nI (1 + (tbk (rdB row n a))))), (0, .ref (q 1)), (1, .int (nI a))]) hx hb dX0_commandLength_23 rfl hl (by decide) rfl (fun ls hl => ?_)
    refine lv_iload_n hx hb dX0_commandLength_24 rfl (lv_at hl 2 rfl) ?_
    refine lv_iload_n hx hb dX0_commandLength_25 rfl (lv_at hl 0 rfl) ?_
    refine lv_iadd hx hb dX0_commandLength_26 ?_
    refine tp (nI_add _ _) ?_
    refine lv_aload_n hx hb dX0_commandLength_27 rfl (lv_at hl 1 rfl) ?_
    refine va_get (D := G) (ci := 0) (v := .int (nI n)) (C := RX0) (T := TX0) (N := 2) hx hb hts hi_X0 hown hK hP 0 rfl rfl 1 (by decide) f_13 (fun _ h9 => h9) rfl dX0_commandLength_28 ?_
    refine lv_icmp_gt (tgt := 38) hx hb dX0_commandLength_31 (by decide) (fun c_5 => ?_) (fun c_5 => ?_)
    · skip
      have z_5 := (nI_ltI (a := n) (b := (a + (1 + (tbk (rdB row n a))))) (by omega) (by omega)).mp c_5
      refine lv_iconst (v := nI 0) hx hb dX0_commandLength_38 (by decide) ?_
      exact rI (v := nI 0) hx hb hr hlocks rfl hK hP hD hS [0, 1] () rfl (by decide) ⟨congrArg nI (by unfold rdL; (repeat' split) <;> omega), rdL_in.1⟩ dX0_commandLength_39
    · skip
      have z_5 := mt (nI_ltI (a := n) (b := (a + (1 + (tbk (rdB row n a))))) (by omega) (by omega)).mpr c_5
      refine lv_iload_n hx hb dX0_commandLength_34 rfl (lv_at hl 0 rfl) ?_
      refine lv_goto (tgt := 39) hx hb dX0_commandLength_35 (by decide) ?_
      exact rI (v := nI (1 + (tbk (rdB row n a)))) hx hb hr hlocks rfl hK hP hD hS [0, 1] () rfl (by decide) ⟨congrArg nI (by unfold rdL; (repeat' split) <;> omega), rdL_in.1⟩ dX0_commandLength_39
  · skip
    have z_2 := mt (nI_leI (a := (rdB row n a)) (b := 169) (by omega) (by omega)).mpr c_2
    refine lv_iconst (v := nI 0) hx hb dX0_commandLength_11 (by decide) ?_
    exact rI (v := nI 0) hx hb hr hlocks rfl hK hP hD hS [0, 1] () rfl (by decide) ⟨congrArg nI (by unfold rdL; (repeat' split) <;> omega), rdL_in.1⟩ dX0_commandLength_12
set_option maxHeartbeats 4000000 in
set_option maxRecDepth 100000 in
theorem c_X0_endsWell (l : Launch) (G : va_G) (ci cz cl : ClassId) (q : Nat → Nat) (sz : Nat) (a : Nat) (n : Nat) (row : Nat → Int32) (hn : n ≤ 600) (ha : a ≤ 650) (hB : FB row) : CtI l yX0_endsWell wsX0_endsWell ({ frames := 1, cells := 0, slots := 0, locals := 21 }) G (TY ci cz cl) O0 [.ref (q 1), .int (nI a)] [(q 1, .inr (0, [.ref (q 2), .int (nI n)])), aI ci (q 2) 600 row] sz (fun (r : Int32) (u : Nat) => r = nI u ∧ ((u = 1 ∧ EW row n a) ∨ (u = 0 ∧ ¬ EW row n a))) (fun u : Nat => [(q 1, .inr (0, [.ref (q 2), .int (nI n)])), aI ci (q 2) 600 row]) 0 0 := by
  refine Met.ofW (cc := cX0_endsWell) (maxL := 3) (ret := (some .boolean)) (by decide) rfl ?_
  intro p e s m args below meth c s₁ B hml hv
  obtain ⟨rfl, ⟨hsz, hP, hK, hD0⟩, hO⟩ := hv
  have hx := B.exec
  have hb := B.bytes
  have hr := B.returns
  have hts := atoms_spec (ws := wsX0_endsWell) B.pre
  have hown : s.vm.findClass RX0 = some m.cls := findClass_of_methodNamed B.named
  have hlocks := B.notSynchronized
  subst hsz
  have hD := hD0.self (sz := s.heap.size)
  generalize hAe : va_A [(q 1, .inr (0, [.ref (q 2), .int (nI n)])), aI ci (q 2) 600 row] s.heap.size = A at hD hO ⊢
  have hA : ∀ q : Nat, s.heap.size ≤ q → A q := fun q h => by rw [← hAe]; exact Or.inr h
  have ok := ok0
  refine startH (A := A) (fun H locs hP hS => ?_) hP
  have hi_X0 := (by decide +kernel : ∀ w ∈ wsX00, w ∈ wsX0_endsWell)
  have f_13 := hts (.fieldLink RX0 13 "PageReader$Bytes" "count" "I") (by decide +kernel)
  have hl := lv_entry ([.ref (q 1), .int (nI a)]) (n := 3) (Nat.le_of_ble_eq_true rfl)
  rw [lg_entry_eq]
  generalize (lg_sl ([.ref (q 1), .int (nI a)]) ++ List.replicate (3 - (lg_sl ([.ref (q 1), .int (nI a)])).length) Slot.unset).toArray = ls at hl ⊢
  have hl : lv_has ls 3 [(0, .ref (q 1)), (1, .int (nI a))] := hl
  refine lv_aload_n hx hb dX0_endsWell_0 rfl (lv_at hl 0 rfl) ?_
  refine va_get (D := G) (ci := 0) (v := .int (nI n)) (C := RX0) (T := TX0) (N := 2) hx hb hts hi_X0 hown hK hP 0 rfl rfl 1 (by decide) f_13 (fun _ h9 => h9) rfl dX0_endsWell_1 ?_
  refine lv_iload_n hx hb dX0_endsWell_4 rfl (lv_at hl 1 rfl) ?_
  refine lv_isub hx hb dX0_endsWell_5 ?_
  refine lv_iconst (v := nI 4) hx hb dX0_endsWell_6 (by decide) ?_
  refine lv_icmp_lt (tgt := 19) hx hb dX0_endsWell_7 (by decide) (fun c_1 => ?_) (fun c_1 => ?_)
  · skip
    have z_1 := (i_lt ((nI n) - (nI a)) (nI 4)).mp c_1
    rw [nI_toInt (n := 4) (by omega)] at z_1
    try rw [pk_sub_toInt (by omega) (by omega)] at z_1
    refine lv_iconst (v := nI 0) hx hb dX0_endsWell_19 (by decide) ?_
    exact rI (v := nI 0) hx hb hr hlocks nb0 hK hP hD hS [0, 1] 0 rfl (by decide) ⟨rfl, Or.inr ⟨rfl, fun h => by have h1 := h.1; have h2 := h.2.1; omega⟩⟩ dX0_endsWell_20
  · skip
    have z_1 := mt (i_lt ((nI n) - (nI a)) (nI 4)).mpr c_1
    rw [nI_toInt (n := 4) (by omega)] at z_1
    rw [pk_sub_toInt (by omega) (by omega)] at z_1
    refine lv_aload_n hx hb dX0_endsWell_10 rfl (lv_at hl 0 rfl) ?_
    refine va_get (D := G) (ci := 0) (v := .int (nI n)) (C := RX0) (T := TX0) (N := 2) hx hb hts hi_X0 hown hK hP 0 rfl rfl 1 (by decide) f_13 (fun _ h9 => h9) rfl dX0_endsWell_11 ?_
    refine lv_iconst (v := nI 4) hx hb dX0_endsWell_14 (by decide) ?_
    refine lv_irem hx hb dX0_endsWell_15 (by decide) ?_
    refine tp (pk_rem (by omega) (by omega) (by omega)) ?_
    refine lv_if_eq (tgt := 21) hx hb dX0_endsWell_16 (by decide) (fun c_2 => ?_) (fun c_2 => ?_)
    · skip
      have z_2 := (nI_eq (a := (n % 4)) (b := 0) (by omega) (by omega)).mp c_2
      refine lv_iload_n hx hb dX0_endsWell_21 rfl (lv_at hl 1 rfl) ?_
      refine lv_istore_n (lv' := [(2, .int (nI a)), (0, .ref (q 1)), (1, .int (nI a))]) hx hb dX0_endsWell_22 rfl hl (by decide) rfl (fun ls hl => ?_)
      have loop_23 : ∀ (fuel : Nat) (i : Nat) (H : Heap) (locs : List Loc), n - i < fuel → (a ≤ i ∧ i ≤ 700) → (EWl row a i) → va_P G vwCl [(q 1, .inr (0, [.ref (q 2), .int (nI n)])), aI ci (q 2) 600 row] H → va_D A [(q 1, .inr (0, [.ref (q 2), .int (nI n)])), aI ci (q 2) 600 row] → va_S A s.heap H locs → ∀ ls : Array Slot, lv_has ls 3 [(0, .ref (q 1)), (1, .int (nI a)), (2, .int (nI i))] → W p l e (headSpec wsX0_endsWell ({ frames := 1, cells := 0, slots := 0, locals := 21 })).room s m ([.ref (q 1), .int (nI a)] : List Value).toArray below meth c H locs 0 0 (MQ below (va_Qi (fun (r : Int32) (u : Nat) => r = nI u ∧ ((u = 1 ∧ EW row n a) ∨ (u = 0 ∧ ¬ EW row n a))) (fun u t => PQ G (TY ci cz cl) A [(q 1, .inr (0, [.ref (q 2), .int (nI n)])), aI ci (q 2) 600 row] t) A) ([.ref (q 1), .int (nI a)] : List Value).toArray s 0 0 A) (F0 m 23 ls []) := by
        intro fuel
        induction fuel with
        | zero => intro i H locs hf; exact absurd hf (by omega)
        | succ fuel ih =>
          intro i H locs hf hi hs hP hD hS ls hl
          refine lv_iload_n hx hb dX0_endsWell_23 rfl (lv_at hl 2 rfl) ?_
          refine lv_aload_n hx hb dX0_endsWell_24 rfl (lv_at hl 0 rfl) ?_
          refine va_get (D := G) (ci := 0) (v := .int (nI n)) (C := RX0) (T := TX0) (N := 2) hx hb hts hi_X0 hown hK hP 0 rfl rfl 1 (by decide) f_13 (fun _ h9 => h9) rfl dX0_endsWell_25 ?_
          refine lv_icmp_ge (tgt := 50) hx hb dX0_endsWell_28 (by decide) (fun c_3 => ?_) (fun c_3 => ?_)
          · skip
            have z_3 := (nI_leI (a := n) (b := i) (by omega) (by omega)).mp c_3
            refine lv_iconst (v := nI 1) hx hb dX0_endsWell_50 (by decide) ?_
            exact rI (v := nI 1) hx hb hr hlocks nb1 hK hP hD hS [0, 1] 1 rfl (by decide) ⟨rfl, Or.inl ⟨rfl, EW_mk (by (try dsimp only); omega) (by (try dsimp only); omega) (fun j h1 h2 => hs j h1 (by (try dsimp only); omega))⟩⟩ dX0_endsWell_51
          · skip
            have z_3 := mt (nI_leI (a := n) (b := i) (by omega) (by omega)).mpr c_3
            refine lv_aload_n hx hb dX0_endsWell_31 rfl (lv_at hl 0 rfl) ?_
            refine lv_iload_n hx hb dX0_endsWell_32 rfl (lv_at hl 2 rfl) ?_
            refine jI (va_runV (As := [.int (nI i)]) (rest := []) ⟨hx, hb, hml, hown, hts⟩ (c_X0_at l G ci cz cl q H.size i n row (by omega) (by omega) hB) (cwV 1 hts gX0_endsWell_X0_at rfl rfl rfl (by decide +kernel) ⟨(Nat.le_of_ble_eq_true rfl), (Nat.le_of_ble_eq_true rfl)⟩) (pV (wc := [(q 1, .inr (0, [.ref (q 2), .int (nI n)])), aI ci (q 2) 600 row]) ok hK hP hD hS hA hO [0, 1] rfl (by decide) 0 rfl rfl) rfl rfl hl.1 rfl (lv_room (Nat.le_of_ble_eq_true rfl)) dX0_endsWell_33 ⟨(Nat.le_of_ble_eq_true rfl), (Nat.le_of_ble_eq_true rfl)⟩) (wr := []) hP hD hS hA [0, 1] [] rfl rfl (by decide) (by decide) (fun r_4 u H locs hw_4 hP hD hS => ?_)
            try dsimp only at hw_4
            obtain ⟨rfl, h_4⟩ := hw_4
            have hP : va_P G vwCl [(q 1, .inr (0, [.ref (q 2), .int (nI n)])), aI ci (q 2) 600 row] H := hP
            have hD : va_D A [(q 1, .inr (0, [.ref (q 2), .int (nI n)])), aI ci (q 2) 600 row] := hD
            refine lv_sipush (v := nI 223) hx hb dX0_endsWell_36 (by decide) ?_
            refine lv_icmp_eq (tgt := 44) hx hb dX0_endsWell_39 (by decide) (fun c_5 => ?_) (fun c_5 => ?_)
            · skip
              have z_5 := (nI_eq (a := (rdB row n i)) (b := 223) (by omega) (by omega)).mp c_5
              refine lv_iinc (v := nI (i + 1)) (lv' := [(2, .int (nI (i + 1))), (0, .ref (q 1)), (1, .int (nI a))]) hx hb dX0_endsWell_44 hl (k := 2) rfl (nI_add _ _) (by decide) rfl (fun ls hl => ?_)
              refine lv_goto (tgt := 23) hx hb dX0_endsWell_47 (by decide) ?_
              exact ih (i + 1) H locs (by omega) (by omega) (EWl_s (n := n) hs (by omega) (by omega)) (hP.sub [0, 1] rfl) (hD.sub [0, 1] (by decide) rfl) hS ls (lv_sub hl [1, 2, 0] rfl)
            · skip
              have z_5 := mt (nI_eq (a := (rdB row n i)) (b := 223) (by omega) (by omega)).mpr c_5
              refine lv_iconst (v := nI 0) hx hb dX0_endsWell_42 (by decide) ?_
              exact rI (v := nI 0) hx hb hr hlocks nb0 hK hP hD hS [0, 1] 0 rfl (by decide) ⟨rfl, Or.inr ⟨rfl, EW_no (i := i) (by (try dsimp only); omega) (by (try dsimp only); omega) (by (try dsimp only); omega)⟩⟩ dX0_endsWell_43
      exact loop_23 (n - a + 1) a H locs (Nat.lt_succ_self _) (by omega) EWl_0 (hP.sub [0, 1] rfl) (hD.sub [0, 1] (by decide) rfl) hS ls (lv_sub hl [1, 2, 0] rfl)
    · skip
      have z_2 := mt (nI_eq (a := (n % 4)) (b := 0) (by omega) (by omega)).mpr c_2
      try rw [pk_sub_toInt (by omega) (by omega)] at z_1
      refine lv_iconst (v := nI 0) hx hb dX0_endsWell_19 (by decide) ?_
      exact rI (v := nI 0) hx hb hr hlocks nb0 hK hP hD hS [0, 1] 0 rfl (by decide) ⟨rfl, Or.inr ⟨rfl, fun h => by have h1 := h.1; have h2 := h.2.1; omega⟩⟩ dX0_endsWell_20
set_option maxHeartbeats 4000000 in
set_option maxRecDepth 100000 in
theorem c_X0_drop (l : Launch) (G : va_G) (ci cz cl : ClassId) (q : Nat → Nat) (sz : Nat) (x : Int32) (n : Nat) (row : Nat → Int32) (hn : n ≤ 600) : CtI l yX0_drop wsX0_drop ({ frames := 0, cells := 0, slots := 0, locals := 0 }) G (TY ci cz cl) O0 [.ref (q 1), .int x] [(q 1, .inr (0, [.ref (q 2), .int (nI n)])), aI ci (q 2) 600 row] sz (fun (r : Int32) (u : Nat × Nat) => r = nI u.1 ∧ ((u.1 = 1 ∧ ∃ k : Nat, x = nI k ∧ k ≤ n ∧ u.2 = n - k) ∨ (u.1 = 0 ∧ ¬ (0 ≤ x.toInt ∧ x.toInt ≤ n) ∧ u.2 = n))) (fun u : Nat × Nat => [(q 1, .inr (0, [.ref (q 2), .int (nI u.2)])), aI ci (q 2) 600 row]) 0 0 := by
  refine Met.ofW (cc := cX0_drop) (maxL := 2) (ret := (some .boolean)) (by decide) rfl ?_
  intro p e s m args below meth c s₁ B hml hv
  obtain ⟨rfl, ⟨hsz, hP, hK, hD0⟩, hO⟩ := hv
  have hx := B.exec
  have hb := B.bytes
  have hr := B.returns
  have hts := atoms_spec (ws := wsX0_drop) B.pre
  have hown : s.vm.findClass RX0 = some m.cls := findClass_of_methodNamed B.named
  have hlocks := B.notSynchronized
  subst hsz
  have hD := hD0.self (sz := s.heap.size)
  generalize hAe : va_A [(q 1, .inr (0, [.ref (q 2), .int (nI n)])), aI ci (q 2) 600 row] s.heap.size = A at hD hO ⊢
  have hA : ∀ q : Nat, s.heap.size ≤ q → A q := fun q h => by rw [← hAe]; exact Or.inr h
  have ok := ok0
  refine startH (A := A) (fun H locs hP hS => ?_) hP
  have hi_X0 := (by decide +kernel : ∀ w ∈ wsX00, w ∈ wsX0_drop)
  have f_13 := hts (.fieldLink RX0 13 "PageReader$Bytes" "count" "I") (by decide +kernel)
  have hl := lv_entry ([.ref (q 1), .int x]) (n := 2) (Nat.le_of_ble_eq_true rfl)
  rw [lg_entry_eq]
  generalize (lg_sl ([.ref (q 1), .int x]) ++ List.replicate (2 - (lg_sl ([.ref (q 1), .int x])).length) Slot.unset).toArray = ls at hl ⊢
  have hl : lv_has ls 2 [(0, .ref (q 1)), (1, .int x)] := hl
  refine lv_iload_n hx hb dX0_drop_0 rfl (lv_at hl 1 rfl) ?_
  refine lv_if_lt (tgt := 12) hx hb dX0_drop_1 (by decide) (fun c_1 => ?_) (fun c_1 => ?_)
  · skip
    have z_1 := (i_lt x (nI 0)).mp c_1
    rw [nI_toInt (n := 0) (by omega)] at z_1
    refine lv_iconst (v := nI 0) hx hb dX0_drop_12 (by decide) ?_
    exact rI (v := nI 0) hx hb hr hlocks nb0 hK hP hD hS [0, 1] (0, n) rfl (by decide) ⟨rfl, Or.inr ⟨rfl, by (try dsimp only); omega, rfl⟩⟩ dX0_drop_13
  · skip
    have z_1 := mt (i_lt x (nI 0)).mpr c_1
    rw [nI_toInt (n := 0) (by omega)] at z_1
    refine lv_iload_n hx hb dX0_drop_4 rfl (lv_at hl 1 rfl) ?_
    refine lv_aload_n hx hb dX0_drop_5 rfl (lv_at hl 0 rfl) ?_
    refine va_get (D := G) (ci := 0) (v := .int (nI n)) (C := RX0) (T := TX0) (N := 2) hx hb hts hi_X0 hown hK hP 0 rfl rfl 1 (by decide) f_13 (fun _ h9 => h9) rfl dX0_drop_6 ?_
    refine lv_icmp_le (tgt := 14) hx hb dX0_drop_9 (by decide) (fun c_2 => ?_) (fun c_2 => ?_)
    · skip
      have z_2 := (i_le x (nI n)).mp c_2
      rw [nI_toInt (n := n) (by omega)] at z_2
      refine lv_aload_n hx hb dX0_drop_14 rfl (lv_at hl 0 rfl) ?_
      refine lv_dup hx hb dX0_drop_15 rfl ?_
      refine va_get (D := G) (ci := 0) (v := .int (nI n)) (C := RX0) (T := TX0) (N := 2) hx hb hts hi_X0 hown hK hP 0 rfl rfl 1 (by decide) f_13 (fun _ h9 => h9) rfl dX0_drop_16 ?_
      refine lv_iload_n hx hb dX0_drop_19 rfl (lv_at hl 1 rfl) ?_
      obtain ⟨k, hk, ek, ek2⟩ := i_nonneg (x := x) (by omega)
      refine tp (y := nI k) ek ?_
      refine lv_isub hx hb dX0_drop_20 ?_
      refine tp (pk_sub (by omega)) ?_
      refine va_put (D := G) (ci := 0) (v := .int (nI (n - k))) (ty := .int) (C := RX0) (T := TX0) (N := 2) hx hb hts hi_X0 tyX0 tyX0_ok nmX0 hown hK hP hD hS 0 rfl rfl 1 (by decide) f_13 (fun _ h9 => h9) rfl (by decide +kernel) rfl rfl (Nat.le_of_ble_eq_true rfl) dX0_drop_21 (fun H locs hP hD hS => ?_)
      have hP : va_P G vwCl [(q 1, .inr (0, [.ref (q 2), .int (nI (n - k))])), aI ci (q 2) 600 row] H := hP
      have hD : va_D A [(q 1, .inr (0, [.ref (q 2), .int (nI (n - k))])), aI ci (q 2) 600 row] := hD
      refine lv_iconst (v := nI 1) hx hb dX0_drop_24 (by decide) ?_
      exact rI (v := nI 1) hx hb hr hlocks nb1 hK hP hD hS [0, 1] (1, n - k) rfl (by decide) ⟨rfl, Or.inl ⟨rfl, k, ek, by (try dsimp only); omega, rfl⟩⟩ dX0_drop_25
    · skip
      have z_2 := mt (i_le x (nI n)).mpr c_2
      rw [nI_toInt (n := n) (by omega)] at z_2
      refine lv_iconst (v := nI 0) hx hb dX0_drop_12 (by decide) ?_
      exact rI (v := nI 0) hx hb hr hlocks nb0 hK hP hD hS [0, 1] (0, n) rfl (by decide) ⟨rfl, Or.inr ⟨rfl, by (try dsimp only); omega, rfl⟩⟩ dX0_drop_13
set_option maxHeartbeats 4000000 in
set_option maxRecDepth 100000 in
theorem c_X0_append (l : Launch) (G : va_G) (ci cz cl : ClassId) (q : Nat → Nat) (sz : Nat) (bl : Int64) (k : Nat) (n : Nat) (row : Nat → Int32) (hn : n ≤ 600) (hk : 1 ≤ k ∧ k ≤ 8) : CtI l yX0_append wsX0_append ({ frames := 0, cells := 0, slots := 0, locals := 0 }) G (TY ci cz cl) O0 [.ref (q 1), .long bl, .int (nI k)] [(q 1, .inr (0, [.ref (q 2), .int (nI n)])), aI ci (q 2) 600 row] sz (fun (r : Int32) (u : Nat × Nat × (Nat → Int32)) => r = nI u.1 ∧ ((u.1 = 1 ∧ n + k ≤ 600 ∧ u.2.1 = n + k ∧ u.2.2 = bApp row n bl k) ∨ (u.1 = 0 ∧ 600 < n + k ∧ u.2.1 = n ∧ u.2.2 = row))) (fun u : Nat × Nat × (Nat → Int32) => [(q 1, .inr (0, [.ref (q 2), .int (nI u.2.1)])), aI ci (q 2) 600 u.2.2]) 0 0 := by
  refine Met.ofW (cc := cX0_append) (maxL := 5) (ret := (some .boolean)) (by decide) rfl ?_
  intro p e s m args below meth c s₁ B hml hv
  obtain ⟨rfl, ⟨hsz, hP, hK, hD0⟩, hO⟩ := hv
  have hx := B.exec
  have hb := B.bytes
  have hr := B.returns
  have hts := atoms_spec (ws := wsX0_append) B.pre
  have hown : s.vm.findClass RX0 = some m.cls := findClass_of_methodNamed B.named
  have hlocks := B.notSynchronized
  subst hsz
  have hD := hD0.self (sz := s.heap.size)
  generalize hAe : va_A [(q 1, .inr (0, [.ref (q 2), .int (nI n)])), aI ci (q 2) 600 row] s.heap.size = A at hD hO ⊢
  have hA : ∀ q : Nat, s.heap.size ≤ q → A q := fun q h => by rw [← hAe]; exact Or.inr h
  have ok := ok0
  refine startH (A := A) (fun H locs hP hS => ?_) hP
  have hi_X0 := (by decide +kernel : ∀ w ∈ wsX00, w ∈ wsX0_append)
  have f_13 := hts (.fieldLink RX0 13 "PageReader$Bytes" "count" "I") (by decide +kernel)
  have f_9 := hts (.fieldLink RX0 9 "PageReader$Bytes" "row" "[I") (by decide +kernel)
  have hl := lv_entry ([.ref (q 1), .long bl, .int (nI k)]) (n := 5) (Nat.le_of_ble_eq_true rfl)
  rw [lg_entry_eq]
  generalize (lg_sl ([.ref (q 1), .long bl, .int (nI k)]) ++ List.replicate (5 - (lg_sl ([.ref (q 1), .long bl, .int (nI k)])).length) Slot.unset).toArray = ls at hl ⊢
  have hl : lv_has ls 5 [(0, .ref (q 1)), (1, .long bl), (3, .int (nI k))] := hl
  refine lv_iload_n hx hb dX0_append_0 rfl (lv_at hl 2 rfl) ?_
  refine lv_if_lt (tgt := 22) hx hb dX0_append_1 (by decide) (fun c_1 => ?_) (fun c_1 => ?_)
  · skip
    have z_1 := (nI_ltI (a := k) (b := 0) (by omega) (by omega)).mp c_1
    exfalso; omega
  · skip
    have z_1 := mt (nI_ltI (a := k) (b := 0) (by omega) (by omega)).mpr c_1
    refine lv_iload_n hx hb dX0_append_4 rfl (lv_at hl 2 rfl) ?_
    refine lv_bipush (v := nI 8) hx hb dX0_append_5 (by decide) ?_
    refine lv_icmp_gt (tgt := 22) hx hb dX0_append_7 (by decide) (fun c_2 => ?_) (fun c_2 => ?_)
    · skip
      have z_2 := (nI_ltI (a := 8) (b := k) (by omega) (by omega)).mp c_2
      exfalso; omega
    · skip
      have z_2 := mt (nI_ltI (a := 8) (b := k) (by omega) (by omega)).mpr c_2
      refine lv_aload_n hx hb dX0_append_10 rfl (lv_at hl 0 rfl) ?_
      refine va_get (D := G) (ci := 0) (v := .int (nI n)) (C := RX0) (T := TX0) (N := 2) hx hb hts hi_X0 hown hK hP 0 rfl rfl 1 (by decide) f_13 (fun _ h9 => h9) rfl dX0_append_11 ?_
      refine lv_iload_n hx hb dX0_append_14 rfl (lv_at hl 2 rfl) ?_
      refine lv_iadd hx hb dX0_append_15 ?_
      refine tp (nI_add _ _) ?_
      refine lv_sipush (v := nI 600) hx hb dX0_append_16 (by decide) ?_
      refine lv_icmp_le (tgt := 24) hx hb dX0_append_19 (by decide) (fun c_3 => ?_) (fun c_3 => ?_)
      · skip
        have z_3 := (nI_leI (a := (n + k)) (b := 600) (by omega) (by omega)).mp c_3
        refine lv_iconst (v := nI 0) hx hb dX0_append_24 (by decide) ?_
        refine lv_istore (lv' := [(4, .int (nI 0)), (0, .ref (q 1)), (1, .long bl), (3, .int (nI k))]) hx hb dX0_append_25 hl (by decide) rfl (fun ls hl => ?_)
        have loop_27 : ∀ (fuel : Nat) (i : Nat) (H : Heap) (locs : List Loc), k - i < fuel → (i ≤ k) → va_P G vwCl [(q 1, .inr (0, [.ref (q 2), .int (nI n)])), aI ci (q 2) 600 (bApp row n bl i)] H → va_D A [(q 1, .inr (0, [.ref (q 2), .int (nI n)])), aI ci (q 2) 600 (bApp row n bl i)] → va_S A s.heap H locs → ∀ ls : Array Slot, lv_has ls 5 [(0, .ref (q 1)), (1, .long bl), (3, .int (nI k)), (4, .int (nI i))] → W p l e (headSpec wsX0_append ({ frames := 0, cells := 0, slots := 0, locals := 0 })).room s m ([.ref (q 1), .long bl, .int (nI k)] : List Value).toArray below meth c H locs 0 0 (MQ below (va_Qi (fun (r : Int32) (u : Nat × Nat × (Nat → Int32)) => r = nI u.1 ∧ ((u.1 = 1 ∧ n + k ≤ 600 ∧ u.2.1 = n + k ∧ u.2.2 = bApp row n bl k) ∨ (u.1 = 0 ∧ 600 < n + k ∧ u.2.1 = n ∧ u.2.2 = row))) (fun u t => PQ G (TY ci cz cl) A [(q 1, .inr (0, [.ref (q 2), .int (nI u.2.1)])), aI ci (q 2) 600 u.2.2] t) A) ([.ref (q 1), .long bl, .int (nI k)] : List Value).toArray s 0 0 A) (F0 m 27 ls []) := by
          intro fuel
          induction fuel with
          | zero => intro i H locs hf; exact absurd hf (by omega)
          | succ fuel ih =>
            intro i H locs hf hi hP hD hS ls hl
            refine lv_iload hx hb dX0_append_27 (lv_at hl 3 rfl) ?_
            refine lv_iload_n hx hb dX0_append_29 rfl (lv_at hl 2 rfl) ?_
            refine lv_icmp_ge (tgt := 63) hx hb dX0_append_30 (by decide) (fun c_4 => ?_) (fun c_4 => ?_)
            · skip
              have z_4 := (nI_leI (a := k) (b := i) (by omega) (by omega)).mp c_4
              have e_i : i = k := by omega
              refine lv_aload_n hx hb dX0_append_63 rfl (lv_at hl 0 rfl) ?_
              refine lv_dup hx hb dX0_append_64 rfl ?_
              refine va_get (D := G) (ci := 0) (v := .int (nI n)) (C := RX0) (T := TX0) (N := 2) hx hb hts hi_X0 hown hK hP 0 rfl rfl 1 (by decide) f_13 (fun _ h9 => h9) rfl dX0_append_65 ?_
              refine lv_iload_n hx hb dX0_append_68 rfl (lv_at hl 2 rfl) ?_
              refine lv_iadd hx hb dX0_append_69 ?_
              refine tp (nI_add _ _) ?_
              refine va_put (D := G) (ci := 0) (v := .int (nI (n + k))) (ty := .int) (C := RX0) (T := TX0) (N := 2) hx hb hts hi_X0 tyX0 tyX0_ok nmX0 hown hK hP hD hS 0 rfl rfl 1 (by decide) f_13 (fun _ h9 => h9) rfl (by decide +kernel) rfl rfl (Nat.le_of_ble_eq_true rfl) dX0_append_70 (fun H locs hP hD hS => ?_)
              have hP : va_P G vwCl [(q 1, .inr (0, [.ref (q 2), .int (nI (n + k))])), aI ci (q 2) 600 (bApp row n bl i)] H := hP
              have hD : va_D A [(q 1, .inr (0, [.ref (q 2), .int (nI (n + k))])), aI ci (q 2) 600 (bApp row n bl i)] := hD
              refine lv_iconst (v := nI 1) hx hb dX0_append_73 (by decide) ?_
              exact rI (v := nI 1) hx hb hr hlocks nb1 hK hP hD hS [0, 1] (1, n + k, bApp row n bl i) rfl (by decide) ⟨rfl, Or.inl ⟨rfl, by (try dsimp only); omega, rfl, by rw [e_i]⟩⟩ dX0_append_74
            · skip
              have z_4 := mt (nI_leI (a := k) (b := i) (by omega) (by omega)).mpr c_4
              refine lv_aload_n hx hb dX0_append_33 rfl (lv_at hl 0 rfl) ?_
              refine va_get (D := G) (ci := 0) (v := .ref (q 2)) (C := RX0) (T := TX0) (N := 2) hx hb hts hi_X0 hown hK hP 0 rfl rfl 0 (by decide) f_9 (fun _ h9 => h9) rfl dX0_append_34 ?_
              refine lv_aload_n hx hb dX0_append_37 rfl (lv_at hl 0 rfl) ?_
              refine va_get (D := G) (ci := 0) (v := .int (nI n)) (C := RX0) (T := TX0) (N := 2) hx hb hts hi_X0 hown hK hP 0 rfl rfl 1 (by decide) f_13 (fun _ h9 => h9) rfl dX0_append_38 ?_
              refine lv_iload hx hb dX0_append_41 (lv_at hl 3 rfl) ?_
              refine lv_iadd hx hb dX0_append_43 ?_
              refine tp (nI_add _ _) ?_
              refine lv_lload_n hx hb dX0_append_44 rfl (lv_at hl 1 rfl) ?_
              refine lv_bipush (v := nI 8) hx hb dX0_append_45 (by decide) ?_
              refine lv_iload hx hb dX0_append_47 (lv_at hl 3 rfl) ?_
              refine lv_imul hx hb dX0_append_49 ?_
              refine tp (pk_mul _ _) ?_
              refine lv_lushr hx hb dX0_append_50 rfl ?_
              refine lv_l2i hx hb dX0_append_51 rfl ?_
              refine lv_sipush (v := nI 255) hx hb dX0_append_52 (by decide) ?_
              refine lv_iand hx hb dX0_append_55 ?_
              refine va_iast hx hb hK hP hD hS 1 0 rfl rfl (vp_in_nI (by omega) (by omega)) dX0_append_56 (fun H locs hP hD hS => ?_)
              rw [nI_clamp (by omega)] at hP hD
              have hP : va_P G vwCl [(q 1, .inr (0, [.ref (q 2), .int (nI n)])), aI ci (q 2) 600 (upd (bApp row n bl i) (n + i) ((((bl.toUInt64 >>> ((nI (8 * i)).toInt64.toUInt64 &&& Int64.toUInt64 63)).toInt64).toInt32) &&& (nI 255)))] H := hP
              have hD : va_D A [(q 1, .inr (0, [.ref (q 2), .int (nI n)])), aI ci (q 2) 600 (upd (bApp row n bl i) (n + i) ((((bl.toUInt64 >>> ((nI (8 * i)).toInt64.toUInt64 &&& Int64.toUInt64 63)).toInt64).toInt32) &&& (nI 255)))] := hD
              refine lv_iinc (v := nI (i + 1)) (lv' := [(4, .int (nI (i + 1))), (0, .ref (q 1)), (1, .long bl), (3, .int (nI k))]) hx hb dX0_append_57 hl (k := 3) rfl (nI_add _ _) (by decide) rfl (fun ls hl => ?_)
              refine lv_goto (tgt := 27) hx hb dX0_append_60 (by decide) ?_
              exact ih (i + 1) H locs (by omega) (by omega) (hP.sub [0, 1] rfl) (hD.sub [0, 1] (by decide) rfl) hS ls (lv_sub hl [1, 2, 3, 0] rfl)
        exact loop_27 (k - 0 + 1) 0 H locs (Nat.lt_succ_self _) (by omega) (hP.sub [0, 1] rfl) (hD.sub [0, 1] (by decide) rfl) hS ls (lv_sub hl [1, 2, 3, 0] rfl)
      · skip
        have z_3 := mt (nI_leI (a := (n + k)) (b := 600) (by omega) (by omega)).mpr c_3
        refine lv_iconst (v := nI 0) hx hb dX0_append_22 (by decide) ?_
        exact rI (v := nI 0) hx hb hr hlocks nb0 hK hP hD hS [0, 1] (0, n, row) rfl (by decide) ⟨rfl, Or.inr ⟨rfl, by (try dsimp only); omega, rfl, rfl⟩⟩ dX0_append_23
