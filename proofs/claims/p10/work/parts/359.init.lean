set_option maxHeartbeats 4000000 in
set_option maxRecDepth 100000 in
theorem c_X4_init (l : Launch) (G : va_G) (ci cz cl : ClassId) (q : Nat → Nat) (sz : Nat) (h : Nat) : CtV l yX4_init wsX4_init ({ frames := 1, cells := 0, slots := 0, locals := 16 }) G (TY ci cz cl) O0 [.ref h] [(h, .inr (3, [.double 0]))] sz (fun (u : Unit) => True) (fun u : Unit => [(h, .inr (3, [.double FP.dconst0]))]) 0 0 := by
  refine Met.ofW (cc := cX4_init) (maxL := 1) (ret := none) (by decide) rfl ?_
  intro p e s m args below meth c s₁ B hml hv
  obtain ⟨rfl, ⟨hsz, hP, hK, hD0⟩, hO⟩ := hv
  have hx := B.exec
  have hb := B.bytes
  have hr := B.returns
  have hts := atoms_spec (ws := wsX4_init) B.pre
  have hown : s.vm.findClass RX4 = some m.cls := findClass_of_methodNamed B.named
  have hlocks := B.notSynchronized
  have hin : meth.name = "<init>" := (name_of_methodNamed B.named B.method).1
  subst hsz
  have hD := hD0.self (sz := s.heap.size)
  generalize hAe : va_A [(h, .inr (3, [.double 0]))] s.heap.size = A at hD hO ⊢
  have hA : ∀ q : Nat, s.heap.size ≤ q → A q := fun q h => by rw [← hAe]; exact Or.inr h
  have ok := ok0
  refine startH (A := A) (fun H locs hP hS => ?_) hP
  have m_1 := hts (.methodLink RX4 1 objectInit) (by decide +kernel)
  have m_oi := hts (.instanceMethod objectInit) (by decide +kernel)
  have m_oc := hts (.code objectInit ⟨#[0xb1]⟩ 1 none) (List.mem_cons_of_mem _ (List.mem_append_left _ (List.mem_of_getElem? (i := 2) rfl)))
  have hi_X4 := (by decide +kernel : ∀ w ∈ wsX40, w ∈ wsX4_init)
  have f_7 := hts (.fieldLink RX4 7 "PageReader$Pixels" "factor" "D") (by decide +kernel)
  have hl := lv_entry ([.ref h]) (n := 1) (Nat.le_of_ble_eq_true rfl)
  rw [lg_entry_eq]
  generalize (lg_sl ([.ref h]) ++ List.replicate (1 - (lg_sl ([.ref h])).length) Slot.unset).toArray = ls at hl ⊢
  have hl : lv_has ls 1 [(0, .ref h)] := hl
  refine lv_aload_n hx hb dX4_init_0 rfl (lv_at hl 0 rfl) ?_
  refine W.objInit hx hb hown m_1 m_oi m_oc rfl (by rw [hml]; exact hl.1) rfl dX4_init_1 (Nat.le_of_ble_eq_true rfl) (Nat.le_of_ble_eq_true rfl) ?_
  refine W.eq (g2 := F0 m 4 ls []) rfl ?_
  refine lv_aload_n hx hb dX4_init_4 rfl (lv_at hl 0 rfl) ?_
  refine lv_dconst0 hx hb dX4_init_5 ?_
  refine va_put (D := G) (ci := 3) (v := .double FP.dconst0) (ty := .double) (C := RX4) (T := TX4) (N := 1) hx hb hts hi_X4 tyX4 tyX4_ok nmX4 hown hK hP hD hS 0 rfl rfl 0 (by decide) f_7 (fun _ h9 => h9) rfl (by decide +kernel) rfl rfl (Nat.le_of_ble_eq_true rfl) dX4_init_6 (fun H locs hP hD hS => ?_)
  have hP : va_P G vwCl [(h, .inr (3, [.double FP.dconst0]))] H := hP
  have hD : va_D A [(h, .inr (3, [.double FP.dconst0]))] := hD
  exact rV hx hb hr hlocks hK hP hD hS [0] () rfl (by decide) trivial dX4_init_9
