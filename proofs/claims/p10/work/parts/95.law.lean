/-- the classes and the classes of arrays, at the start -/
theorem arr_start {args : Array Value} {s : State} {ty : FieldType} (h : (Cond.arrayClass ty).before args s = true) : ∃ cA : ClassId, ArrOfT s cA ty ∧ s.vm.findClass ("[" ++ ty.toString) = some cA := by
  obtain ⟨cA, kA, comp, h1, h2, h3⟩ := Cond.arrayClass_spec (show (Cond.arrayClass ty).holds args s none s [] = true from h)
  exact ⟨cA, fun n z => ⟨fun k h => (by cases h), kA, h2, comp, h3⟩, h1⟩
theorem k_start {args : Array Value} {s : State} (hts : ∀ w ∈ wsL_law2, w.before args s = true) : ∃ (G : va_G) (ci cz cl : ClassId), va_K G vwCl (TY ci cz cl) s := by
  obtain ⟨ci, i1, i2⟩ := arr_start (hts (.arrayClass .int) (by decide +kernel))
  obtain ⟨cz, z1, z2⟩ := arr_start (hts (.arrayClass .boolean) (by decide +kernel))
  obtain ⟨cl, l1, l2⟩ := arr_start (hts (.arrayClass .long) (by decide +kernel))
  obtain ⟨c0, s0, h0⟩ := u_known (C := RX0) (T := TX0) (N := 2) (n := 2) hts inlX0 (hts (.instantiable RX0 2) (by decide +kernel))
  obtain ⟨c1, s1, h1⟩ := u_known (C := RX1) (T := TX1) (N := 3) (n := 3) hts inlX1 (hts (.instantiable RX1 3) (by decide +kernel))
  obtain ⟨c2, s2, h2⟩ := u_known (C := RX3) (T := TX3) (N := 7) (n := 7) hts inlX3 (hts (.instantiable RX3 7) (by decide +kernel))
  obtain ⟨c3, s3, h3⟩ := u_known (C := RX4) (T := TX4) (N := 1) (n := 1) hts inlX4 (hts (.instantiable RX4 1) (by decide +kernel))
  obtain ⟨c4, s4, h4⟩ := u_known (C := RX5) (T := TX5) (N := 7) (n := 7) hts inlX5 (hts (.instantiable RX5 7) (by decide +kernel))
  obtain ⟨c5, s5, h5⟩ := u_known (C := RX6) (T := TX6) (N := 9) (n := 9) hts inlX6 (hts (.instantiable RX6 9) (by decide +kernel))
  obtain ⟨c6, s6, h6⟩ := u_known (C := RX7) (T := TX7) (N := 1) (n := 1) hts inlX7 (hts (.instantiable RX7 1) (by decide +kernel))
  obtain ⟨c7, s7, h7⟩ := u_known (C := RX8) (T := TX8) (N := 6) (n := 6) hts inlX8 (hts (.instantiable RX8 6) (by decide +kernel))
  obtain ⟨c8, s8, h8⟩ := u_known (C := RX9) (T := TX9) (N := 30) (n := 30) hts inlX9 (hts (.instantiable RX9 30) (by decide +kernel))
  refine ⟨(fun k => [c0, c1, c2, c3, c4, c5, c6, c7].getD k c8, fun k => [s0, s1, s2, s3, s4, s5, s6, s7].getD k s8), ci, cz, cl, ?_, ?_⟩
  · intro k q hq
    match k, hq with
    | 0, hq => cases hq; exact h0
    | 1, hq => cases hq; exact h1
    | 2, hq => cases hq; exact h2
    | 3, hq => cases hq; exact h3
    | 4, hq => cases hq; exact h4
    | 5, hq => cases hq; exact h5
    | 6, hq => cases hq; exact h6
    | 7, hq => cases hq; exact h7
    | 8, hq => cases hq; exact h8
    | k + 9, hq => simp [vwCl] at hq
  · intro k q hq
    match k, hq with
    | 0, hq => cases hq; exact ⟨i1, i2⟩
    | 1, hq => cases hq; exact ⟨z1, z2⟩
    | 2, hq => cases hq; exact ⟨l1, l2⟩
    | k + 3, hq => simp at hq
/-- what lies outside, at the start -/
theorem ev_int {args : Array Value} {s : State} {t : Term} {v : Int32} (h : (Cond.eq t (.int v)).before args s = true) : t.eval args s none [] s = some (.int v) := by
  obtain ⟨w, h1, h2⟩ := Cond.eq_one (show (Cond.eq t (.int v)).holds args s none s [] = true from h)
  rw [h1, ← h2]
  rfl
theorem ev_str {args : Array Value} {s : State} {own tx : String} {k : Nat} (h1 : (Cond.stringRef own k tx).before args s = true) (h2 : (Cond.exactly (.string own k) "java/lang/String").before args s = true) : ∃ a, vk_R own k tx a s := by
  obtain ⟨a, -, -, -, e, -⟩ := Cond.exactly_spec (args := args) (first := s) (o := none) (s := s) (idx := []) (t := .string own k) (cls := "java/lang/String") h2
  exact ⟨a, vk_R.of h1 e⟩
abbrev tBB : Term := .static "PageReader$Op" "BYTES_BEHIND" "[I"
set_option maxRecDepth 100000 in
theorem bb_in : ∀ j, j < 42 → Cond.eq (.elem tBB (.int (Int32.ofNat j))) (.int (nI (tbl j))) ∈ flatC (Jvm.Cond.and given_1 narrow_1) := by decide +kernel
set_option maxRecDepth 100000 in
theorem ox_start {args : Array Value} {s : State} {A : Nat → Prop} (hts : ∀ w ∈ lw_tbl, w.before args s = true) (hgv : (Jvm.Cond.and given_1 narrow_1).before args s = true) (hA : ∀ a : Nat, a < s.heap.size → ¬ A a) : ∃ tb, OX tb A s s.heap := by
  have hs := flat_of_before _ hgv
  obtain ⟨tb, e1, hT⟩ := va_Tof (tm := tBB) (ty := .int) (N := 42) (f := fun j => .int (nI (tbl j))) (A := A) (by decide) (hs (.arrayOf tBB .int) (by decide +kernel)) (ev_int (hs (.eq (.length tBB) (.int 42)) (by decide +kernel))) (fun j hj => ev_int (hs _ (bb_in j hj))) hA
  refine ⟨tb, ⟨va_Zof (hts (.laysStatic "PageReader$Op" "BYTES_BEHIND" "[I") (by decide +kernel)) (hts (.initialized "PageReader$Op") (by decide +kernel)) e1 hA, hT⟩, ⟨vx_Zqof (hts (.laysStatic Bundle.tN "UNASSIGNED_STACK" Bundle.steD) (by decide +kernel)) (hts (.initialized Bundle.tN) (by decide +kernel)) (hs (.isRef (.static Bundle.tN "UNASSIGNED_STACK" Bundle.steD)) (by decide +kernel)) hA, vx_Zqof (hts (.laysStatic Bundle.tN "SUPPRESSED_SENTINEL" Bundle.listD) (by decide +kernel)) (hts (.initialized Bundle.tN) (by decide +kernel)) (hs (.isRef (.static Bundle.tN "SUPPRESSED_SENTINEL" Bundle.listD)) (by decide +kernel)) hA⟩, ⟨va_Nw.of rfl (hts (.castable sIAE sIAE) (by decide +kernel)), va_Nw.of rfl (hts (.castable sISE sISE) (by decide +kernel)), va_Nw.of rfl (hts (.castable sUOE sUOE) (by decide +kernel)), va_Nw.of rfl (hts (.castable sNSE sNSE) (by decide +kernel)), va_Nc.of (hs (.not (.castable sISE sIAE)) (by decide +kernel))⟩, ⟨va_Nw.of rfl (hts (.declares (Bundle.initS "java/lang/RuntimeException")) (by decide +kernel)), va_Nw.of rfl (hts (.declares (Bundle.initS "java/lang/Exception")) (by decide +kernel)), va_Nw.of rfl (hts (.declares (Bundle.initS Bundle.tN)) (by decide +kernel))⟩, ?_⟩
  exact ⟨ev_str (hts (.stringRef RX8 52 "n is not 1 .. 8") (by decide +kernel)) (hs (.exactly (.string RX8 52) "java/lang/String") (by decide +kernel)), ev_str (hts (.stringRef RX8 63 "the file would have more than 600 bytes") (by decide +kernel)) (hs (.exactly (.string RX8 63) "java/lang/String") (by decide +kernel)), ev_str (hts (.stringRef RX8 74 "n is not 0 .. the number of bytes") (by decide +kernel)) (hs (.exactly (.string RX8 74) "java/lang/String") (by decide +kernel)), ev_str (hts (.stringRef RX8 89 "the file is not right") (by decide +kernel)) (hs (.exactly (.string RX8 89) "java/lang/String") (by decide +kernel)), ev_str (hts (.stringRef RX8 98 "no such page or part of it") (by decide +kernel)) (hs (.exactly (.string RX8 98) "java/lang/String") (by decide +kernel)), ev_str (hts (.stringRef RX8 115 "no such item or part of it") (by decide +kernel)) (hs (.exactly (.string RX8 115) "java/lang/String") (by decide +kernel))⟩
