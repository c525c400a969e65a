set_option maxHeartbeats 4000000 in
set_option maxRecDepth 100000 in
theorem c_X9_inPage (l : Launch) (G : va_G) (ci cz cl : ClassId) (q : Nat → Nat) (sz : Nat) (k : Nat) (ref : Int32) (n : Nat) (num : Nat) (den : Nat) (mag : Nat) (fac : UInt64) (who : Nat) (fnd : Int32) (pc : Nat) (ic : Nat) (a : Nat) (sta : Nat) (lb : Nat) (la : Nat) (fo : Int32) (dee : Nat) (kc : Nat) (fl : Nat → Int32) (wd : Nat → Int32) (df : Nat → Int32) (ag : Nat → Int32) (mk : Nat → Int32) (sc : Nat → Int32) (nu : Nat → Int32) (co : Nat → Int32) (fi : Nat → Int32) (ad : Nat → Int32) (it : Nat → Int32) (sp : Nat → Int32) (stk : Nat → Int32) (hn : n ≤ 600) (hB : FB fl) (hk : k ≤ 169 ∧ a + tbk k < n) (hs2 : sta = 2) (hM : MK kc pc ic fi co fac fo sta lb la dee num den mag) : CtI l yX9_inPage wsX9_inPage ({ frames := 5, cells := 0, slots := 0, locals := 113 }) G (TY ci cz cl) O0 [.ref (q 0), .int (nI k)] [oM q ref n num den mag fac who fnd pc ic a sta lb la fo dee kc, aI ci (q 1) 600 fl, aI ci (q 2) 1024 wd, aI cz (q 3) 8 df, aI cz (q 4) 8 ag, aI ci (q 5) 8 mk, aI ci (q 6) 8 sc, aI ci (q 7) 12 nu, aI ci (q 8) 12 co, aI ci (q 9) 12 fi, aI ci (q 10) 12 ad, aI ci (q 11) 1800 it, aI ci (q 12) 8 sp, aI ci (q 13) 160 stk] sz (fun (r : Int32) (u : Nat × Nat × Nat × Nat × UInt64 × Nat × Nat × Nat × Nat × Nat × Int32 × Nat × Nat × (Nat → Int32) × (Nat → Int32) × (Nat → Int32) × (Nat → Int32) × (Nat → Int32) × (Nat → Int32) × (Nat → Int32) × (Nat → Int32) × (Nat → Int32) × (Nat → Int32) × (Nat → Int32)) => r = nI u.1 ∧ u.1 ≤ 1 ∧ SMI fl wd n a k sta lb la num den mag fac pc ic nu ad co it df ag mk sc fo dee kc sp stk u.1 (u.2.2.2.2.2.2.2.1, u.2.2.2.2.2.2.2.2.1, u.2.2.2.2.2.2.2.2.2.1, u.2.1, u.2.2.1, u.2.2.2.1, u.2.2.2.2.1, u.2.2.2.2.2.1, u.2.2.2.2.2.2.1, u.2.2.2.2.2.2.2.2.2.2.2.2.2.2.2.2.2.1, u.2.2.2.2.2.2.2.2.2.2.2.2.2.2.2.2.2.2.2.2.1, u.2.2.2.2.2.2.2.2.2.2.2.2.2.2.2.2.2.2.1, u.2.2.2.2.2.2.2.2.2.2.2.2.2.2.2.2.2.2.2.2.2.1, u.2.2.2.2.2.2.2.2.2.2.2.2.2.1, u.2.2.2.2.2.2.2.2.2.2.2.2.2.2.1, u.2.2.2.2.2.2.2.2.2.2.2.2.2.2.2.1, u.2.2.2.2.2.2.2.2.2.2.2.2.2.2.2.2.1, u.2.2.2.2.2.2.2.2.2.2.1, u.2.2.2.2.2.2.2.2.2.2.2.1, u.2.2.2.2.2.2.2.2.2.2.2.2.1, u.2.2.2.2.2.2.2.2.2.2.2.2.2.2.2.2.2.2.2.2.2.2.1, u.2.2.2.2.2.2.2.2.2.2.2.2.2.2.2.2.2.2.2.2.2.2.2) ∧ MK u.2.2.2.2.2.2.2.2.2.2.2.2.1 u.2.2.2.2.2.1 u.2.2.2.2.2.2.1 u.2.2.2.2.2.2.2.2.2.2.2.2.2.2.2.2.2.2.2.1 u.2.2.2.2.2.2.2.2.2.2.2.2.2.2.2.2.2.2.1 u.2.2.2.2.1 u.2.2.2.2.2.2.2.2.2.2.1 u.2.2.2.2.2.2.2.1 u.2.2.2.2.2.2.2.2.1 u.2.2.2.2.2.2.2.2.2.1 u.2.2.2.2.2.2.2.2.2.2.2.1 u.2.1 u.2.2.1 u.2.2.2.1) (fun u : Nat × Nat × Nat × Nat × UInt64 × Nat × Nat × Nat × Nat × Nat × Int32 × Nat × Nat × (Nat → Int32) × (Nat → Int32) × (Nat → Int32) × (Nat → Int32) × (Nat → Int32) × (Nat → Int32) × (Nat → Int32) × (Nat → Int32) × (Nat → Int32) × (Nat → Int32) × (Nat → Int32) => [oM q ref n u.2.1 u.2.2.1 u.2.2.2.1 u.2.2.2.2.1 who fnd u.2.2.2.2.2.1 u.2.2.2.2.2.2.1 a u.2.2.2.2.2.2.2.1 u.2.2.2.2.2.2.2.2.1 u.2.2.2.2.2.2.2.2.2.1 u.2.2.2.2.2.2.2.2.2.2.1 u.2.2.2.2.2.2.2.2.2.2.2.1 u.2.2.2.2.2.2.2.2.2.2.2.2.1, aI ci (q 1) 600 fl, aI ci (q 2) 1024 wd, aI cz (q 3) 8 u.2.2.2.2.2.2.2.2.2.2.2.2.2.1, aI cz (q 4) 8 u.2.2.2.2.2.2.2.2.2.2.2.2.2.2.1, aI ci (q 5) 8 u.2.2.2.2.2.2.2.2.2.2.2.2.2.2.2.1, aI ci (q 6) 8 u.2.2.2.2.2.2.2.2.2.2.2.2.2.2.2.2.1, aI ci (q 7) 12 u.2.2.2.2.2.2.2.2.2.2.2.2.2.2.2.2.2.1, aI ci (q 8) 12 u.2.2.2.2.2.2.2.2.2.2.2.2.2.2.2.2.2.2.1, aI ci (q 9) 12 u.2.2.2.2.2.2.2.2.2.2.2.2.2.2.2.2.2.2.2.1, aI ci (q 10) 12 u.2.2.2.2.2.2.2.2.2.2.2.2.2.2.2.2.2.2.2.2.1, aI ci (q 11) 1800 u.2.2.2.2.2.2.2.2.2.2.2.2.2.2.2.2.2.2.2.2.2.1, aI ci (q 12) 8 u.2.2.2.2.2.2.2.2.2.2.2.2.2.2.2.2.2.2.2.2.2.2.1, aI ci (q 13) 160 u.2.2.2.2.2.2.2.2.2.2.2.2.2.2.2.2.2.2.2.2.2.2.2]) 0 0 := by
  refine Met.ofW (cc := cX9_inPage) (maxL := 2) (ret := (some .boolean)) (by decide) rfl ?_
  intro p e s m args below meth c s₁ B hml hv
  obtain ⟨rfl, ⟨hsz, hP, hK, hD0⟩, hO⟩ := hv
  have hx := B.exec
  have hb := B.bytes
  have hr := B.returns
  have hts := atoms_spec (ws := wsX9_inPage) B.pre
  have hown : s.vm.findClass RX9 = some m.cls := findClass_of_methodNamed B.named
  have hlocks := B.notSynchronized
  subst hsz
  have hD := hD0.self (sz := s.heap.size)
  generalize hAe : va_A [oM q ref n num den mag fac who fnd pc ic a sta lb la fo dee kc, aI ci (q 1) 600 fl, aI ci (q 2) 1024 wd, aI cz (q 3) 8 df, aI cz (q 4) 8 ag, aI ci (q 5) 8 mk, aI ci (q 6) 8 sc, aI ci (q 7) 12 nu, aI ci (q 8) 12 co, aI ci (q 9) 12 fi, aI ci (q 10) 12 ad, aI ci (q 11) 1800 it, aI ci (q 12) 8 sp, aI ci (q 13) 160 stk] s.heap.size = A at hD hO ⊢
  have hA : ∀ q : Nat, s.heap.size ≤ q → A q := fun q h => by rw [← hAe]; exact Or.inr h
  have ok := ok0
  refine startH (A := A) (fun H locs hP hS => ?_) hP
  have hi_X9 := (by decide +kernel : ∀ w ∈ wsX90, w ∈ wsX9_inPage)
  have f_128 := hts (.fieldLink RX9 128 "PageReaderModel" "state" "I") (by decide +kernel)
  have f_111 := hts (.fieldLink RX9 111 "PageReaderModel" "depth" "I") (by decide +kernel)
  have f_7 := hts (.fieldLink RX9 7 "PageReaderModel" "file" "[I") (by decide +kernel)
  have f_105 := hts (.fieldLink RX9 105 "PageReaderModel" "at" "I") (by decide +kernel)
  have hl := lv_entry ([.ref (q 0), .int (nI k)]) (n := 2) (Nat.le_of_ble_eq_true rfl)
  rw [lg_entry_eq]
  generalize (lg_sl ([.ref (q 0), .int (nI k)]) ++ List.replicate (2 - (lg_sl ([.ref (q 0), .int (nI k)])).length) Slot.unset).toArray = ls at hl ⊢
  have hl : lv_has ls 2 [(0, .ref (q 0)), (1, .int (nI k))] := hl
  obtain ⟨hkc, hpc, hic, hPI, hf, hFO, hst, hbd⟩ := hM
  have hp1 := hst.1 hs2
  have ht := tbk_in k
  have hb1 := rdN_b hB n (a + 1)
  refine lv_iload_n hx hb dX9_inPage_0 rfl (lv_at hl 1 rfl) ?_
  refine lv_sipush (v := nI 128) hx hb dX9_inPage_1 (by decide) ?_
  refine lv_icmp_ge (tgt := 14) hx hb dX9_inPage_4 (by decide) (fun c_1 => ?_) (fun c_1 => ?_)
  · skip
    have z_1 := (nI_leI (a := 128) (b := k) (by omega) (by omega)).mp c_1
    refine lv_iload_n hx hb dX9_inPage_14 rfl (lv_at hl 1 rfl) ?_
    refine lv_sipush (v := nI 128) hx hb dX9_inPage_15 (by decide) ?_
    refine lv_icmp_ne (tgt := 38) hx hb dX9_inPage_18 (by decide) (fun c_2 => ?_) (fun c_2 => ?_)
    · skip
      have z_2 := mt (nI_eq (a := k) (b := 128) (by omega) (by omega)).mpr c_2
      refine lv_iload_n hx hb dX9_inPage_38 rfl (lv_at hl 1 rfl) ?_
      refine lv_sipush (v := nI 131) hx hb dX9_inPage_39 (by decide) ?_
      refine lv_icmp_ge (tgt := 62) hx hb dX9_inPage_42 (by decide) (fun c_3 => ?_) (fun c_3 => ?_)
      · skip
        have z_3 := (nI_leI (a := 131) (b := k) (by omega) (by omega)).mp c_3
        refine lv_iload_n hx hb dX9_inPage_62 rfl (lv_at hl 1 rfl) ?_
        refine lv_sipush (v := nI 134) hx hb dX9_inPage_63 (by decide) ?_
        refine lv_icmp_ne (tgt := 74) hx hb dX9_inPage_66 (by decide) (fun c_4 => ?_) (fun c_4 => ?_)
        · skip
          have z_4 := mt (nI_eq (a := k) (b := 134) (by omega) (by omega)).mpr c_4
          refine lv_iload_n hx hb dX9_inPage_74 rfl (lv_at hl 1 rfl) ?_
          refine lv_sipush (v := nI 135) hx hb dX9_inPage_75 (by decide) ?_
          refine lv_icmp_ne (tgt := 86) hx hb dX9_inPage_78 (by decide) (fun c_5 => ?_) (fun c_5 => ?_)
          · skip
            have z_5 := mt (nI_eq (a := k) (b := 135) (by omega) (by omega)).mpr c_5
            refine lv_iload_n hx hb dX9_inPage_86 rfl (lv_at hl 1 rfl) ?_
            refine lv_sipush (v := nI 136) hx hb dX9_inPage_87 (by decide) ?_
            refine lv_icmp_lt (tgt := 106) hx hb dX9_inPage_90 (by decide) (fun c_6 => ?_) (fun c_6 => ?_)
            · skip
              have z_6 := (nI_ltI (a := k) (b := 136) (by omega) (by omega)).mp c_6
              refine lv_iload_n hx hb dX9_inPage_106 rfl (lv_at hl 1 rfl) ?_
              refine lv_sipush (v := nI 158) hx hb dX9_inPage_107 (by decide) ?_
              refine lv_icmp_lt (tgt := 130) hx hb dX9_inPage_110 (by decide) (fun c_7 => ?_) (fun c_7 => ?_)
              · skip
                have z_7 := (nI_ltI (a := k) (b := 158) (by omega) (by omega)).mp c_7
                refine lv_iload_n hx hb dX9_inPage_130 rfl (lv_at hl 1 rfl) ?_
                refine lv_sipush (v := nI 133) hx hb dX9_inPage_131 (by decide) ?_
                refine lv_icmp_eq (tgt := 139) hx hb dX9_inPage_134 (by decide) (fun c_8 => ?_) (fun c_8 => ?_)
                · skip
                  have z_8 := (nI_eq (a := k) (b := 133) (by omega) (by omega)).mp c_8
                  refine lv_aload_n hx hb dX9_inPage_139 rfl (lv_at hl 0 rfl) ?_
                  refine lv_iconst (v := nI 1) hx hb dX9_inPage_140 (by decide) ?_
                  refine va_put (D := G) (ci := 8) (v := .int (nI 1)) (ty := .int) (C := RX9) (T := TX9) (N := 30) hx hb hts hi_X9 tyX9 tyX9_ok nmX9 hown hK hP hD hS 0 rfl rfl 22 (by decide) f_128 (fun _ h9 => h9) rfl (by decide +kernel) rfl rfl (Nat.le_of_ble_eq_true rfl) dX9_inPage_141 (fun H locs hP hD hS => ?_)
                  have hP : va_P G vwCl [oM q ref n num den mag fac who fnd pc ic a 1 lb la fo dee kc, aI ci (q 1) 600 fl, aI ci (q 2) 1024 wd, aI cz (q 3) 8 df, aI cz (q 4) 8 ag, aI ci (q 5) 8 mk, aI ci (q 6) 8 sc, aI ci (q 7) 12 nu, aI ci (q 8) 12 co, aI ci (q 9) 12 fi, aI ci (q 10) 12 ad, aI ci (q 11) 1800 it, aI ci (q 12) 8 sp, aI ci (q 13) 160 stk] H := hP
                  have hD : va_D A [oM q ref n num den mag fac who fnd pc ic a 1 lb la fo dee kc, aI ci (q 1) 600 fl, aI ci (q 2) 1024 wd, aI cz (q 3) 8 df, aI cz (q 4) 8 ag, aI ci (q 5) 8 mk, aI ci (q 6) 8 sc, aI ci (q 7) 12 nu, aI ci (q 8) 12 co, aI ci (q 9) 12 fi, aI ci (q 10) 12 ad, aI ci (q 11) 1800 it, aI ci (q 12) 8 sp, aI ci (q 13) 160 stk] := hD
                  refine lv_aload_n hx hb dX9_inPage_144 rfl (lv_at hl 0 rfl) ?_
                  refine va_get (D := G) (ci := 8) (v := .int (nI kc)) (C := RX9) (T := TX9) (N := 30) hx hb hts hi_X9 hown hK hP 0 rfl rfl 27 (by decide) f_111 (fun _ h9 => h9) rfl dX9_inPage_145 ?_
                  refine lv_if_ne (tgt := 155) hx hb dX9_inPage_148 (by decide) (fun c_9 => ?_) (fun c_9 => ?_)
                  · skip
                    have z_9 := mt (nI_eq (a := kc) (b := 0) (by omega) (by omega)).mpr c_9
                    refine lv_iconst (v := nI 0) hx hb dX9_inPage_155 (by decide) ?_
                    exact rI (v := nI 0) hx hb hr hlocks nb0 hK hP hD hS [0, 1, 2, 3, 4, 5, 6, 7, 8, 9, 10, 11, 12, 13] (0, num, den, mag, fac, pc, ic, 1, lb, la, fo, dee, kc, df, ag, mk, sc, nu, co, fi, ad, it, sp, stk) rfl (by decide) (by exact ⟨rfl, by (try dsimp only); omega, Or.inr (Or.inr (Or.inr (Or.inr (Or.inl ⟨by (try dsimp only); omega, Or.inr ⟨rfl, by (try dsimp only); omega⟩, rfl⟩)))), ⟨by (try dsimp only); omega, by (try dsimp only); omega, by (try dsimp only); omega, by assumption, by assumption, by first | assumption | exact FO_m, by (try dsimp only); omega, by (try dsimp only); omega⟩⟩) dX9_inPage_156
                  · skip
                    have z_9 := (nI_eq (a := kc) (b := 0) (by omega) (by omega)).mp c_9
                    refine lv_iconst (v := nI 1) hx hb dX9_inPage_151 (by decide) ?_
                    refine lv_goto (tgt := 156) hx hb dX9_inPage_152 (by decide) ?_
                    exact rI (v := nI 1) hx hb hr hlocks nb1 hK hP hD hS [0, 1, 2, 3, 4, 5, 6, 7, 8, 9, 10, 11, 12, 13] (1, num, den, mag, fac, pc, ic, 1, lb, la, fo, dee, kc, df, ag, mk, sc, nu, co, fi, ad, it, sp, stk) rfl (by decide) (by exact ⟨rfl, by (try dsimp only); omega, Or.inr (Or.inr (Or.inr (Or.inr (Or.inl ⟨by (try dsimp only); omega, Or.inl ⟨rfl, by (try dsimp only); omega⟩, rfl⟩)))), ⟨by (try dsimp only); omega, by (try dsimp only); omega, by (try dsimp only); omega, by assumption, by assumption, by first | assumption | exact FO_m, by (try dsimp only); omega, by (try dsimp only); omega⟩⟩) dX9_inPage_156
                · skip
                  have z_8 := mt (nI_eq (a := k) (b := 133) (by omega) (by omega)).mpr c_8
                  refine lv_iconst (v := nI 0) hx hb dX9_inPage_137 (by decide) ?_
                  exact rI (v := nI 0) hx hb hr hlocks nb0 hK hP hD hS [0, 1, 2, 3, 4, 5, 6, 7, 8, 9, 10, 11, 12, 13] (0, num, den, mag, fac, pc, ic, sta, lb, la, fo, dee, kc, df, ag, mk, sc, nu, co, fi, ad, it, sp, stk) rfl (by decide) (by exact ⟨rfl, by (try dsimp only); omega, Or.inr (Or.inr (Or.inr (Or.inr (Or.inr (Or.inr (Or.inr (Or.inr (Or.inr (⟨by (try dsimp only); omega, rfl⟩))))))))), ⟨by (try dsimp only); omega, by (try dsimp only); omega, by (try dsimp only); omega, by assumption, by assumption, by first | assumption | exact FO_m, by (try dsimp only); omega, by (try dsimp only); omega⟩⟩) dX9_inPage_138
              · skip
                have z_7 := mt (nI_ltI (a := k) (b := 158) (by omega) (by omega)).mpr c_7
                refine lv_iload_n hx hb dX9_inPage_113 rfl (lv_at hl 1 rfl) ?_
                refine lv_sipush (v := nI 165) hx hb dX9_inPage_114 (by decide) ?_
                refine lv_icmp_gt (tgt := 130) hx hb dX9_inPage_117 (by decide) (fun c_10 => ?_) (fun c_10 => ?_)
                · skip
                  have z_10 := (nI_ltI (a := 165) (b := k) (by omega) (by omega)).mp c_10
                  refine lv_iload_n hx hb dX9_inPage_130 rfl (lv_at hl 1 rfl) ?_
                  refine lv_sipush (v := nI 133) hx hb dX9_inPage_131 (by decide) ?_
                  refine lv_icmp_eq (tgt := 139) hx hb dX9_inPage_134 (by decide) (fun c_11 => ?_) (fun c_11 => ?_)
                  · skip
                    have z_11 := (nI_eq (a := k) (b := 133) (by omega) (by omega)).mp c_11
                    refine lv_aload_n hx hb dX9_inPage_139 rfl (lv_at hl 0 rfl) ?_
                    refine lv_iconst (v := nI 1) hx hb dX9_inPage_140 (by decide) ?_
                    refine va_put (D := G) (ci := 8) (v := .int (nI 1)) (ty := .int) (C := RX9) (T := TX9) (N := 30) hx hb hts hi_X9 tyX9 tyX9_ok nmX9 hown hK hP hD hS 0 rfl rfl 22 (by decide) f_128 (fun _ h9 => h9) rfl (by decide +kernel) rfl rfl (Nat.le_of_ble_eq_true rfl) dX9_inPage_141 (fun H locs hP hD hS => ?_)
                    have hP : va_P G vwCl [oM q ref n num den mag fac who fnd pc ic a 1 lb la fo dee kc, aI ci (q 1) 600 fl, aI ci (q 2) 1024 wd, aI cz (q 3) 8 df, aI cz (q 4) 8 ag, aI ci (q 5) 8 mk, aI ci (q 6) 8 sc, aI ci (q 7) 12 nu, aI ci (q 8) 12 co, aI ci (q 9) 12 fi, aI ci (q 10) 12 ad, aI ci (q 11) 1800 it, aI ci (q 12) 8 sp, aI ci (q 13) 160 stk] H := hP
                    have hD : va_D A [oM q ref n num den mag fac who fnd pc ic a 1 lb la fo dee kc, aI ci (q 1) 600 fl, aI ci (q 2) 1024 wd, aI cz (q 3) 8 df, aI cz (q 4) 8 ag, aI ci (q 5) 8 mk, aI ci (q 6) 8 sc, aI ci (q 7) 12 nu, aI ci (q 8) 12 co, aI ci (q 9) 12 fi, aI ci (q 10) 12 ad, aI ci (q 11) 1800 it, aI ci (q 12) 8 sp, aI ci (q 13) 160 stk] := hD
                    refine lv_aload_n hx hb dX9_inPage_144 rfl (lv_at hl 0 rfl) ?_
                    refine va_get (D := G) (ci := 8) (v := .int (nI kc)) (C := RX9) (T := TX9) (N := 30) hx hb hts hi_X9 hown hK hP 0 rfl rfl 27 (by decide) f_111 (fun _ h9 => h9) rfl dX9_inPage_145 ?_
                    refine lv_if_ne (tgt := 155) hx hb dX9_inPage_148 (by decide) (fun c_12 => ?_) (fun c_12 => ?_)
                    · skip
                      have z_12 := mt (nI_eq (a := kc) (b := 0) (by omega) (by omega)).mpr c_12
                      refine lv_iconst (v := nI 0) hx hb dX9_inPage_155 (by decide) ?_
                      exact rI (v := nI 0) hx hb hr hlocks nb0 hK hP hD hS [0, 1, 2, 3, 4, 5, 6, 7, 8, 9, 10, 11, 12, 13] (0, num, den, mag, fac, pc, ic, 1, lb, la, fo, dee, kc, df, ag, mk, sc, nu, co, fi, ad, it, sp, stk) rfl (by decide) (by exact ⟨rfl, by (try dsimp only); omega, Or.inr (Or.inr (Or.inr (Or.inr (Or.inl ⟨by (try dsimp only); omega, Or.inr ⟨rfl, by (try dsimp only); omega⟩, rfl⟩)))), ⟨by (try dsimp only); omega, by (try dsimp only); omega, by (try dsimp only); omega, by assumption, by assumption, by first | assumption | exact FO_m, by (try dsimp only); omega, by (try dsimp only); omega⟩⟩) dX9_inPage_156
                    · skip
                      have z_12 := (nI_eq (a := kc) (b := 0) (by omega) (by omega)).mp c_12
                      refine lv_iconst (v := nI 1) hx hb dX9_inPage_151 (by decide) ?_
                      refine lv_goto (tgt := 156) hx hb dX9_inPage_152 (by decide) ?_
                      exact rI (v := nI 1) hx hb hr hlocks nb1 hK hP hD hS [0, 1, 2, 3, 4, 5, 6, 7, 8, 9, 10, 11, 12, 13] (1, num, den, mag, fac, pc, ic, 1, lb, la, fo, dee, kc, df, ag, mk, sc, nu, co, fi, ad, it, sp, stk) rfl (by decide) (by exact ⟨rfl, by (try dsimp only); omega, Or.inr (Or.inr (Or.inr (Or.inr (Or.inl ⟨by (try dsimp only); omega, Or.inl ⟨rfl, by (try dsimp only); omega⟩, rfl⟩)))), ⟨by (try dsimp only); omega, by (try dsimp only); omega, by (try dsimp only); omega, by assumption, by assumption, by first | assumption | exact FO_m, by (try dsimp only); omega, by (try dsimp only); omega⟩⟩) dX9_inPage_156
                  · skip
                    have z_11 := mt (nI_eq (a := k) (b := 133) (by omega) (by omega)).mpr c_11
                    refine lv_iconst (v := nI 0) hx hb dX9_inPage_137 (by decide) ?_
                    exact rI (v := nI 0) hx hb hr hlocks nb0 hK hP hD hS [0, 1, 2, 3, 4, 5, 6, 7, 8, 9, 10, 11, 12, 13] (0, num, den, mag, fac, pc, ic, sta, lb, la, fo, dee, kc, df, ag, mk, sc, nu, co, fi, ad, it, sp, stk) rfl (by decide) (by exact ⟨rfl, by (try dsimp only); omega, Or.inr (Or.inr (Or.inr (Or.inr (Or.inr (Or.inr (Or.inr (Or.inr (Or.inr (⟨by (try dsimp only); omega, rfl⟩))))))))), ⟨by (try dsimp only); omega, by (try dsimp only); omega, by (try dsimp only); omega, by assumption, by assumption, by first | assumption | exact FO_m, by (try dsimp only); omega, by (try dsimp only); omega⟩⟩) dX9_inPage_138
                · skip
                  have z_10 := mt (nI_ltI (a := 165) (b := k) (by omega) (by omega)).mpr c_10
                  refine lv_aload_n hx hb dX9_inPage_120 rfl (lv_at hl 0 rfl) ?_
                  refine lv_iload_n hx hb dX9_inPage_121 rfl (lv_at hl 1 rfl) ?_
                  refine lv_sipush (v := nI 158) hx hb dX9_inPage_122 (by decide) ?_
                  refine lv_isub hx hb dX9_inPage_125 ?_
                  refine tp (pk_sub (by omega)) ?_
                  refine jI (va_runV (As := [.int (nI (k - 158))]) (rest := []) ⟨hx, hb, hml, hown, hts⟩ (c_X9_choose l G ci cz cl q H.size (k - 158) ref n num den mag fac who fnd pc ic a sta lb la fo dee kc fl wd df ag mk sc nu co fi ad it sp stk (by omega) (by first | assumption | exact FO_m)) (cwV 1 hts gX9_inPage_X9_choose rfl rfl rfl (by decide +kernel) ⟨(Nat.le_of_ble_eq_true rfl), (Nat.le_of_ble_eq_true rfl)⟩) (pV (wc := [oM q ref n num den mag fac who fnd pc ic a sta lb la fo dee kc, aI ci (q 1) 600 fl, aI ci (q 2) 1024 wd, aI cz (q 3) 8 df, aI cz (q 4) 8 ag, aI ci (q 5) 8 mk, aI ci (q 6) 8 sc, aI ci (q 7) 12 nu, aI ci (q 8) 12 co, aI ci (q 9) 12 fi, aI ci (q 10) 12 ad, aI ci (q 11) 1800 it, aI ci (q 12) 8 sp, aI ci (q 13) 160 stk]) ok hK hP hD hS hA hO [0, 1, 2, 3, 4, 5, 6, 7, 8, 9, 10, 11, 12, 13] rfl (by decide) 0 rfl rfl) rfl rfl hl.1 rfl (lv_room (Nat.le_of_ble_eq_true rfl)) dX9_inPage_126 ⟨(Nat.le_of_ble_eq_true rfl), (Nat.le_of_ble_eq_true rfl)⟩) (wr := []) hP hD hS hA [0, 1, 2, 3, 4, 5, 6, 7, 8, 9, 10, 11, 12, 13] [] rfl rfl (by decide) (by decide) (fun r_13 u H locs hw_13 hP hD hS => ?_)
                  obtain ⟨bo_13, fo2_13⟩ := u
                  try dsimp only at hw_13
                  obtain ⟨rfl, h_13, g_13, O_13⟩ := hw_13
                  have hP : va_P G vwCl [oM q ref n num den mag fac who fnd pc ic a sta lb la fo2_13 dee kc, aI ci (q 1) 600 fl, aI ci (q 2) 1024 wd, aI cz (q 3) 8 df, aI cz (q 4) 8 ag, aI ci (q 5) 8 mk, aI ci (q 6) 8 sc, aI ci (q 7) 12 nu, aI ci (q 8) 12 co, aI ci (q 9) 12 fi, aI ci (q 10) 12 ad, aI ci (q 11) 1800 it, aI ci (q 12) 8 sp, aI ci (q 13) 160 stk] H := hP
                  have hD : va_D A [oM q ref n num den mag fac who fnd pc ic a sta lb la fo2_13 dee kc, aI ci (q 1) 600 fl, aI ci (q 2) 1024 wd, aI cz (q 3) 8 df, aI cz (q 4) 8 ag, aI ci (q 5) 8 mk, aI ci (q 6) 8 sc, aI ci (q 7) 12 nu, aI ci (q 8) 12 co, aI ci (q 9) 12 fi, aI ci (q 10) 12 ad, aI ci (q 11) 1800 it, aI ci (q 12) 8 sp, aI ci (q 13) 160 stk] := hD
                  exact rI (v := nI bo_13) hx hb hr hlocks (nbn (by omega)) hK hP hD hS [0, 1, 2, 3, 4, 5, 6, 7, 8, 9, 10, 11, 12, 13] (bo_13, num, den, mag, fac, pc, ic, sta, lb, la, fo2_13, dee, kc, df, ag, mk, sc, nu, co, fi, ad, it, sp, stk) rfl (by decide) (by exact ⟨rfl, by (try dsimp only); omega, Or.inr (Or.inr (Or.inr (Or.inr (Or.inr (Or.inr (Or.inr (Or.inr (Or.inl ⟨by (try dsimp only); omega, by (try dsimp only); omega, _, g_13, rfl⟩)))))))), ⟨by (try dsimp only); omega, by (try dsimp only); omega, by (try dsimp only); omega, by assumption, by assumption, by first | assumption | exact FO_m, by (try dsimp only); omega, by (try dsimp only); omega⟩⟩) dX9_inPage_129
            · skip
              have z_6 := mt (nI_ltI (a := k) (b := 136) (by omega) (by omega)).mpr c_6
              refine lv_iload_n hx hb dX9_inPage_93 rfl (lv_at hl 1 rfl) ?_
              refine lv_sipush (v := nI 157) hx hb dX9_inPage_94 (by decide) ?_
              refine lv_icmp_gt (tgt := 106) hx hb dX9_inPage_97 (by decide) (fun c_14 => ?_) (fun c_14 => ?_)
              · skip
                have z_14 := (nI_ltI (a := 157) (b := k) (by omega) (by omega)).mp c_14
                refine lv_iload_n hx hb dX9_inPage_106 rfl (lv_at hl 1 rfl) ?_
                refine lv_sipush (v := nI 158) hx hb dX9_inPage_107 (by decide) ?_
                refine lv_icmp_lt (tgt := 130) hx hb dX9_inPage_110 (by decide) (fun c_15 => ?_) (fun c_15 => ?_)
                · skip
                  have z_15 := (nI_ltI (a := k) (b := 158) (by omega) (by omega)).mp c_15
                  refine lv_iload_n hx hb dX9_inPage_130 rfl (lv_at hl 1 rfl) ?_
                  refine lv_sipush (v := nI 133) hx hb dX9_inPage_131 (by decide) ?_
                  refine lv_icmp_eq (tgt := 139) hx hb dX9_inPage_134 (by decide) (fun c_16 => ?_) (fun c_16 => ?_)
                  · skip
                    have z_16 := (nI_eq (a := k) (b := 133) (by omega) (by omega)).mp c_16
                    refine lv_aload_n hx hb dX9_inPage_139 rfl (lv_at hl 0 rfl) ?_
                    refine lv_iconst (v := nI 1) hx hb dX9_inPage_140 (by decide) ?_
                    refine va_put (D := G) (ci := 8) (v := .int (nI 1)) (ty := .int) (C := RX9) (T := TX9) (N := 30) hx hb hts hi_X9 tyX9 tyX9_ok nmX9 hown hK hP hD hS 0 rfl rfl 22 (by decide) f_128 (fun _ h9 => h9) rfl (by decide +kernel) rfl rfl (Nat.le_of_ble_eq_true rfl) dX9_inPage_141 (fun H locs hP hD hS => ?_)
                    have hP : va_P G vwCl [oM q ref n num den mag fac who fnd pc ic a 1 lb la fo dee kc, aI ci (q 1) 600 fl, aI ci (q 2) 1024 wd, aI cz (q 3) 8 df, aI cz (q 4) 8 ag, aI ci (q 5) 8 mk, aI ci (q 6) 8 sc, aI ci (q 7) 12 nu, aI ci (q 8) 12 co, aI ci (q 9) 12 fi, aI ci (q 10) 12 ad, aI ci (q 11) 1800 it, aI ci (q 12) 8 sp, aI ci (q 13) 160 stk] H := hP
                    have hD : va_D A [oM q ref n num den mag fac who fnd pc ic a 1 lb la fo dee kc, aI ci (q 1) 600 fl, aI ci (q 2) 1024 wd, aI cz (q 3) 8 df, aI cz (q 4) 8 ag, aI ci (q 5) 8 mk, aI ci (q 6) 8 sc, aI ci (q 7) 12 nu, aI ci (q 8) 12 co, aI ci (q 9) 12 fi, aI ci (q 10) 12 ad, aI ci (q 11) 1800 it, aI ci (q 12) 8 sp, aI ci (q 13) 160 stk] := hD
                    refine lv_aload_n hx hb dX9_inPage_144 rfl (lv_at hl 0 rfl) ?_
                    refine va_get (D := G) (ci := 8) (v := .int (nI kc)) (C := RX9) (T := TX9) (N := 30) hx hb hts hi_X9 hown hK hP 0 rfl rfl 27 (by decide) f_111 (fun _ h9 => h9) rfl dX9_inPage_145 ?_
                    refine lv_if_ne (tgt := 155) hx hb dX9_inPage_148 (by decide) (fun c_17 => ?_) (fun c_17 => ?_)
                    · skip
                      have z_17 := mt (nI_eq (a := kc) (b := 0) (by omega) (by omega)).mpr c_17
                      refine lv_iconst (v := nI 0) hx hb dX9_inPage_155 (by decide) ?_
                      exact rI (v := nI 0) hx hb hr hlocks nb0 hK hP hD hS [0, 1, 2, 3, 4, 5, 6, 7, 8, 9, 10, 11, 12, 13] (0, num, den, mag, fac, pc, ic, 1, lb, la, fo, dee, kc, df, ag, mk, sc, nu, co, fi, ad, it, sp, stk) rfl (by decide) (by exact ⟨rfl, by (try dsimp only); omega, Or.inr (Or.inr (Or.inr (Or.inr (Or.inl ⟨by (try dsimp only); omega, Or.inr ⟨rfl, by (try dsimp only); omega⟩, rfl⟩)))), ⟨by (try dsimp only); omega, by (try dsimp only); omega, by (try dsimp only); omega, by assumption, by assumption, by first | assumption | exact FO_m, by (try dsimp only); omega, by (try dsimp only); omega⟩⟩) dX9_inPage_156
                    · skip
                      have z_17 := (nI_eq (a := kc) (b := 0) (by omega) (by omega)).mp c_17
                      refine lv_iconst (v := nI 1) hx hb dX9_inPage_151 (by decide) ?_
                      refine lv_goto (tgt := 156) hx hb dX9_inPage_152 (by decide) ?_
                      exact rI (v := nI 1) hx hb hr hlocks nb1 hK hP hD hS [0, 1, 2, 3, 4, 5, 6, 7, 8, 9, 10, 11, 12, 13] (1, num, den, mag, fac, pc, ic, 1, lb, la, fo, dee, kc, df, ag, mk, sc, nu, co, fi, ad, it, sp, stk) rfl (by decide) (by exact ⟨rfl, by (try dsimp only); omega, Or.inr (Or.inr (Or.inr (Or.inr (Or.inl ⟨by (try dsimp only); omega, Or.inl ⟨rfl, by (try dsimp only); omega⟩, rfl⟩)))), ⟨by (try dsimp only); omega, by (try dsimp only); omega, by (try dsimp only); omega, by assumption, by assumption, by first | assumption | exact FO_m, by (try dsimp only); omega, by (try dsimp only); omega⟩⟩) dX9_inPage_156
                  · skip
                    have z_16 := mt (nI_eq (a := k) (b := 133) (by omega) (by omega)).mpr c_16
                    refine lv_iconst (v := nI 0) hx hb dX9_inPage_137 (by decide) ?_
                    exact rI (v := nI 0) hx hb hr hlocks nb0 hK hP hD hS [0, 1, 2, 3, 4, 5, 6, 7, 8, 9, 10, 11, 12, 13] (0, num, den, mag, fac, pc, ic, sta, lb, la, fo, dee, kc, df, ag, mk, sc, nu, co, fi, ad, it, sp, stk) rfl (by decide) (by exact ⟨rfl, by (try dsimp only); omega, Or.inr (Or.inr (Or.inr (Or.inr (Or.inr (Or.inr (Or.inr (Or.inr (Or.inr (⟨by (try dsimp only); omega, rfl⟩))))))))), ⟨by (try dsimp only); omega, by (try dsimp only); omega, by (try dsimp only); omega, by assumption, by assumption, by first | assumption | exact FO_m, by (try dsimp only); omega, by (try dsimp only); omega⟩⟩) dX9_inPage_138
                · skip
                  have z_15 := mt (nI_ltI (a := k) (b := 158) (by omega) (by omega)).mpr c_15
                  refine lv_iload_n hx hb dX9_inPage_113 rfl (lv_at hl 1 rfl) ?_
                  refine lv_sipush (v := nI 165) hx hb dX9_inPage_114 (by decide) ?_
                  refine lv_icmp_gt (tgt := 130) hx hb dX9_inPage_117 (by decide) (fun c_18 => ?_) (fun c_18 => ?_)
                  · skip
                    have z_18 := (nI_ltI (a := 165) (b := k) (by omega) (by omega)).mp c_18
                    refine lv_iload_n hx hb dX9_inPage_130 rfl (lv_at hl 1 rfl) ?_
                    refine lv_sipush (v := nI 133) hx hb dX9_inPage_131 (by decide) ?_
                    refine lv_icmp_eq (tgt := 139) hx hb dX9_inPage_134 (by decide) (fun c_19 => ?_) (fun c_19 => ?_)
                    · skip
                      have z_19 := (nI_eq (a := k) (b := 133) (by omega) (by omega)).mp c_19
                      refine lv_aload_n hx hb dX9_inPage_139 rfl (lv_at hl 0 rfl) ?_
                      refine lv_iconst (v := nI 1) hx hb dX9_inPage_140 (by decide) ?_
                      refine va_put (D := G) (ci := 8) (v := .int (nI 1)) (ty := .int) (C := RX9) (T := TX9) (N := 30) hx hb hts hi_X9 tyX9 tyX9_ok nmX9 hown hK hP hD hS 0 rfl rfl 22 (by decide) f_128 (fun _ h9 => h9) rfl (by decide +kernel) rfl rfl (Nat.le_of_ble_eq_true rfl) dX9_inPage_141 (fun H locs hP hD hS => ?_)
                      have hP : va_P G vwCl [oM q ref n num den mag fac who fnd pc ic a 1 lb la fo dee kc, aI ci (q 1) 600 fl, aI ci (q 2) 1024 wd, aI cz (q 3) 8 df, aI cz (q 4) 8 ag, aI ci (q 5) 8 mk, aI ci (q 6) 8 sc, aI ci (q 7) 12 nu, aI ci (q 8) 12 co, aI ci (q 9) 12 fi, aI ci (q 10) 12 ad, aI ci (q 11) 1800 it, aI ci (q 12) 8 sp, aI ci (q 13) 160 stk] H := hP
                      have hD : va_D A [oM q ref n num den mag fac who fnd pc ic a 1 lb la fo dee kc, aI ci (q 1) 600 fl, aI ci (q 2) 1024 wd, aI cz (q 3) 8 df, aI cz (q 4) 8 ag, aI ci (q 5) 8 mk, aI ci (q 6) 8 sc, aI ci (q 7) 12 nu, aI ci (q 8) 12 co, aI ci (q 9) 12 fi, aI ci (q 10) 12 ad, aI ci (q 11) 1800 it, aI ci (q 12) 8 sp, aI ci (q 13) 160 stk] := hD
                      refine lv_aload_n hx hb dX9_inPage_144 rfl (lv_at hl 0 rfl) ?_
                      refine va_get (D := G) (ci := 8) (v := .int (nI kc)) (C := RX9) (T := TX9) (N := 30) hx hb hts hi_X9 hown hK hP 0 rfl rfl 27 (by decide) f_111 (fun _ h9 => h9) rfl dX9_inPage_145 ?_
                      refine lv_if_ne (tgt := 155) hx hb dX9_inPage_148 (by decide) (fun c_20 => ?_) (fun c_20 => ?_)
                      · skip
                        have z_20 := mt (nI_eq (a := kc) (b := 0) (by omega) (by omega)).mpr c_20
                        refine lv_iconst (v := nI 0) hx hb dX9_inPage_155 (by decide) ?_
                        exact rI (v := nI 0) hx hb hr hlocks nb0 hK hP hD hS [0, 1, 2, 3, 4, 5, 6, 7, 8, 9, 10, 11, 12, 13] (0, num, den, mag, fac, pc, ic, 1, lb, la, fo, dee, kc, df, ag, mk, sc, nu, co, fi, ad, it, sp, stk) rfl (by decide) (by exact ⟨rfl, by (try dsimp only); omega, Or.inr (Or.inr (Or.inr (Or.inr (Or.inl ⟨by (try dsimp only); omega, Or.inr ⟨rfl, by (try dsimp only); omega⟩, rfl⟩)))), ⟨by (try dsimp only); omega, by (try dsimp only); omega, by (try dsimp only); omega, by assumption, by assumption, by first | assumption | exact FO_m, by (try dsimp only); omega, by (try dsimp only); omega⟩⟩) dX9_inPage_156
                      · skip
                        have z_20 := (nI_eq (a := kc) (b := 0) (by omega) (by omega)).mp c_20
                        refine lv_iconst (v := nI 1) hx hb dX9_inPage_151 (by decide) ?_
                        refine lv_goto (tgt := 156) hx hb dX9_inPage_152 (by decide) ?_
                        exact rI (v := nI 1) hx hb hr hlocks nb1 hK hP hD hS [0, 1, 2, 3, 4, 5, 6, 7, 8, 9, 10, 11, 12, 13] (1, num, den, mag, fac, pc, ic, 1, lb, la, fo, dee, kc, df, ag, mk, sc, nu, co, fi, ad, it, sp, stk) rfl (by decide) (by exact ⟨rfl, by (try dsimp only); omega, Or.inr (Or.inr (Or.inr (Or.inr (Or.inl ⟨by (try dsimp only); omega, Or.inl ⟨rfl, by (try dsimp only); omega⟩, rfl⟩)))), ⟨by (try dsimp only); omega, by (try dsimp only); omega, by (try dsimp only); omega, by assumption, by assumption, by first | assumption | exact FO_m, by (try dsimp only); omega, by (try dsimp only); omega⟩⟩) dX9_inPage_156
                    · skip
                      have z_19 := mt (nI_eq (a := k) (b := 133) (by omega) (by omega)).mpr c_19
                      refine lv_iconst (v := nI 0) hx hb dX9_inPage_137 (by decide) ?_
                      exact rI (v := nI 0) hx hb hr hlocks nb0 hK hP hD hS [0, 1, 2, 3, 4, 5, 6, 7, 8, 9, 10, 11, 12, 13] (0, num, den, mag, fac, pc, ic, sta, lb, la, fo, dee, kc, df, ag, mk, sc, nu, co, fi, ad, it, sp, stk) rfl (by decide) (by exact ⟨rfl, by (try dsimp only); omega, Or.inr (Or.inr (Or.inr (Or.inr (Or.inr (Or.inr (Or.inr (Or.inr (Or.inr (⟨by (try dsimp only); omega, rfl⟩))))))))), ⟨by (try dsimp only); omega, by (try dsimp only); omega, by (try dsimp only); omega, by assumption, by assumption, by first | assumption | exact FO_m, by (try dsimp only); omega, by (try dsimp only); omega⟩⟩) dX9_inPage_138
                  · skip
                    have z_18 := mt (nI_ltI (a := 165) (b := k) (by omega) (by omega)).mpr c_18
                    refine lv_aload_n hx hb dX9_inPage_120 rfl (lv_at hl 0 rfl) ?_
                    refine lv_iload_n hx hb dX9_inPage_121 rfl (lv_at hl 1 rfl) ?_
                    refine lv_sipush (v := nI 158) hx hb dX9_inPage_122 (by decide) ?_
                    refine lv_isub hx hb dX9_inPage_125 ?_
                    refine tp (pk_sub (by omega)) ?_
                    refine jI (va_runV (As := [.int (nI (k - 158))]) (rest := []) ⟨hx, hb, hml, hown, hts⟩ (c_X9_choose l G ci cz cl q H.size (k - 158) ref n num den mag fac who fnd pc ic a sta lb la fo dee kc fl wd df ag mk sc nu co fi ad it sp stk (by omega) (by first | assumption | exact FO_m)) (cwV 1 hts gX9_inPage_X9_choose rfl rfl rfl (by decide +kernel) ⟨(Nat.le_of_ble_eq_true rfl), (Nat.le_of_ble_eq_true rfl)⟩) (pV (wc := [oM q ref n num den mag fac who fnd pc ic a sta lb la fo dee kc, aI ci (q 1) 600 fl, aI ci (q 2) 1024 wd, aI cz (q 3) 8 df, aI cz (q 4) 8 ag, aI ci (q 5) 8 mk, aI ci (q 6) 8 sc, aI ci (q 7) 12 nu, aI ci (q 8) 12 co, aI ci (q 9) 12 fi, aI ci (q 10) 12 ad, aI ci (q 11) 1800 it, aI ci (q 12) 8 sp, aI ci (q 13) 160 stk]) ok hK hP hD hS hA hO [0, 1, 2, 3, 4, 5, 6, 7, 8, 9, 10, 11, 12, 13] rfl (by decide) 0 rfl rfl) rfl rfl hl.1 rfl (lv_room (Nat.le_of_ble_eq_true rfl)) dX9_inPage_126 ⟨(Nat.le_of_ble_eq_true rfl), (Nat.le_of_ble_eq_true rfl)⟩) (wr := []) hP hD hS hA [0, 1, 2, 3, 4, 5, 6, 7, 8, 9, 10, 11, 12, 13] [] rfl rfl (by decide) (by decide) (fun r_21 u H locs hw_21 hP hD hS => ?_)
                    obtain ⟨bo_21, fo2_21⟩ := u
                    try dsimp only at hw_21
                    obtain ⟨rfl, h_21, g_21, O_21⟩ := hw_21
                    have hP : va_P G vwCl [oM q ref n num den mag fac who fnd pc ic a sta lb la fo2_21 dee kc, aI ci (q 1) 600 fl, aI ci (q 2) 1024 wd, aI cz (q 3) 8 df, aI cz (q 4) 8 ag, aI ci (q 5) 8 mk, aI ci (q 6) 8 sc, aI ci (q 7) 12 nu, aI ci (q 8) 12 co, aI ci (q 9) 12 fi, aI ci (q 10) 12 ad, aI ci (q 11) 1800 it, aI ci (q 12) 8 sp, aI ci (q 13) 160 stk] H := hP
                    have hD : va_D A [oM q ref n num den mag fac who fnd pc ic a sta lb la fo2_21 dee kc, aI ci (q 1) 600 fl, aI ci (q 2) 1024 wd, aI cz (q 3) 8 df, aI cz (q 4) 8 ag, aI ci (q 5) 8 mk, aI ci (q 6) 8 sc, aI ci (q 7) 12 nu, aI ci (q 8) 12 co, aI ci (q 9) 12 fi, aI ci (q 10) 12 ad, aI ci (q 11) 1800 it, aI ci (q 12) 8 sp, aI ci (q 13) 160 stk] := hD
                    exact rI (v := nI bo_21) hx hb hr hlocks (nbn (by omega)) hK hP hD hS [0, 1, 2, 3, 4, 5, 6, 7, 8, 9, 10, 11, 12, 13] (bo_21, num, den, mag, fac, pc, ic, sta, lb, la, fo2_21, dee, kc, df, ag, mk, sc, nu, co, fi, ad, it, sp, stk) rfl (by decide) (by exact ⟨rfl, by (try dsimp only); omega, Or.inr (Or.inr (Or.inr (Or.inr (Or.inr (Or.inr (Or.inr (Or.inr (Or.inl ⟨by (try dsimp only); omega, by (try dsimp only); omega, _, g_21, rfl⟩)))))))), ⟨by (try dsimp only); omega, by (try dsimp only); omega, by (try dsimp only); omega, by assumption, by assumption, by first | assumption | exact FO_m, by (try dsimp only); omega, by (try dsimp only); omega⟩⟩) dX9_inPage_129
              · skip
                have z_14 := mt (nI_ltI (a := 157) (b := k) (by omega) (by omega)).mpr c_14
                refine lv_aload_n hx hb dX9_inPage_100 rfl (lv_at hl 0 rfl) ?_
                refine lv_iload_n hx hb dX9_inPage_101 rfl (lv_at hl 1 rfl) ?_
                refine jI (va_runV (As := [.int (nI k)]) (rest := []) ⟨hx, hb, hml, hown, hts⟩ (c_X9_moves l G ci cz cl q H.size k ref n num den mag fac who fnd pc ic a sta lb la fo dee kc fl wd df ag mk sc nu co fi ad it sp stk (by omega) hB (by omega) (by assumption) (by first | assumption | exact FO_m)) (cwV 1 hts gX9_inPage_X9_moves rfl rfl rfl (by decide +kernel) ⟨(Nat.le_of_ble_eq_true rfl), (Nat.le_of_ble_eq_true rfl)⟩) (pV (wc := [oM q ref n num den mag fac who fnd pc ic a sta lb la fo dee kc, aI ci (q 1) 600 fl, aI ci (q 2) 1024 wd, aI cz (q 3) 8 df, aI cz (q 4) 8 ag, aI ci (q 5) 8 mk, aI ci (q 6) 8 sc, aI ci (q 7) 12 nu, aI ci (q 8) 12 co, aI ci (q 9) 12 fi, aI ci (q 10) 12 ad, aI ci (q 11) 1800 it, aI ci (q 12) 8 sp, aI ci (q 13) 160 stk]) ok hK hP hD hS hA hO [0, 1, 2, 3, 4, 5, 6, 7, 8, 9, 10, 11, 12, 13] rfl (by decide) 0 rfl rfl) rfl rfl hl.1 rfl (lv_room (Nat.le_of_ble_eq_true rfl)) dX9_inPage_102 ⟨(Nat.le_of_ble_eq_true rfl), (Nat.le_of_ble_eq_true rfl)⟩) (wr := []) hP hD hS hA [0, 1, 2, 3, 4, 5, 6, 7, 8, 9, 10, 11, 12, 13] [] rfl rfl (by decide) (by decide) (fun r_22 u H locs hw_22 hP hD hS => ?_)
                obtain ⟨bo_22, sp2_22⟩ := u
                try dsimp only at hw_22
                obtain ⟨rfl, h_22, i_22, g_22⟩ := hw_22
                have hP : va_P G vwCl [oM q ref n num den mag fac who fnd pc ic a sta lb la fo dee kc, aI ci (q 1) 600 fl, aI ci (q 2) 1024 wd, aI cz (q 3) 8 df, aI cz (q 4) 8 ag, aI ci (q 5) 8 mk, aI ci (q 6) 8 sc, aI ci (q 7) 12 nu, aI ci (q 8) 12 co, aI ci (q 9) 12 fi, aI ci (q 10) 12 ad, aI ci (q 11) 1800 it, aI ci (q 12) 8 sp2_22, aI ci (q 13) 160 stk] H := hP
                have hD : va_D A [oM q ref n num den mag fac who fnd pc ic a sta lb la fo dee kc, aI ci (q 1) 600 fl, aI ci (q 2) 1024 wd, aI cz (q 3) 8 df, aI cz (q 4) 8 ag, aI ci (q 5) 8 mk, aI ci (q 6) 8 sc, aI ci (q 7) 12 nu, aI ci (q 8) 12 co, aI ci (q 9) 12 fi, aI ci (q 10) 12 ad, aI ci (q 11) 1800 it, aI ci (q 12) 8 sp2_22, aI ci (q 13) 160 stk] := hD
                exact rI (v := nI bo_22) hx hb hr hlocks (nbn (by omega)) hK hP hD hS [0, 1, 2, 3, 4, 5, 6, 7, 8, 9, 10, 11, 12, 13] (bo_22, num, den, mag, fac, pc, ic, sta, lb, la, fo, dee, kc, df, ag, mk, sc, nu, co, fi, ad, it, sp2_22, stk) rfl (by decide) (by exact ⟨rfl, by (try dsimp only); omega, Or.inr (Or.inr (Or.inr (Or.inr (Or.inr (Or.inr (Or.inr (Or.inl ⟨by (try dsimp only); omega, by (try dsimp only); omega, by (try dsimp only); omega, _, g_22, rfl⟩))))))), ⟨by (try dsimp only); omega, by (try dsimp only); omega, by (try dsimp only); omega, by assumption, by assumption, by first | assumption | exact FO_m, by (try dsimp only); omega, by (try dsimp only); omega⟩⟩) dX9_inPage_105
          · skip
            have z_5 := (nI_eq (a := k) (b := 135) (by omega) (by omega)).mp c_5
            refine lv_aload_n hx hb dX9_inPage_81 rfl (lv_at hl 0 rfl) ?_
            refine jI (va_runV (As := []) (rest := []) ⟨hx, hb, hml, hown, hts⟩ (c_X9_pop l G ci cz cl q H.size ref n num den mag fac who fnd pc ic a sta lb la fo dee kc fl wd df ag mk sc nu co fi ad it sp stk (by omega)) (cwV 0 hts gX9_inPage_X9_pop rfl rfl rfl (by decide +kernel) ⟨(Nat.le_of_ble_eq_true rfl), (Nat.le_of_ble_eq_true rfl)⟩) (pV (wc := [oM q ref n num den mag fac who fnd pc ic a sta lb la fo dee kc, aI ci (q 1) 600 fl, aI ci (q 2) 1024 wd, aI cz (q 3) 8 df, aI cz (q 4) 8 ag, aI ci (q 5) 8 mk, aI ci (q 6) 8 sc, aI ci (q 7) 12 nu, aI ci (q 8) 12 co, aI ci (q 9) 12 fi, aI ci (q 10) 12 ad, aI ci (q 11) 1800 it, aI ci (q 12) 8 sp, aI ci (q 13) 160 stk]) ok hK hP hD hS hA hO [0, 1, 2, 3, 4, 5, 6, 7, 8, 9, 10, 11, 12, 13] rfl (by decide) 0 rfl rfl) rfl rfl hl.1 rfl (lv_room (Nat.le_of_ble_eq_true rfl)) dX9_inPage_82 ⟨(Nat.le_of_ble_eq_true rfl), (Nat.le_of_ble_eq_true rfl)⟩) (wr := []) hP hD hS hA [0, 1, 2, 3, 4, 5, 6, 7, 8, 9, 10, 11, 12, 13] [] rfl rfl (by decide) (by decide) (fun r_23 u H locs hw_23 hP hD hS => ?_)
            obtain ⟨bo_23, kc2_23, sp2_23⟩ := u
            try dsimp only at hw_23
            obtain ⟨rfl, h_23, g_23, i_23⟩ := hw_23
            have hP : va_P G vwCl [oM q ref n num den mag fac who fnd pc ic a sta lb la fo dee kc2_23, aI ci (q 1) 600 fl, aI ci (q 2) 1024 wd, aI cz (q 3) 8 df, aI cz (q 4) 8 ag, aI ci (q 5) 8 mk, aI ci (q 6) 8 sc, aI ci (q 7) 12 nu, aI ci (q 8) 12 co, aI ci (q 9) 12 fi, aI ci (q 10) 12 ad, aI ci (q 11) 1800 it, aI ci (q 12) 8 sp2_23, aI ci (q 13) 160 stk] H := hP
            have hD : va_D A [oM q ref n num den mag fac who fnd pc ic a sta lb la fo dee kc2_23, aI ci (q 1) 600 fl, aI ci (q 2) 1024 wd, aI cz (q 3) 8 df, aI cz (q 4) 8 ag, aI ci (q 5) 8 mk, aI ci (q 6) 8 sc, aI ci (q 7) 12 nu, aI ci (q 8) 12 co, aI ci (q 9) 12 fi, aI ci (q 10) 12 ad, aI ci (q 11) 1800 it, aI ci (q 12) 8 sp2_23, aI ci (q 13) 160 stk] := hD
            exact rI (v := nI bo_23) hx hb hr hlocks (nbn (by omega)) hK hP hD hS [0, 1, 2, 3, 4, 5, 6, 7, 8, 9, 10, 11, 12, 13] (bo_23, num, den, mag, fac, pc, ic, sta, lb, la, fo, dee, kc2_23, df, ag, mk, sc, nu, co, fi, ad, it, sp2_23, stk) rfl (by decide) (by exact ⟨rfl, by (try dsimp only); omega, Or.inr (Or.inr (Or.inr (Or.inr (Or.inr (Or.inr (Or.inl ⟨by (try dsimp only); omega, _, _, g_23, rfl⟩)))))), ⟨by (try dsimp only); omega, by (try dsimp only); omega, by (try dsimp only); omega, by assumption, by assumption, by first | assumption | exact FO_m, by (try dsimp only); omega, by (try dsimp only); omega⟩⟩) dX9_inPage_85
        · skip
          have z_4 := (nI_eq (a := k) (b := 134) (by omega) (by omega)).mp c_4
          refine lv_aload_n hx hb dX9_inPage_69 rfl (lv_at hl 0 rfl) ?_
          refine jI (va_runV (As := []) (rest := []) ⟨hx, hb, hml, hown, hts⟩ (c_X9_push l G ci cz cl q H.size ref n num den mag fac who fnd pc ic a sta lb la fo dee kc fl wd df ag mk sc nu co fi ad it sp stk (by omega)) (cwV 0 hts gX9_inPage_X9_push rfl rfl rfl (by decide +kernel) ⟨(Nat.le_of_ble_eq_true rfl), (Nat.le_of_ble_eq_true rfl)⟩) (pV (wc := [oM q ref n num den mag fac who fnd pc ic a sta lb la fo dee kc, aI ci (q 1) 600 fl, aI ci (q 2) 1024 wd, aI cz (q 3) 8 df, aI cz (q 4) 8 ag, aI ci (q 5) 8 mk, aI ci (q 6) 8 sc, aI ci (q 7) 12 nu, aI ci (q 8) 12 co, aI ci (q 9) 12 fi, aI ci (q 10) 12 ad, aI ci (q 11) 1800 it, aI ci (q 12) 8 sp, aI ci (q 13) 160 stk]) ok hK hP hD hS hA hO [0, 1, 2, 3, 4, 5, 6, 7, 8, 9, 10, 11, 12, 13] rfl (by decide) 0 rfl rfl) rfl rfl hl.1 rfl (lv_room (Nat.le_of_ble_eq_true rfl)) dX9_inPage_70 ⟨(Nat.le_of_ble_eq_true rfl), (Nat.le_of_ble_eq_true rfl)⟩) (wr := []) hP hD hS hA [0, 1, 2, 3, 4, 5, 6, 7, 8, 9, 10, 11, 12, 13] [] rfl rfl (by decide) (by decide) (fun r_24 u H locs hw_24 hP hD hS => ?_)
          obtain ⟨bo_24, dee2_24, kc2_24, stk2_24⟩ := u
          try dsimp only at hw_24
          obtain ⟨rfl, h_24, g_24, i_24, j_24⟩ := hw_24
          have hP : va_P G vwCl [oM q ref n num den mag fac who fnd pc ic a sta lb la fo dee2_24 kc2_24, aI ci (q 1) 600 fl, aI ci (q 2) 1024 wd, aI cz (q 3) 8 df, aI cz (q 4) 8 ag, aI ci (q 5) 8 mk, aI ci (q 6) 8 sc, aI ci (q 7) 12 nu, aI ci (q 8) 12 co, aI ci (q 9) 12 fi, aI ci (q 10) 12 ad, aI ci (q 11) 1800 it, aI ci (q 12) 8 sp, aI ci (q 13) 160 stk2_24] H := hP
          have hD : va_D A [oM q ref n num den mag fac who fnd pc ic a sta lb la fo dee2_24 kc2_24, aI ci (q 1) 600 fl, aI ci (q 2) 1024 wd, aI cz (q 3) 8 df, aI cz (q 4) 8 ag, aI ci (q 5) 8 mk, aI ci (q 6) 8 sc, aI ci (q 7) 12 nu, aI ci (q 8) 12 co, aI ci (q 9) 12 fi, aI ci (q 10) 12 ad, aI ci (q 11) 1800 it, aI ci (q 12) 8 sp, aI ci (q 13) 160 stk2_24] := hD
          exact rI (v := nI bo_24) hx hb hr hlocks (nbn (by omega)) hK hP hD hS [0, 1, 2, 3, 4, 5, 6, 7, 8, 9, 10, 11, 12, 13] (bo_24, num, den, mag, fac, pc, ic, sta, lb, la, fo, dee2_24, kc2_24, df, ag, mk, sc, nu, co, fi, ad, it, sp, stk2_24) rfl (by decide) (by exact ⟨rfl, by (try dsimp only); omega, Or.inr (Or.inr (Or.inr (Or.inr (Or.inr (Or.inl ⟨by (try dsimp only); omega, _, _, _, g_24, rfl⟩))))), ⟨by (try dsimp only); omega, by (try dsimp only); omega, by (try dsimp only); omega, by assumption, by assumption, by first | assumption | exact FO_m, by (try dsimp only); omega, by (try dsimp only); omega⟩⟩) dX9_inPage_73
      · skip
        have z_3 := mt (nI_leI (a := 131) (b := k) (by omega) (by omega)).mpr c_3
        refine lv_aload_n hx hb dX9_inPage_45 rfl (lv_at hl 0 rfl) ?_
        refine lv_iload_n hx hb dX9_inPage_46 rfl (lv_at hl 1 rfl) ?_
        refine lv_sipush (v := nI 129) hx hb dX9_inPage_47 (by decide) ?_
        refine lv_icmp_ne (tgt := 57) hx hb dX9_inPage_50 (by decide) (fun c_25 => ?_) (fun c_25 => ?_)
        · skip
          have z_25 := mt (nI_eq (a := k) (b := 129) (by omega) (by omega)).mpr c_25
          refine lv_iconst (v := nI 0) hx hb dX9_inPage_57 (by decide) ?_
          refine jI (va_runV (As := [.int (nI 0)]) (rest := []) ⟨hx, hb, hml, hown, hts⟩ (c_X9_rule l G ci cz cl q H.size 0 ref n num den mag fac who fnd pc ic a sta lb la fo dee kc fl wd df ag mk sc nu co fi ad it sp stk (by omega) hB (by omega) (by omega) (by omega) ⟨by omega, by omega, by omega, by assumption, by assumption, by first | assumption | exact FO_m, by omega, by omega⟩) (cwV 1 hts gX9_inPage_X9_rule rfl rfl rfl (by decide +kernel) ⟨(Nat.le_of_ble_eq_true rfl), (Nat.le_of_ble_eq_true rfl)⟩) (pV (wc := [oM q ref n num den mag fac who fnd pc ic a sta lb la fo dee kc, aI ci (q 1) 600 fl, aI ci (q 2) 1024 wd, aI cz (q 3) 8 df, aI cz (q 4) 8 ag, aI ci (q 5) 8 mk, aI ci (q 6) 8 sc, aI ci (q 7) 12 nu, aI ci (q 8) 12 co, aI ci (q 9) 12 fi, aI ci (q 10) 12 ad, aI ci (q 11) 1800 it, aI ci (q 12) 8 sp, aI ci (q 13) 160 stk]) ok hK hP hD hS hA hO [0, 1, 2, 3, 4, 5, 6, 7, 8, 9, 10, 11, 12, 13] rfl (by decide) 0 rfl rfl) rfl rfl hl.1 rfl (lv_room (Nat.le_of_ble_eq_true rfl)) dX9_inPage_58 ⟨(Nat.le_of_ble_eq_true rfl), (Nat.le_of_ble_eq_true rfl)⟩) (wr := []) hP hD hS hA [0, 1, 2, 3, 4, 5, 6, 7, 8, 9, 10, 11, 12, 13] [] rfl rfl (by decide) (by decide) (fun r_26 u H locs hw_26 hP hD hS => ?_)
          obtain ⟨bo_26, ic2_26, co2_26, it2_26, sp2_26⟩ := u
          try dsimp only at hw_26
          obtain ⟨rfl, h_26, g_26, i_26, P_26⟩ := hw_26
          have hP : va_P G vwCl [oM q ref n num den mag fac who fnd pc ic2_26 a sta lb la fo dee kc, aI ci (q 1) 600 fl, aI ci (q 2) 1024 wd, aI cz (q 3) 8 df, aI cz (q 4) 8 ag, aI ci (q 5) 8 mk, aI ci (q 6) 8 sc, aI ci (q 7) 12 nu, aI ci (q 8) 12 co2_26, aI ci (q 9) 12 fi, aI ci (q 10) 12 ad, aI ci (q 11) 1800 it2_26, aI ci (q 12) 8 sp2_26, aI ci (q 13) 160 stk] H := hP
          have hD : va_D A [oM q ref n num den mag fac who fnd pc ic2_26 a sta lb la fo dee kc, aI ci (q 1) 600 fl, aI ci (q 2) 1024 wd, aI cz (q 3) 8 df, aI cz (q 4) 8 ag, aI ci (q 5) 8 mk, aI ci (q 6) 8 sc, aI ci (q 7) 12 nu, aI ci (q 8) 12 co2_26, aI ci (q 9) 12 fi, aI ci (q 10) 12 ad, aI ci (q 11) 1800 it2_26, aI ci (q 12) 8 sp2_26, aI ci (q 13) 160 stk] := hD
          exact rI (v := nI bo_26) hx hb hr hlocks (nbn (by omega)) hK hP hD hS [0, 1, 2, 3, 4, 5, 6, 7, 8, 9, 10, 11, 12, 13] (bo_26, num, den, mag, fac, pc, ic2_26, sta, lb, la, fo, dee, kc, df, ag, mk, sc, nu, co2_26, fi, ad, it2_26, sp2_26, stk) rfl (by decide) (by first | exact ⟨rfl, by (try dsimp only); omega, Or.inr (Or.inr (Or.inl ⟨by (try dsimp only); omega, _, _, _, _, g_26, rfl⟩)), ⟨by (try dsimp only); omega, by (try dsimp only); omega, by (try dsimp only); omega, by assumption, by assumption, by first | assumption | exact FO_m, by (try dsimp only); omega, by (try dsimp only); omega⟩⟩ | exact ⟨rfl, by (try dsimp only); omega, Or.inr (Or.inr (Or.inr (Or.inl ⟨by (try dsimp only); omega, _, _, _, _, g_26, rfl⟩))), ⟨by (try dsimp only); omega, by (try dsimp only); omega, by (try dsimp only); omega, by assumption, by assumption, by first | assumption | exact FO_m, by (try dsimp only); omega, by (try dsimp only); omega⟩⟩) dX9_inPage_61
        · skip
          have z_25 := (nI_eq (a := k) (b := 129) (by omega) (by omega)).mp c_25
          refine lv_iconst (v := nI 1) hx hb dX9_inPage_53 (by decide) ?_
          refine lv_goto (tgt := 58) hx hb dX9_inPage_54 (by decide) ?_
          refine jI (va_runV (As := [.int (nI 1)]) (rest := []) ⟨hx, hb, hml, hown, hts⟩ (c_X9_rule l G ci cz cl q H.size 1 ref n num den mag fac who fnd pc ic a sta lb la fo dee kc fl wd df ag mk sc nu co fi ad it sp stk (by omega) hB (by omega) (by omega) (by omega) ⟨by omega, by omega, by omega, by assumption, by assumption, by first | assumption | exact FO_m, by omega, by omega⟩) (cwV 1 hts gX9_inPage_X9_rule rfl rfl rfl (by decide +kernel) ⟨(Nat.le_of_ble_eq_true rfl), (Nat.le_of_ble_eq_true rfl)⟩) (pV (wc := [oM q ref n num den mag fac who fnd pc ic a sta lb la fo dee kc, aI ci (q 1) 600 fl, aI ci (q 2) 1024 wd, aI cz (q 3) 8 df, aI cz (q 4) 8 ag, aI ci (q 5) 8 mk, aI ci (q 6) 8 sc, aI ci (q 7) 12 nu, aI ci (q 8) 12 co, aI ci (q 9) 12 fi, aI ci (q 10) 12 ad, aI ci (q 11) 1800 it, aI ci (q 12) 8 sp, aI ci (q 13) 160 stk]) ok hK hP hD hS hA hO [0, 1, 2, 3, 4, 5, 6, 7, 8, 9, 10, 11, 12, 13] rfl (by decide) 0 rfl rfl) rfl rfl hl.1 rfl (lv_room (Nat.le_of_ble_eq_true rfl)) dX9_inPage_58 ⟨(Nat.le_of_ble_eq_true rfl), (Nat.le_of_ble_eq_true rfl)⟩) (wr := []) hP hD hS hA [0, 1, 2, 3, 4, 5, 6, 7, 8, 9, 10, 11, 12, 13] [] rfl rfl (by decide) (by decide) (fun r_27 u H locs hw_27 hP hD hS => ?_)
          obtain ⟨bo_27, ic2_27, co2_27, it2_27, sp2_27⟩ := u
          try dsimp only at hw_27
          obtain ⟨rfl, h_27, g_27, i_27, P_27⟩ := hw_27
          have hP : va_P G vwCl [oM q ref n num den mag fac who fnd pc ic2_27 a sta lb la fo dee kc, aI ci (q 1) 600 fl, aI ci (q 2) 1024 wd, aI cz (q 3) 8 df, aI cz (q 4) 8 ag, aI ci (q 5) 8 mk, aI ci (q 6) 8 sc, aI ci (q 7) 12 nu, aI ci (q 8) 12 co2_27, aI ci (q 9) 12 fi, aI ci (q 10) 12 ad, aI ci (q 11) 1800 it2_27, aI ci (q 12) 8 sp2_27, aI ci (q 13) 160 stk] H := hP
          have hD : va_D A [oM q ref n num den mag fac who fnd pc ic2_27 a sta lb la fo dee kc, aI ci (q 1) 600 fl, aI ci (q 2) 1024 wd, aI cz (q 3) 8 df, aI cz (q 4) 8 ag, aI ci (q 5) 8 mk, aI ci (q 6) 8 sc, aI ci (q 7) 12 nu, aI ci (q 8) 12 co2_27, aI ci (q 9) 12 fi, aI ci (q 10) 12 ad, aI ci (q 11) 1800 it2_27, aI ci (q 12) 8 sp2_27, aI ci (q 13) 160 stk] := hD
          exact rI (v := nI bo_27) hx hb hr hlocks (nbn (by omega)) hK hP hD hS [0, 1, 2, 3, 4, 5, 6, 7, 8, 9, 10, 11, 12, 13] (bo_27, num, den, mag, fac, pc, ic2_27, sta, lb, la, fo, dee, kc, df, ag, mk, sc, nu, co2_27, fi, ad, it2_27, sp2_27, stk) rfl (by decide) (by first | exact ⟨rfl, by (try dsimp only); omega, Or.inr (Or.inr (Or.inl ⟨by (try dsimp only); omega, _, _, _, _, g_27, rfl⟩)), ⟨by (try dsimp only); omega, by (try dsimp only); omega, by (try dsimp only); omega, by assumption, by assumption, by first | assumption | exact FO_m, by (try dsimp only); omega, by (try dsimp only); omega⟩⟩ | exact ⟨rfl, by (try dsimp only); omega, Or.inr (Or.inr (Or.inr (Or.inl ⟨by (try dsimp only); omega, _, _, _, _, g_27, rfl⟩))), ⟨by (try dsimp only); omega, by (try dsimp only); omega, by (try dsimp only); omega, by assumption, by assumption, by first | assumption | exact FO_m, by (try dsimp only); omega, by (try dsimp only); omega⟩⟩) dX9_inPage_61
    · skip
      have z_2 := (nI_eq (a := k) (b := 128) (by omega) (by omega)).mp c_2
      refine lv_aload_n hx hb dX9_inPage_21 rfl (lv_at hl 0 rfl) ?_
      refine lv_aload_n hx hb dX9_inPage_22 rfl (lv_at hl 0 rfl) ?_
      refine va_get (D := G) (ci := 8) (v := .ref (q 1)) (C := RX9) (T := TX9) (N := 30) hx hb hts hi_X9 hown hK hP 0 rfl rfl 1 (by decide) f_7 (fun _ h9 => h9) rfl dX9_inPage_23 ?_
      refine lv_aload_n hx hb dX9_inPage_26 rfl (lv_at hl 0 rfl) ?_
      refine va_get (D := G) (ci := 8) (v := .int (nI a)) (C := RX9) (T := TX9) (N := 30) hx hb hts hi_X9 hown hK hP 0 rfl rfl 21 (by decide) f_105 (fun _ h9 => h9) rfl dX9_inPage_27 ?_
      refine lv_iconst (v := nI 1) hx hb dX9_inPage_30 (by decide) ?_
      refine lv_iadd hx hb dX9_inPage_31 ?_
      refine tp (nI_add _ _) ?_
      refine va_iald hx hb hK hP 1 0 rfl rfl (vp_in_nI (by omega) (by omega)) dX9_inPage_32 ?_
      refine tp (y := fl (a + 1)) (congrArg fl (nI_clamp (by omega))) ?_
      refine tp (y := nI (rdN fl n (a + 1) 1)) (rdN_row hB (by omega)) ?_
      refine lv_iconst (v := nI 0) hx hb dX9_inPage_33 (by decide) ?_
      refine jI (va_runV (As := [.int (nI (rdN fl n (a + 1) 1)), .int (nI 0)]) (rest := []) ⟨hx, hb, hml, hown, hts⟩ (c_X9_character l G ci cz cl q H.size (rdN fl n (a + 1) 1) 0 ref n num den mag fac who fnd pc ic a sta lb la fo dee kc fl wd df ag mk sc nu co fi ad it sp stk (by omega) hB (by omega) (by omega) (by omega) ⟨by omega, by omega, by omega, by assumption, by assumption, by first | assumption | exact FO_m, by omega, by omega⟩) (cwV 2 hts gX9_inPage_X9_character rfl rfl rfl (by decide +kernel) ⟨(Nat.le_of_ble_eq_true rfl), (Nat.le_of_ble_eq_true rfl)⟩) (pV (wc := [oM q ref n num den mag fac who fnd pc ic a sta lb la fo dee kc, aI ci (q 1) 600 fl, aI ci (q 2) 1024 wd, aI cz (q 3) 8 df, aI cz (q 4) 8 ag, aI ci (q 5) 8 mk, aI ci (q 6) 8 sc, aI ci (q 7) 12 nu, aI ci (q 8) 12 co, aI ci (q 9) 12 fi, aI ci (q 10) 12 ad, aI ci (q 11) 1800 it, aI ci (q 12) 8 sp, aI ci (q 13) 160 stk]) ok hK hP hD hS hA hO [0, 1, 2, 3, 4, 5, 6, 7, 8, 9, 10, 11, 12, 13] rfl (by decide) 0 rfl rfl) rfl rfl hl.1 rfl (lv_room (Nat.le_of_ble_eq_true rfl)) dX9_inPage_34 ⟨(Nat.le_of_ble_eq_true rfl), (Nat.le_of_ble_eq_true rfl)⟩) (wr := []) hP hD hS hA [0, 1, 2, 3, 4, 5, 6, 7, 8, 9, 10, 11, 12, 13] [] rfl rfl (by decide) (by decide) (fun r_28 u H locs hw_28 hP hD hS => ?_)
      obtain ⟨bo_28, ic2_28, co2_28, it2_28, sp2_28⟩ := u
      try dsimp only at hw_28
      obtain ⟨rfl, h_28, g_28, i_28, P_28⟩ := hw_28
      have hP : va_P G vwCl [oM q ref n num den mag fac who fnd pc ic2_28 a sta lb la fo dee kc, aI ci (q 1) 600 fl, aI ci (q 2) 1024 wd, aI cz (q 3) 8 df, aI cz (q 4) 8 ag, aI ci (q 5) 8 mk, aI ci (q 6) 8 sc, aI ci (q 7) 12 nu, aI ci (q 8) 12 co2_28, aI ci (q 9) 12 fi, aI ci (q 10) 12 ad, aI ci (q 11) 1800 it2_28, aI ci (q 12) 8 sp2_28, aI ci (q 13) 160 stk] H := hP
      have hD : va_D A [oM q ref n num den mag fac who fnd pc ic2_28 a sta lb la fo dee kc, aI ci (q 1) 600 fl, aI ci (q 2) 1024 wd, aI cz (q 3) 8 df, aI cz (q 4) 8 ag, aI ci (q 5) 8 mk, aI ci (q 6) 8 sc, aI ci (q 7) 12 nu, aI ci (q 8) 12 co2_28, aI ci (q 9) 12 fi, aI ci (q 10) 12 ad, aI ci (q 11) 1800 it2_28, aI ci (q 12) 8 sp2_28, aI ci (q 13) 160 stk] := hD
      exact rI (v := nI bo_28) hx hb hr hlocks (nbn (by omega)) hK hP hD hS [0, 1, 2, 3, 4, 5, 6, 7, 8, 9, 10, 11, 12, 13] (bo_28, num, den, mag, fac, pc, ic2_28, sta, lb, la, fo, dee, kc, df, ag, mk, sc, nu, co2_28, fi, ad, it2_28, sp2_28, stk) rfl (by decide) (by exact ⟨rfl, by (try dsimp only); omega, Or.inr (Or.inl ⟨by (try dsimp only); omega, _, _, _, _, g_28, rfl⟩), ⟨by (try dsimp only); omega, by (try dsimp only); omega, by (try dsimp only); omega, by assumption, by assumption, by first | assumption | exact FO_m, by (try dsimp only); omega, by (try dsimp only); omega⟩⟩) dX9_inPage_37
  · skip
    have z_1 := mt (nI_leI (a := 128) (b := k) (by omega) (by omega)).mpr c_1
    refine lv_aload_n hx hb dX9_inPage_7 rfl (lv_at hl 0 rfl) ?_
    refine lv_iload_n hx hb dX9_inPage_8 rfl (lv_at hl 1 rfl) ?_
    refine lv_iconst (v := nI 1) hx hb dX9_inPage_9 (by decide) ?_
    refine jI (va_runV (As := [.int (nI k), .int (nI 1)]) (rest := []) ⟨hx, hb, hml, hown, hts⟩ (c_X9_character l G ci cz cl q H.size k 1 ref n num den mag fac who fnd pc ic a sta lb la fo dee kc fl wd df ag mk sc nu co fi ad it sp stk (by omega) hB (by omega) (by omega) (by omega) ⟨by omega, by omega, by omega, by assumption, by assumption, by first | assumption | exact FO_m, by omega, by omega⟩) (cwV 2 hts gX9_inPage_X9_character rfl rfl rfl (by decide +kernel) ⟨(Nat.le_of_ble_eq_true rfl), (Nat.le_of_ble_eq_true rfl)⟩) (pV (wc := [oM q ref n num den mag fac who fnd pc ic a sta lb la fo dee kc, aI ci (q 1) 600 fl, aI ci (q 2) 1024 wd, aI cz (q 3) 8 df, aI cz (q 4) 8 ag, aI ci (q 5) 8 mk, aI ci (q 6) 8 sc, aI ci (q 7) 12 nu, aI ci (q 8) 12 co, aI ci (q 9) 12 fi, aI ci (q 10) 12 ad, aI ci (q 11) 1800 it, aI ci (q 12) 8 sp, aI ci (q 13) 160 stk]) ok hK hP hD hS hA hO [0, 1, 2, 3, 4, 5, 6, 7, 8, 9, 10, 11, 12, 13] rfl (by decide) 0 rfl rfl) rfl rfl hl.1 rfl (lv_room (Nat.le_of_ble_eq_true rfl)) dX9_inPage_10 ⟨(Nat.le_of_ble_eq_true rfl), (Nat.le_of_ble_eq_true rfl)⟩) (wr := []) hP hD hS hA [0, 1, 2, 3, 4, 5, 6, 7, 8, 9, 10, 11, 12, 13] [] rfl rfl (by decide) (by decide) (fun r_29 u H locs hw_29 hP hD hS => ?_)
    obtain ⟨bo_29, ic2_29, co2_29, it2_29, sp2_29⟩ := u
    try dsimp only at hw_29
    obtain ⟨rfl, h_29, g_29, i_29, P_29⟩ := hw_29
    have hP : va_P G vwCl [oM q ref n num den mag fac who fnd pc ic2_29 a sta lb la fo dee kc, aI ci (q 1) 600 fl, aI ci (q 2) 1024 wd, aI cz (q 3) 8 df, aI cz (q 4) 8 ag, aI ci (q 5) 8 mk, aI ci (q 6) 8 sc, aI ci (q 7) 12 nu, aI ci (q 8) 12 co2_29, aI ci (q 9) 12 fi, aI ci (q 10) 12 ad, aI ci (q 11) 1800 it2_29, aI ci (q 12) 8 sp2_29, aI ci (q 13) 160 stk] H := hP
    have hD : va_D A [oM q ref n num den mag fac who fnd pc ic2_29 a sta lb la fo dee kc, aI ci (q 1) 600 fl, aI ci (q 2) 1024 wd, aI cz (q 3) 8 df, aI cz (q 4) 8 ag, aI ci (q 5) 8 mk, aI ci (q 6) 8 sc, aI ci (q 7) 12 nu, aI ci (q 8) 12 co2_29, aI ci (q 9) 12 fi, aI ci (q 10) 12 ad, aI ci (q 11) 1800 it2_29, aI ci (q 12) 8 sp2_29, aI ci (q 13) 160 stk] := hD
    exact rI (v := nI bo_29) hx hb hr hlocks (nbn (by omega)) hK hP hD hS [0, 1, 2, 3, 4, 5, 6, 7, 8, 9, 10, 11, 12, 13] (bo_29, num, den, mag, fac, pc, ic2_29, sta, lb, la, fo, dee, kc, df, ag, mk, sc, nu, co2_29, fi, ad, it2_29, sp2_29, stk) rfl (by decide) (by exact ⟨rfl, by (try dsimp only); omega, Or.inl ⟨by (try dsimp only); omega, _, _, _, _, g_29, rfl⟩, ⟨by (try dsimp only); omega, by (try dsimp only); omega, by (try dsimp only); omega, by assumption, by assumption, by first | assumption | exact FO_m, by (try dsimp only); omega, by (try dsimp only); omega⟩⟩) dX9_inPage_13
set_option maxHeartbeats 4000000 in
set_option maxRecDepth 100000 in
theorem c_X9_command (l : Launch) (G : va_G) (ci cz cl : ClassId) (q : Nat → Nat) (sz : Nat) (ref : Int32) (n : Nat) (num : Nat) (den : Nat) (mag : Nat) (fac : UInt64) (who : Nat) (fnd : Int32) (pc : Nat) (ic : Nat) (a : Nat) (sta : Nat) (lb : Nat) (la : Nat) (fo : Int32) (dee : Nat) (kc : Nat) (fl : Nat → Int32) (wd : Nat → Int32) (df : Nat → Int32) (ag : Nat → Int32) (mk : Nat → Int32) (sc : Nat → Int32) (nu : Nat → Int32) (co : Nat → Int32) (fi : Nat → Int32) (ad : Nat → Int32) (it : Nat → Int32) (sp : Nat → Int32) (stk : Nat → Int32) (hn : n ≤ 600) (hB : FB fl) (ha : a < n) (hM : MK kc pc ic fi co fac fo sta lb la dee num den mag) : CtI l yX9_command wsX9_command ({ frames := 6, cells := 0, slots := 0, locals := 134 }) G (TY ci cz cl) O0 [.ref (q 0)] [oM q ref n num den mag fac who fnd pc ic a sta lb la fo dee kc, aI ci (q 1) 600 fl, aI ci (q 2) 1024 wd, aI cz (q 3) 8 df, aI cz (q 4) 8 ag, aI ci (q 5) 8 mk, aI ci (q 6) 8 sc, aI ci (q 7) 12 nu, aI ci (q 8) 12 co, aI ci (q 9) 12 fi, aI ci (q 10) 12 ad, aI ci (q 11) 1800 it, aI ci (q 12) 8 sp, aI ci (q 13) 160 stk] sz (fun (r : Int32) (u : Nat × Nat × Nat × Nat × UInt64 × Nat × Nat × Nat × Nat × Nat × Int32 × Nat × Nat × (Nat → Int32) × (Nat → Int32) × (Nat → Int32) × (Nat → Int32) × (Nat → Int32) × (Nat → Int32) × (Nat → Int32) × (Nat → Int32) × (Nat → Int32) × (Nat → Int32) × (Nat → Int32)) => r = nI u.1 ∧ u.1 ≤ 1 ∧ SM fl wd n a sta lb la num den mag fac pc ic nu ad co it df ag mk sc fo dee kc sp stk u.1 (u.2.2.2.2.2.2.2.1, u.2.2.2.2.2.2.2.2.1, u.2.2.2.2.2.2.2.2.2.1, u.2.1, u.2.2.1, u.2.2.2.1, u.2.2.2.2.1, u.2.2.2.2.2.1, u.2.2.2.2.2.2.1, u.2.2.2.2.2.2.2.2.2.2.2.2.2.2.2.2.2.1, u.2.2.2.2.2.2.2.2.2.2.2.2.2.2.2.2.2.2.2.2.1, u.2.2.2.2.2.2.2.2.2.2.2.2.2.2.2.2.2.2.1, u.2.2.2.2.2.2.2.2.2.2.2.2.2.2.2.2.2.2.2.2.2.1, u.2.2.2.2.2.2.2.2.2.2.2.2.2.1, u.2.2.2.2.2.2.2.2.2.2.2.2.2.2.1, u.2.2.2.2.2.2.2.2.2.2.2.2.2.2.2.1, u.2.2.2.2.2.2.2.2.2.2.2.2.2.2.2.2.1, u.2.2.2.2.2.2.2.2.2.2.1, u.2.2.2.2.2.2.2.2.2.2.2.1, u.2.2.2.2.2.2.2.2.2.2.2.2.1, u.2.2.2.2.2.2.2.2.2.2.2.2.2.2.2.2.2.2.2.2.2.2.1, u.2.2.2.2.2.2.2.2.2.2.2.2.2.2.2.2.2.2.2.2.2.2.2) ∧ (MK u.2.2.2.2.2.2.2.2.2.2.2.2.1 u.2.2.2.2.2.1 u.2.2.2.2.2.2.1 u.2.2.2.2.2.2.2.2.2.2.2.2.2.2.2.2.2.2.2.1 u.2.2.2.2.2.2.2.2.2.2.2.2.2.2.2.2.2.2.1 u.2.2.2.2.1 u.2.2.2.2.2.2.2.2.2.2.1 u.2.2.2.2.2.2.2.1 u.2.2.2.2.2.2.2.2.1 u.2.2.2.2.2.2.2.2.2.1 u.2.2.2.2.2.2.2.2.2.2.2.1 u.2.1 u.2.2.1 u.2.2.2.1) ∧ (u.1 = 1 → rdB fl n a ≤ 169 ∧ a + tbk (rdB fl n a) < n)) (fun u : Nat × Nat × Nat × Nat × UInt64 × Nat × Nat × Nat × Nat × Nat × Int32 × Nat × Nat × (Nat → Int32) × (Nat → Int32) × (Nat → Int32) × (Nat → Int32) × (Nat → Int32) × (Nat → Int32) × (Nat → Int32) × (Nat → Int32) × (Nat → Int32) × (Nat → Int32) × (Nat → Int32) => [oM q ref n u.2.1 u.2.2.1 u.2.2.2.1 u.2.2.2.2.1 who fnd u.2.2.2.2.2.1 u.2.2.2.2.2.2.1 a u.2.2.2.2.2.2.2.1 u.2.2.2.2.2.2.2.2.1 u.2.2.2.2.2.2.2.2.2.1 u.2.2.2.2.2.2.2.2.2.2.1 u.2.2.2.2.2.2.2.2.2.2.2.1 u.2.2.2.2.2.2.2.2.2.2.2.2.1, aI ci (q 1) 600 fl, aI ci (q 2) 1024 wd, aI cz (q 3) 8 u.2.2.2.2.2.2.2.2.2.2.2.2.2.1, aI cz (q 4) 8 u.2.2.2.2.2.2.2.2.2.2.2.2.2.2.1, aI ci (q 5) 8 u.2.2.2.2.2.2.2.2.2.2.2.2.2.2.2.1, aI ci (q 6) 8 u.2.2.2.2.2.2.2.2.2.2.2.2.2.2.2.2.1, aI ci (q 7) 12 u.2.2.2.2.2.2.2.2.2.2.2.2.2.2.2.2.2.1, aI ci (q 8) 12 u.2.2.2.2.2.2.2.2.2.2.2.2.2.2.2.2.2.2.1, aI ci (q 9) 12 u.2.2.2.2.2.2.2.2.2.2.2.2.2.2.2.2.2.2.2.1, aI ci (q 10) 12 u.2.2.2.2.2.2.2.2.2.2.2.2.2.2.2.2.2.2.2.2.1, aI ci (q 11) 1800 u.2.2.2.2.2.2.2.2.2.2.2.2.2.2.2.2.2.2.2.2.2.1, aI ci (q 12) 8 u.2.2.2.2.2.2.2.2.2.2.2.2.2.2.2.2.2.2.2.2.2.2.1, aI ci (q 13) 160 u.2.2.2.2.2.2.2.2.2.2.2.2.2.2.2.2.2.2.2.2.2.2.2]) 0 0 := by
  refine Met.ofW (cc := cX9_command) (maxL := 3) (ret := (some .boolean)) (by decide) rfl ?_
  intro p e s m args below meth c s₁ B hml hv
  obtain ⟨rfl, ⟨hsz, hP, hK, hD0⟩, hO⟩ := hv
  have hx := B.exec
  have hb := B.bytes
  have hr := B.returns
  have hts := atoms_spec (ws := wsX9_command) B.pre
  have hown : s.vm.findClass RX9 = some m.cls := findClass_of_methodNamed B.named
  have hlocks := B.notSynchronized
  subst hsz
  have hD := hD0.self (sz := s.heap.size)
  generalize hAe : va_A [oM q ref n num den mag fac who fnd pc ic a sta lb la fo dee kc, aI ci (q 1) 600 fl, aI ci (q 2) 1024 wd, aI cz (q 3) 8 df, aI cz (q 4) 8 ag, aI ci (q 5) 8 mk, aI ci (q 6) 8 sc, aI ci (q 7) 12 nu, aI ci (q 8) 12 co, aI ci (q 9) 12 fi, aI ci (q 10) 12 ad, aI ci (q 11) 1800 it, aI ci (q 12) 8 sp, aI ci (q 13) 160 stk] s.heap.size = A at hD hO ⊢
  have hA : ∀ q : Nat, s.heap.size ≤ q → A q := fun q h => by rw [← hAe]; exact Or.inr h
  have ok := ok0
  refine startH (A := A) (fun H locs hP hS => ?_) hP
  have hi_X9 := (by decide +kernel : ∀ w ∈ wsX90, w ∈ wsX9_command)
  have f_7 := hts (.fieldLink RX9 7 "PageReaderModel" "file" "[I") (by decide +kernel)
  have f_105 := hts (.fieldLink RX9 105 "PageReaderModel" "at" "I") (by decide +kernel)
  have f_61 := hts (.fieldLink RX9 61 "PageReaderModel" "length" "I") (by decide +kernel)
  have f_128 := hts (.fieldLink RX9 128 "PageReaderModel" "state" "I") (by decide +kernel)
  have hl := lv_entry ([.ref (q 0)]) (n := 3) (Nat.le_of_ble_eq_true rfl)
  rw [lg_entry_eq]
  generalize (lg_sl ([.ref (q 0)]) ++ List.replicate (3 - (lg_sl ([.ref (q 0)])).length) Slot.unset).toArray = ls at hl ⊢
  have hl : lv_has ls 3 [(0, .ref (q 0))] := hl
  obtain ⟨hkc, hpc, hic, hPI, hf, hFO, hst, hbd⟩ := hM
  have hb0 := rdB_le hB n a
  refine lv_aload_n hx hb dX9_command_0 rfl (lv_at hl 0 rfl) ?_
  refine va_get (D := G) (ci := 8) (v := .ref (q 1)) (C := RX9) (T := TX9) (N := 30) hx hb hts hi_X9 hown hK hP 0 rfl rfl 1 (by decide) f_7 (fun _ h9 => h9) rfl dX9_command_1 ?_
  refine lv_aload_n hx hb dX9_command_4 rfl (lv_at hl 0 rfl) ?_
  refine va_get (D := G) (ci := 8) (v := .int (nI a)) (C := RX9) (T := TX9) (N := 30) hx hb hts hi_X9 hown hK hP 0 rfl rfl 21 (by decide) f_105 (fun _ h9 => h9) rfl dX9_command_5 ?_
  refine va_iald hx hb hK hP 1 0 rfl rfl (vp_in_nI (by omega) (by omega)) dX9_command_8 ?_
  refine tp (y := fl a) (congrArg fl (nI_clamp (by omega))) ?_
  refine tp (y := nI (rdB fl n a)) (rdB_row hB (by omega)) ?_
  refine lv_istore_n (lv' := [(1, .int (nI (rdB fl n a))), (0, .ref (q 0))]) hx hb dX9_command_9 rfl hl (by decide) rfl (fun ls hl => ?_)
  refine lv_iload_n hx hb dX9_command_10 rfl (lv_at hl 0 rfl) ?_
  refine jI (va_runS (As := [.int (nI (rdB fl n a))]) (rest := []) ⟨hx, hb, hml, hown, hts⟩ (c_X9_behind l G ci cz cl q H.size (rdB fl n a) (by omega)) (va_cwS 1 hts gX9_command_X9_behind rfl rfl rfl (by decide +kernel) ⟨(Nat.le_of_ble_eq_true rfl), (Nat.le_of_ble_eq_true rfl)⟩) (pS (wc := []) ok hK hP hD hS hA hO [] rfl (by decide)) rfl rfl hl.1 rfl (lv_room (Nat.le_of_ble_eq_true rfl)) dX9_command_11 ⟨(Nat.le_of_ble_eq_true rfl), (Nat.le_of_ble_eq_true rfl)⟩) (wr := [oM q ref n num den mag fac who fnd pc ic a sta lb la fo dee kc, aI ci (q 1) 600 fl, aI ci (q 2) 1024 wd, aI cz (q 3) 8 df, aI cz (q 4) 8 ag, aI ci (q 5) 8 mk, aI ci (q 6) 8 sc, aI ci (q 7) 12 nu, aI ci (q 8) 12 co, aI ci (q 9) 12 fi, aI ci (q 10) 12 ad, aI ci (q 11) 1800 it, aI ci (q 12) 8 sp, aI ci (q 13) 160 stk]) hP hD hS hA [] [0, 1, 2, 3, 4, 5, 6, 7, 8, 9, 10, 11, 12, 13] rfl rfl (by decide) (by decide) (fun r_1 u H locs hw_1 hP hD hS => ?_)
  try dsimp only at hw_1
  have hP : va_P G vwCl [oM q ref n num den mag fac who fnd pc ic a sta lb la fo dee kc, aI ci (q 1) 600 fl, aI ci (q 2) 1024 wd, aI cz (q 3) 8 df, aI cz (q 4) 8 ag, aI ci (q 5) 8 mk, aI ci (q 6) 8 sc, aI ci (q 7) 12 nu, aI ci (q 8) 12 co, aI ci (q 9) 12 fi, aI ci (q 10) 12 ad, aI ci (q 11) 1800 it, aI ci (q 12) 8 sp, aI ci (q 13) 160 stk] H := hP
  have hD : va_D A [oM q ref n num den mag fac who fnd pc ic a sta lb la fo dee kc, aI ci (q 1) 600 fl, aI ci (q 2) 1024 wd, aI cz (q 3) 8 df, aI cz (q 4) 8 ag, aI ci (q 5) 8 mk, aI ci (q 6) 8 sc, aI ci (q 7) 12 nu, aI ci (q 8) 12 co, aI ci (q 9) 12 fi, aI ci (q 10) 12 ad, aI ci (q 11) 1800 it, aI ci (q 12) 8 sp, aI ci (q 13) 160 stk] := hD
  refine lv_istore_n (lv' := [(2, .int r_1), (1, .int (nI (rdB fl n a))), (0, .ref (q 0))]) hx hb dX9_command_14 rfl hl (by decide) rfl (fun ls hl => ?_)
  refine lv_iload_n hx hb dX9_command_15 rfl (lv_at hl 0 rfl) ?_
  refine lv_if_lt (tgt := 32) hx hb dX9_command_16 (by decide) (fun c_2 => ?_) (fun c_2 => ?_)
  · skip
    have z_2 := (i_lt r_1 (nI 0)).mp c_2
    rw [nI_toInt (n := 0) (by omega)] at z_2
    refine lv_iconst (v := nI 0) hx hb dX9_command_32 (by decide) ?_
    exact rI (v := nI 0) hx hb hr hlocks nb0 hK hP hD hS [0, 1, 2, 3, 4, 5, 6, 7, 8, 9, 10, 11, 12, 13] (0, num, den, mag, fac, pc, ic, sta, lb, la, fo, dee, kc, df, ag, mk, sc, nu, co, fi, ad, it, sp, stk) rfl (by decide) (by exact ⟨rfl, by (try dsimp only); omega, Or.inl ⟨by (try dsimp only); omega, rfl⟩, ⟨by (try dsimp only); omega, by (try dsimp only); omega, by (try dsimp only); omega, by assumption, by assumption, by first | assumption | exact FO_m, by (try dsimp only); omega, by (try dsimp only); omega⟩, fun h => absurd h (by (try dsimp only); omega)⟩) dX9_command_33
  · skip
    have z_2 := mt (i_lt r_1 (nI 0)).mpr c_2
    rw [nI_toInt (n := 0) (by omega)] at z_2
    obtain ⟨hc9, hr9, hr8⟩ : rdB fl n a ≤ 169 ∧ r_1 = nI (tbk (rdB fl n a)) ∧ r_1.toInt = tbk (rdB fl n a) := by rcases hw_1 with h | h; exact h; exfalso; omega
    have ht := tbk_in (rdB fl n a)
    refine lv_aload_n hx hb dX9_command_19 rfl (lv_at hl 2 rfl) ?_
    refine va_get (D := G) (ci := 8) (v := .int (nI a)) (C := RX9) (T := TX9) (N := 30) hx hb hts hi_X9 hown hK hP 0 rfl rfl 21 (by decide) f_105 (fun _ h9 => h9) rfl dX9_command_20 ?_
    refine lv_iload_n hx hb dX9_command_23 rfl (lv_at hl 0 rfl) ?_
    refine tp (y := nI (tbk (rdB fl n a))) hr9 ?_
    refine lv_iadd hx hb dX9_command_24 ?_
    refine tp (nI_add _ _) ?_
    refine lv_aload_n hx hb dX9_command_25 rfl (lv_at hl 2 rfl) ?_
    refine va_get (D := G) (ci := 8) (v := .int (nI n)) (C := RX9) (T := TX9) (N := 30) hx hb hts hi_X9 hown hK hP 0 rfl rfl 2 (by decide) f_61 (fun _ h9 => h9) rfl dX9_command_26 ?_
    refine lv_icmp_lt (tgt := 34) hx hb dX9_command_29 (by decide) (fun c_3 => ?_) (fun c_3 => ?_)
    · skip
      have z_3 := (nI_ltI (a := (a + (tbk (rdB fl n a)))) (b := n) (by omega) (by omega)).mp c_3
      refine lv_aload_n hx hb dX9_command_34 rfl (lv_at hl 2 rfl) ?_
      refine va_get (D := G) (ci := 8) (v := .int (nI sta)) (C := RX9) (T := TX9) (N := 30) hx hb hts hi_X9 hown hK hP 0 rfl rfl 22 (by decide) f_128 (fun _ h9 => h9) rfl dX9_command_35 ?_
      refine lv_if_ne (tgt := 61) hx hb dX9_command_38 (by decide) (fun c_4 => ?_) (fun c_4 => ?_)
      · skip
        have z_4 := mt (nI_eq (a := sta) (b := 0) (by omega) (by omega)).mpr c_4
        refine lv_iload_n hx hb dX9_command_61 rfl (lv_at hl 1 rfl) ?_
        refine lv_sipush (v := nI 131) hx hb dX9_command_62 (by decide) ?_
        refine lv_icmp_ne (tgt := 70) hx hb dX9_command_65 (by decide) (fun c_5 => ?_) (fun c_5 => ?_)
        · skip
          have z_5 := mt (nI_eq (a := (rdB fl n a)) (b := 131) (by omega) (by omega)).mpr c_5
          refine lv_iload_n hx hb dX9_command_70 rfl (lv_at hl 1 rfl) ?_
          refine lv_sipush (v := nI 166) hx hb dX9_command_71 (by decide) ?_
          refine lv_icmp_ne (tgt := 82) hx hb dX9_command_74 (by decide) (fun c_6 => ?_) (fun c_6 => ?_)
          · skip
            have z_6 := mt (nI_eq (a := (rdB fl n a)) (b := 166) (by omega) (by omega)).mpr c_6
            refine lv_aload_n hx hb dX9_command_82 rfl (lv_at hl 2 rfl) ?_
            refine va_get (D := G) (ci := 8) (v := .int (nI sta)) (C := RX9) (T := TX9) (N := 30) hx hb hts hi_X9 hown hK hP 0 rfl rfl 22 (by decide) f_128 (fun _ h9 => h9) rfl dX9_command_83 ?_
            refine lv_iconst (v := nI 2) hx hb dX9_command_86 (by decide) ?_
            refine lv_icmp_ne (tgt := 96) hx hb dX9_command_87 (by decide) (fun c_7 => ?_) (fun c_7 => ?_)
            · skip
              have z_7 := mt (nI_eq (a := sta) (b := 2) (by omega) (by omega)).mpr c_7
              refine lv_aload_n hx hb dX9_command_96 rfl (lv_at hl 2 rfl) ?_
              refine va_get (D := G) (ci := 8) (v := .int (nI sta)) (C := RX9) (T := TX9) (N := 30) hx hb hts hi_X9 hown hK hP 0 rfl rfl 22 (by decide) f_128 (fun _ h9 => h9) rfl dX9_command_97 ?_
              refine lv_iconst (v := nI 1) hx hb dX9_command_100 (by decide) ?_
              refine lv_icmp_ne (tgt := 138) hx hb dX9_command_101 (by decide) (fun c_8 => ?_) (fun c_8 => ?_)
              · skip
                have z_8 := mt (nI_eq (a := sta) (b := 1) (by omega) (by omega)).mpr c_8
                refine lv_iload_n hx hb dX9_command_138 rfl (lv_at hl 1 rfl) ?_
                refine lv_sipush (v := nI 169) hx hb dX9_command_139 (by decide) ?_
                refine lv_icmp_ne (tgt := 156) hx hb dX9_command_142 (by decide) (fun c_9 => ?_) (fun c_9 => ?_)
                · skip
                  have z_9 := mt (nI_eq (a := (rdB fl n a)) (b := 169) (by omega) (by omega)).mpr c_9
                  refine lv_iconst (v := nI 0) hx hb dX9_command_156 (by decide) ?_
                  exact rI (v := nI 0) hx hb hr hlocks nb0 hK hP hD hS [0, 1, 2, 3, 4, 5, 6, 7, 8, 9, 10, 11, 12, 13] (0, num, den, mag, fac, pc, ic, sta, lb, la, fo, dee, kc, df, ag, mk, sc, nu, co, fi, ad, it, sp, stk) rfl (by decide) (by exact ⟨rfl, by (try dsimp only); omega, Or.inr ⟨by (try dsimp only); omega, by (try dsimp only); omega, Or.inr (Or.inr (Or.inr (Or.inr (Or.inr (Or.inr (Or.inr (Or.inr (Or.inr (⟨by (try dsimp only); omega, by (try dsimp only); omega, by (try dsimp only); omega, by (try dsimp only); omega, rfl⟩)))))))))⟩, ⟨by (try dsimp only); omega, by (try dsimp only); omega, by (try dsimp only); omega, by assumption, by assumption, by first | assumption | exact FO_m, by (try dsimp only); omega, by (try dsimp only); omega⟩, fun _ => ⟨by (try dsimp only); omega, by (try dsimp only); omega⟩⟩) dX9_command_157
                · skip
                  have z_9 := (nI_eq (a := (rdB fl n a)) (b := 169) (by omega) (by omega)).mp c_9
                  refine lv_aload_n hx hb dX9_command_145 rfl (lv_at hl 2 rfl) ?_
                  refine jI (va_runV (As := []) (rest := []) ⟨hx, hb, hml, hown, hts⟩ (c_X9_close l G ci cz cl q H.size ref n num den mag fac who fnd pc ic a sta lb la fo dee kc fl wd df ag mk sc nu co fi ad it sp stk (by omega) hB (by omega) ⟨by omega, by omega, by omega, by assumption, by assumption, by first | assumption | exact FO_m, by omega, by omega⟩) (cwV 0 hts gX9_command_X9_close rfl rfl rfl (by decide +kernel) ⟨(Nat.le_of_ble_eq_true rfl), (Nat.le_of_ble_eq_true rfl)⟩) (pV (wc := [oM q ref n num den mag fac who fnd pc ic a sta lb la fo dee kc, aI ci (q 1) 600 fl, aI ci (q 2) 1024 wd, aI cz (q 3) 8 df, aI cz (q 4) 8 ag, aI ci (q 5) 8 mk, aI ci (q 6) 8 sc, aI ci (q 7) 12 nu, aI ci (q 8) 12 co, aI ci (q 9) 12 fi, aI ci (q 10) 12 ad, aI ci (q 11) 1800 it, aI ci (q 12) 8 sp, aI ci (q 13) 160 stk]) ok hK hP hD hS hA hO [0, 1, 2, 3, 4, 5, 6, 7, 8, 9, 10, 11, 12, 13] rfl (by decide) 0 rfl rfl) rfl rfl hl.1 rfl (lv_room (Nat.le_of_ble_eq_true rfl)) dX9_command_146 ⟨(Nat.le_of_ble_eq_true rfl), (Nat.le_of_ble_eq_true rfl)⟩) (wr := []) hP hD hS hA [0, 1, 2, 3, 4, 5, 6, 7, 8, 9, 10, 11, 12, 13] [] rfl rfl (by decide) (by decide) (fun r_10 u H locs hw_10 hP hD hS => ?_)
                  obtain ⟨bo_10, rfl⟩ : ∃ z, z = u := ⟨_, rfl⟩
                  try dsimp only at hw_10
                  obtain ⟨rfl, h_10, g_10⟩ := hw_10
                  have hP : va_P G vwCl [oM q ref n num den mag fac who fnd pc ic a 4 lb la fo dee kc, aI ci (q 1) 600 fl, aI ci (q 2) 1024 wd, aI cz (q 3) 8 df, aI cz (q 4) 8 ag, aI ci (q 5) 8 mk, aI ci (q 6) 8 sc, aI ci (q 7) 12 nu, aI ci (q 8) 12 co, aI ci (q 9) 12 fi, aI ci (q 10) 12 ad, aI ci (q 11) 1800 it, aI ci (q 12) 8 sp, aI ci (q 13) 160 stk] H := hP
                  have hD : va_D A [oM q ref n num den mag fac who fnd pc ic a 4 lb la fo dee kc, aI ci (q 1) 600 fl, aI ci (q 2) 1024 wd, aI cz (q 3) 8 df, aI cz (q 4) 8 ag, aI ci (q 5) 8 mk, aI ci (q 6) 8 sc, aI ci (q 7) 12 nu, aI ci (q 8) 12 co, aI ci (q 9) 12 fi, aI ci (q 10) 12 ad, aI ci (q 11) 1800 it, aI ci (q 12) 8 sp, aI ci (q 13) 160 stk] := hD
                  refine lv_if_eq (tgt := 156) hx hb dX9_command_149 (by decide) (fun c_11 => ?_) (fun c_11 => ?_)
                  · skip
                    have z_11 := (nI_eq (a := bo_10) (b := 0) (by omega) (by omega)).mp c_11
                    refine lv_iconst (v := nI 0) hx hb dX9_command_156 (by decide) ?_
                    exact rI (v := nI 0) hx hb hr hlocks nb0 hK hP hD hS [0, 1, 2, 3, 4, 5, 6, 7, 8, 9, 10, 11, 12, 13] (0, num, den, mag, fac, pc, ic, 4, lb, la, fo, dee, kc, df, ag, mk, sc, nu, co, fi, ad, it, sp, stk) rfl (by decide) (by obtain rfl : bo_10 = 0 := (by (try dsimp only); omega); exact ⟨rfl, by (try dsimp only); omega, Or.inr ⟨by (try dsimp only); omega, by (try dsimp only); omega, Or.inr (Or.inr (Or.inr (Or.inr (Or.inr (Or.inr (Or.inr (Or.inr (Or.inl ⟨by (try dsimp only); omega, by (try dsimp only); omega, g_10, rfl⟩))))))))⟩, ⟨by (try dsimp only); omega, by (try dsimp only); omega, by (try dsimp only); omega, by assumption, by assumption, by first | assumption | exact FO_m, by (try dsimp only); omega, by (try dsimp only); omega⟩, fun _ => ⟨by (try dsimp only); omega, by (try dsimp only); omega⟩⟩) dX9_command_157
                  · skip
                    have z_11 := mt (nI_eq (a := bo_10) (b := 0) (by omega) (by omega)).mpr c_11
                    refine lv_iconst (v := nI 1) hx hb dX9_command_152 (by decide) ?_
                    refine lv_goto (tgt := 157) hx hb dX9_command_153 (by decide) ?_
                    exact rI (v := nI 1) hx hb hr hlocks nb1 hK hP hD hS [0, 1, 2, 3, 4, 5, 6, 7, 8, 9, 10, 11, 12, 13] (1, num, den, mag, fac, pc, ic, 4, lb, la, fo, dee, kc, df, ag, mk, sc, nu, co, fi, ad, it, sp, stk) rfl (by decide) (by obtain rfl : bo_10 = 1 := (by (try dsimp only); omega); exact ⟨rfl, by (try dsimp only); omega, Or.inr ⟨by (try dsimp only); omega, by (try dsimp only); omega, Or.inr (Or.inr (Or.inr (Or.inr (Or.inr (Or.inr (Or.inr (Or.inr (Or.inl ⟨by (try dsimp only); omega, by (try dsimp only); omega, g_10, rfl⟩))))))))⟩, ⟨by (try dsimp only); omega, by (try dsimp only); omega, by (try dsimp only); omega, by assumption, by assumption, by first | assumption | exact FO_m, by (try dsimp only); omega, by (try dsimp only); omega⟩, fun _ => ⟨by (try dsimp only); omega, by (try dsimp only); omega⟩⟩) dX9_command_157
              · skip
                have z_8 := (nI_eq (a := sta) (b := 1) (by omega) (by omega)).mp c_8
                refine lv_iload_n hx hb dX9_command_104 rfl (lv_at hl 1 rfl) ?_
                refine lv_sipush (v := nI 132) hx hb dX9_command_105 (by decide) ?_
                refine lv_icmp_ne (tgt := 118) hx hb dX9_command_108 (by decide) (fun c_12 => ?_) (fun c_12 => ?_)
                · skip
                  have z_12 := mt (nI_eq (a := (rdB fl n a)) (b := 132) (by omega) (by omega)).mpr c_12
                  refine lv_iload_n hx hb dX9_command_118 rfl (lv_at hl 1 rfl) ?_
                  refine lv_sipush (v := nI 168) hx hb dX9_command_119 (by decide) ?_
                  refine lv_icmp_ne (tgt := 136) hx hb dX9_command_122 (by decide) (fun c_13 => ?_) (fun c_13 => ?_)
                  · skip
                    have z_13 := mt (nI_eq (a := (rdB fl n a)) (b := 168) (by omega) (by omega)).mpr c_13
                    refine lv_iconst (v := nI 0) hx hb dX9_command_136 (by decide) ?_
                    exact rI (v := nI 0) hx hb hr hlocks nb0 hK hP hD hS [0, 1, 2, 3, 4, 5, 6, 7, 8, 9, 10, 11, 12, 13] (0, num, den, mag, fac, pc, ic, sta, lb, la, fo, dee, kc, df, ag, mk, sc, nu, co, fi, ad, it, sp, stk) rfl (by decide) (by exact ⟨rfl, by (try dsimp only); omega, Or.inr ⟨by (try dsimp only); omega, by (try dsimp only); omega, Or.inr (Or.inr (Or.inr (Or.inr (Or.inr (Or.inr (Or.inr (Or.inl ⟨by (try dsimp only); omega, by (try dsimp only); omega, by (try dsimp only); omega, by (try dsimp only); omega, by (try dsimp only); omega, rfl⟩)))))))⟩, ⟨by (try dsimp only); omega, by (try dsimp only); omega, by (try dsimp only); omega, by assumption, by assumption, by first | assumption | exact FO_m, by (try dsimp only); omega, by (try dsimp only); omega⟩, fun _ => ⟨by (try dsimp only); omega, by (try dsimp only); omega⟩⟩) dX9_command_137
                  · skip
                    have z_13 := (nI_eq (a := (rdB fl n a)) (b := 168) (by omega) (by omega)).mp c_13
                    refine lv_aload_n hx hb dX9_command_125 rfl (lv_at hl 2 rfl) ?_
                    refine jI (va_runV (As := []) (rest := []) ⟨hx, hb, hml, hown, hts⟩ (c_X9_last l G ci cz cl q H.size ref n num den mag fac who fnd pc ic a sta lb la fo dee kc fl wd df ag mk sc nu co fi ad it sp stk (by omega) hB (by omega) ⟨by omega, by omega, by omega, by assumption, by assumption, by first | assumption | exact FO_m, by omega, by omega⟩) (cwV 0 hts gX9_command_X9_last rfl rfl rfl (by decide +kernel) ⟨(Nat.le_of_ble_eq_true rfl), (Nat.le_of_ble_eq_true rfl)⟩) (pV (wc := [oM q ref n num den mag fac who fnd pc ic a sta lb la fo dee kc, aI ci (q 1) 600 fl, aI ci (q 2) 1024 wd, aI cz (q 3) 8 df, aI cz (q 4) 8 ag, aI ci (q 5) 8 mk, aI ci (q 6) 8 sc, aI ci (q 7) 12 nu, aI ci (q 8) 12 co, aI ci (q 9) 12 fi, aI ci (q 10) 12 ad, aI ci (q 11) 1800 it, aI ci (q 12) 8 sp, aI ci (q 13) 160 stk]) ok hK hP hD hS hA hO [0, 1, 2, 3, 4, 5, 6, 7, 8, 9, 10, 11, 12, 13] rfl (by decide) 0 rfl rfl) rfl rfl hl.1 rfl (lv_room (Nat.le_of_ble_eq_true rfl)) dX9_command_126 ⟨(Nat.le_of_ble_eq_true rfl), (Nat.le_of_ble_eq_true rfl)⟩) (wr := []) hP hD hS hA [0, 1, 2, 3, 4, 5, 6, 7, 8, 9, 10, 11, 12, 13] [] rfl rfl (by decide) (by decide) (fun r_14 u H locs hw_14 hP hD hS => ?_)
                    obtain ⟨bo_14, rfl⟩ : ∃ z, z = u := ⟨_, rfl⟩
                    try dsimp only at hw_14
                    obtain ⟨rfl, h_14, g_14⟩ := hw_14
                    have hP : va_P G vwCl [oM q ref n num den mag fac who fnd pc ic a 3 lb a fo dee kc, aI ci (q 1) 600 fl, aI ci (q 2) 1024 wd, aI cz (q 3) 8 df, aI cz (q 4) 8 ag, aI ci (q 5) 8 mk, aI ci (q 6) 8 sc, aI ci (q 7) 12 nu, aI ci (q 8) 12 co, aI ci (q 9) 12 fi, aI ci (q 10) 12 ad, aI ci (q 11) 1800 it, aI ci (q 12) 8 sp, aI ci (q 13) 160 stk] H := hP
                    have hD : va_D A [oM q ref n num den mag fac who fnd pc ic a 3 lb a fo dee kc, aI ci (q 1) 600 fl, aI ci (q 2) 1024 wd, aI cz (q 3) 8 df, aI cz (q 4) 8 ag, aI ci (q 5) 8 mk, aI ci (q 6) 8 sc, aI ci (q 7) 12 nu, aI ci (q 8) 12 co, aI ci (q 9) 12 fi, aI ci (q 10) 12 ad, aI ci (q 11) 1800 it, aI ci (q 12) 8 sp, aI ci (q 13) 160 stk] := hD
                    refine lv_if_eq (tgt := 136) hx hb dX9_command_129 (by decide) (fun c_15 => ?_) (fun c_15 => ?_)
                    · skip
                      have z_15 := (nI_eq (a := bo_14) (b := 0) (by omega) (by omega)).mp c_15
                      refine lv_iconst (v := nI 0) hx hb dX9_command_136 (by decide) ?_
                      exact rI (v := nI 0) hx hb hr hlocks nb0 hK hP hD hS [0, 1, 2, 3, 4, 5, 6, 7, 8, 9, 10, 11, 12, 13] (0, num, den, mag, fac, pc, ic, 3, lb, a, fo, dee, kc, df, ag, mk, sc, nu, co, fi, ad, it, sp, stk) rfl (by decide) (by obtain rfl : bo_14 = 0 := (by (try dsimp only); omega); exact ⟨rfl, by (try dsimp only); omega, Or.inr ⟨by (try dsimp only); omega, by (try dsimp only); omega, Or.inr (Or.inr (Or.inr (Or.inr (Or.inr (Or.inr (Or.inl ⟨by (try dsimp only); omega, by (try dsimp only); omega, g_14, rfl⟩))))))⟩, ⟨by (try dsimp only); omega, by (try dsimp only); omega, by (try dsimp only); omega, by assumption, by assumption, by first | assumption | exact FO_m, by (try dsimp only); omega, by (try dsimp only); omega⟩, fun _ => ⟨by (try dsimp only); omega, by (try dsimp only); omega⟩⟩) dX9_command_137
                    · skip
                      have z_15 := mt (nI_eq (a := bo_14) (b := 0) (by omega) (by omega)).mpr c_15
                      refine lv_iconst (v := nI 1) hx hb dX9_command_132 (by decide) ?_
                      refine lv_goto (tgt := 137) hx hb dX9_command_133 (by decide) ?_
                      exact rI (v := nI 1) hx hb hr hlocks nb1 hK hP hD hS [0, 1, 2, 3, 4, 5, 6, 7, 8, 9, 10, 11, 12, 13] (1, num, den, mag, fac, pc, ic, 3, lb, a, fo, dee, kc, df, ag, mk, sc, nu, co, fi, ad, it, sp, stk) rfl (by decide) (by obtain rfl : bo_14 = 1 := (by (try dsimp only); omega); exact ⟨rfl, by (try dsimp only); omega, Or.inr ⟨by (try dsimp only); omega, by (try dsimp only); omega, Or.inr (Or.inr (Or.inr (Or.inr (Or.inr (Or.inr (Or.inl ⟨by (try dsimp only); omega, by (try dsimp only); omega, g_14, rfl⟩))))))⟩, ⟨by (try dsimp only); omega, by (try dsimp only); omega, by (try dsimp only); omega, by assumption, by assumption, by first | assumption | exact FO_m, by (try dsimp only); omega, by (try dsimp only); omega⟩, fun _ => ⟨by (try dsimp only); omega, by (try dsimp only); omega⟩⟩) dX9_command_137
                · skip
                  have z_12 := (nI_eq (a := (rdB fl n a)) (b := 132) (by omega) (by omega)).mp c_12
                  refine lv_aload_n hx hb dX9_command_111 rfl (lv_at hl 2 rfl) ?_
                  refine jI (va_runV (As := []) (rest := []) ⟨hx, hb, hml, hown, hts⟩ (c_X9_beginPage l G ci cz cl q H.size ref n num den mag fac who fnd pc ic a sta lb la fo dee kc fl wd df ag mk sc nu co fi ad it sp stk (by omega) hB (by omega) ⟨by omega, by omega, by omega, by assumption, by assumption, by first | assumption | exact FO_m, by omega, by omega⟩) (cwV 0 hts gX9_command_X9_beginPage rfl rfl rfl (by decide +kernel) ⟨(Nat.le_of_ble_eq_true rfl), (Nat.le_of_ble_eq_true rfl)⟩) (pV (wc := [oM q ref n num den mag fac who fnd pc ic a sta lb la fo dee kc, aI ci (q 1) 600 fl, aI ci (q 2) 1024 wd, aI cz (q 3) 8 df, aI cz (q 4) 8 ag, aI ci (q 5) 8 mk, aI ci (q 6) 8 sc, aI ci (q 7) 12 nu, aI ci (q 8) 12 co, aI ci (q 9) 12 fi, aI ci (q 10) 12 ad, aI ci (q 11) 1800 it, aI ci (q 12) 8 sp, aI ci (q 13) 160 stk]) ok hK hP hD hS hA hO [0, 1, 2, 3, 4, 5, 6, 7, 8, 9, 10, 11, 12, 13] rfl (by decide) 0 rfl rfl) rfl rfl hl.1 rfl (lv_room (Nat.le_of_ble_eq_true rfl)) dX9_command_112 ⟨(Nat.le_of_ble_eq_true rfl), (Nat.le_of_ble_eq_true rfl)⟩) (wr := []) hP hD hS hA [0, 1, 2, 3, 4, 5, 6, 7, 8, 9, 10, 11, 12, 13] [] rfl rfl (by decide) (by decide) (fun r_16 u H locs hw_16 hP hD hS => ?_)
                  obtain ⟨bo_16, pc2_16, sta2_16, lb2_16, fo2_16, kc2_16, nu2_16, co2_16, fi2_16, ad2_16, sp2_16⟩ := u
                  try dsimp only at hw_16
                  obtain ⟨rfl, h_16, g_16, e_16, k_16, p_16, P_16, O_16, s_16, b_16⟩ := hw_16
                  have hP : va_P G vwCl [oM q ref n num den mag fac who fnd pc2_16 ic a sta2_16 lb2_16 la fo2_16 dee kc2_16, aI ci (q 1) 600 fl, aI ci (q 2) 1024 wd, aI cz (q 3) 8 df, aI cz (q 4) 8 ag, aI ci (q 5) 8 mk, aI ci (q 6) 8 sc, aI ci (q 7) 12 nu2_16, aI ci (q 8) 12 co2_16, aI ci (q 9) 12 fi2_16, aI ci (q 10) 12 ad2_16, aI ci (q 11) 1800 it, aI ci (q 12) 8 sp2_16, aI ci (q 13) 160 stk] H := hP
                  have hD : va_D A [oM q ref n num den mag fac who fnd pc2_16 ic a sta2_16 lb2_16 la fo2_16 dee kc2_16, aI ci (q 1) 600 fl, aI ci (q 2) 1024 wd, aI cz (q 3) 8 df, aI cz (q 4) 8 ag, aI ci (q 5) 8 mk, aI ci (q 6) 8 sc, aI ci (q 7) 12 nu2_16, aI ci (q 8) 12 co2_16, aI ci (q 9) 12 fi2_16, aI ci (q 10) 12 ad2_16, aI ci (q 11) 1800 it, aI ci (q 12) 8 sp2_16, aI ci (q 13) 160 stk] := hD
                  refine lv_goto (tgt := 137) hx hb dX9_command_115 (by decide) ?_
                  exact rI (v := nI bo_16) hx hb hr hlocks (nbn (by omega)) hK hP hD hS [0, 1, 2, 3, 4, 5, 6, 7, 8, 9, 10, 11, 12, 13] (bo_16, num, den, mag, fac, pc2_16, ic, sta2_16, lb2_16, la, fo2_16, dee, kc2_16, df, ag, mk, sc, nu2_16, co2_16, fi2_16, ad2_16, it, sp2_16, stk) rfl (by decide) (by exact ⟨rfl, by (try dsimp only); omega, Or.inr ⟨by (try dsimp only); omega, by (try dsimp only); omega, Or.inr (Or.inr (Or.inr (Or.inr (Or.inr (Or.inl ⟨by (try dsimp only); omega, by (try dsimp only); omega, _, _, _, _, _, g_16, fun hb => by obtain ⟨q1, q2, q3, q4⟩ := e_16 hb; rw [q1, q2, q3, q4]⟩)))))⟩, ⟨by (try dsimp only); omega, by (try dsimp only); omega, by (try dsimp only); omega, by assumption, by assumption, by first | assumption | exact FO_m, by (try dsimp only); omega, by (try dsimp only); omega⟩, fun _ => ⟨by (try dsimp only); omega, by (try dsimp only); omega⟩⟩) dX9_command_137
            · skip
              have z_7 := (nI_eq (a := sta) (b := 2) (by omega) (by omega)).mp c_7
              refine lv_aload_n hx hb dX9_command_90 rfl (lv_at hl 2 rfl) ?_
              refine lv_iload_n hx hb dX9_command_91 rfl (lv_at hl 1 rfl) ?_
              refine jI (va_runV (As := [.int (nI (rdB fl n a))]) (rest := []) ⟨hx, hb, hml, hown, hts⟩ (c_X9_inPage l G ci cz cl q H.size (rdB fl n a) ref n num den mag fac who fnd pc ic a sta lb la fo dee kc fl wd df ag mk sc nu co fi ad it sp stk (by omega) hB (by omega) (by omega) ⟨by omega, by omega, by omega, by assumption, by assumption, by first | assumption | exact FO_m, by omega, by omega⟩) (cwV 1 hts gX9_command_X9_inPage rfl rfl rfl (by decide +kernel) ⟨(Nat.le_of_ble_eq_true rfl), (Nat.le_of_ble_eq_true rfl)⟩) (pV (wc := [oM q ref n num den mag fac who fnd pc ic a sta lb la fo dee kc, aI ci (q 1) 600 fl, aI ci (q 2) 1024 wd, aI cz (q 3) 8 df, aI cz (q 4) 8 ag, aI ci (q 5) 8 mk, aI ci (q 6) 8 sc, aI ci (q 7) 12 nu, aI ci (q 8) 12 co, aI ci (q 9) 12 fi, aI ci (q 10) 12 ad, aI ci (q 11) 1800 it, aI ci (q 12) 8 sp, aI ci (q 13) 160 stk]) ok hK hP hD hS hA hO [0, 1, 2, 3, 4, 5, 6, 7, 8, 9, 10, 11, 12, 13] rfl (by decide) 0 rfl rfl) rfl rfl hl.1 rfl (lv_room (Nat.le_of_ble_eq_true rfl)) dX9_command_92 ⟨(Nat.le_of_ble_eq_true rfl), (Nat.le_of_ble_eq_true rfl)⟩) (wr := []) hP hD hS hA [0, 1, 2, 3, 4, 5, 6, 7, 8, 9, 10, 11, 12, 13] [] rfl rfl (by decide) (by decide) (fun r_17 u H locs hw_17 hP hD hS => ?_)
              obtain ⟨bo_17, num2_17, den2_17, mag2_17, fac2_17, pc2_17, ic2_17, sta2_17, lb2_17, la2_17, fo2_17, dee2_17, kc2_17, df2_17, ag2_17, mk2_17, sc2_17, nu2_17, co2_17, fi2_17, ad2_17, it2_17, sp2_17, stk2_17⟩ := u
              try dsimp only at hw_17
              obtain ⟨rfl, h_17, g_17, k_17, p_17, i_17, P_17, F_17, O_17, s_17, d_17⟩ := hw_17
              have hP : va_P G vwCl [oM q ref n num2_17 den2_17 mag2_17 fac2_17 who fnd pc2_17 ic2_17 a sta2_17 lb2_17 la2_17 fo2_17 dee2_17 kc2_17, aI ci (q 1) 600 fl, aI ci (q 2) 1024 wd, aI cz (q 3) 8 df2_17, aI cz (q 4) 8 ag2_17, aI ci (q 5) 8 mk2_17, aI ci (q 6) 8 sc2_17, aI ci (q 7) 12 nu2_17, aI ci (q 8) 12 co2_17, aI ci (q 9) 12 fi2_17, aI ci (q 10) 12 ad2_17, aI ci (q 11) 1800 it2_17, aI ci (q 12) 8 sp2_17, aI ci (q 13) 160 stk2_17] H := hP
              have hD : va_D A [oM q ref n num2_17 den2_17 mag2_17 fac2_17 who fnd pc2_17 ic2_17 a sta2_17 lb2_17 la2_17 fo2_17 dee2_17 kc2_17, aI ci (q 1) 600 fl, aI ci (q 2) 1024 wd, aI cz (q 3) 8 df2_17, aI cz (q 4) 8 ag2_17, aI ci (q 5) 8 mk2_17, aI ci (q 6) 8 sc2_17, aI ci (q 7) 12 nu2_17, aI ci (q 8) 12 co2_17, aI ci (q 9) 12 fi2_17, aI ci (q 10) 12 ad2_17, aI ci (q 11) 1800 it2_17, aI ci (q 12) 8 sp2_17, aI ci (q 13) 160 stk2_17] := hD
              exact rI (v := nI bo_17) hx hb hr hlocks (nbn (by omega)) hK hP hD hS [0, 1, 2, 3, 4, 5, 6, 7, 8, 9, 10, 11, 12, 13] (bo_17, num2_17, den2_17, mag2_17, fac2_17, pc2_17, ic2_17, sta2_17, lb2_17, la2_17, fo2_17, dee2_17, kc2_17, df2_17, ag2_17, mk2_17, sc2_17, nu2_17, co2_17, fi2_17, ad2_17, it2_17, sp2_17, stk2_17) rfl (by decide) (by exact ⟨rfl, by (try dsimp only); omega, Or.inr ⟨by (try dsimp only); omega, by (try dsimp only); omega, Or.inr (Or.inr (Or.inr (Or.inr (Or.inl ⟨by (try dsimp only); omega, by (try dsimp only); omega, by (try dsimp only); omega, g_17⟩))))⟩, ⟨by (try dsimp only); omega, by (try dsimp only); omega, by (try dsimp only); omega, by assumption, by assumption, by first | assumption | exact FO_m, by (try dsimp only); omega, by (try dsimp only); omega⟩, fun _ => ⟨by (try dsimp only); omega, by (try dsimp only); omega⟩⟩) dX9_command_95
          · skip
            have z_6 := (nI_eq (a := (rdB fl n a)) (b := 166) (by omega) (by omega)).mp c_6
            refine lv_aload_n hx hb dX9_command_77 rfl (lv_at hl 2 rfl) ?_
            refine jI (va_runV (As := []) (rest := []) ⟨hx, hb, hml, hown, hts⟩ (c_X9_define l G ci cz cl q H.size ref n num den mag fac who fnd pc ic a sta lb la fo dee kc fl wd df ag mk sc nu co fi ad it sp stk (by omega) hB (by omega) ⟨by omega, by omega, by omega, by assumption, by assumption, by first | assumption | exact FO_m, by omega, by omega⟩) (cwV 0 hts gX9_command_X9_define rfl rfl rfl (by decide +kernel) ⟨(Nat.le_of_ble_eq_true rfl), (Nat.le_of_ble_eq_true rfl)⟩) (pV (wc := [oM q ref n num den mag fac who fnd pc ic a sta lb la fo dee kc, aI ci (q 1) 600 fl, aI ci (q 2) 1024 wd, aI cz (q 3) 8 df, aI cz (q 4) 8 ag, aI ci (q 5) 8 mk, aI ci (q 6) 8 sc, aI ci (q 7) 12 nu, aI ci (q 8) 12 co, aI ci (q 9) 12 fi, aI ci (q 10) 12 ad, aI ci (q 11) 1800 it, aI ci (q 12) 8 sp, aI ci (q 13) 160 stk]) ok hK hP hD hS hA hO [0, 1, 2, 3, 4, 5, 6, 7, 8, 9, 10, 11, 12, 13] rfl (by decide) 0 rfl rfl) rfl rfl hl.1 rfl (lv_room (Nat.le_of_ble_eq_true rfl)) dX9_command_78 ⟨(Nat.le_of_ble_eq_true rfl), (Nat.le_of_ble_eq_true rfl)⟩) (wr := []) hP hD hS hA [0, 1, 2, 3, 4, 5, 6, 7, 8, 9, 10, 11, 12, 13] [] rfl rfl (by decide) (by decide) (fun r_18 u H locs hw_18 hP hD hS => ?_)
            obtain ⟨bo_18, df2_18, ag2_18, mk2_18, sc2_18⟩ := u
            try dsimp only at hw_18
            obtain ⟨rfl, h_18, g_18⟩ := hw_18
            have hP : va_P G vwCl [oM q ref n num den mag fac who fnd pc ic a sta lb la fo dee kc, aI ci (q 1) 600 fl, aI ci (q 2) 1024 wd, aI cz (q 3) 8 df2_18, aI cz (q 4) 8 ag2_18, aI ci (q 5) 8 mk2_18, aI ci (q 6) 8 sc2_18, aI ci (q 7) 12 nu, aI ci (q 8) 12 co, aI ci (q 9) 12 fi, aI ci (q 10) 12 ad, aI ci (q 11) 1800 it, aI ci (q 12) 8 sp, aI ci (q 13) 160 stk] H := hP
            have hD : va_D A [oM q ref n num den mag fac who fnd pc ic a sta lb la fo dee kc, aI ci (q 1) 600 fl, aI ci (q 2) 1024 wd, aI cz (q 3) 8 df2_18, aI cz (q 4) 8 ag2_18, aI ci (q 5) 8 mk2_18, aI ci (q 6) 8 sc2_18, aI ci (q 7) 12 nu, aI ci (q 8) 12 co, aI ci (q 9) 12 fi, aI ci (q 10) 12 ad, aI ci (q 11) 1800 it, aI ci (q 12) 8 sp, aI ci (q 13) 160 stk] := hD
            exact rI (v := nI bo_18) hx hb hr hlocks (nbn (by omega)) hK hP hD hS [0, 1, 2, 3, 4, 5, 6, 7, 8, 9, 10, 11, 12, 13] (bo_18, num, den, mag, fac, pc, ic, sta, lb, la, fo, dee, kc, df2_18, ag2_18, mk2_18, sc2_18, nu, co, fi, ad, it, sp, stk) rfl (by decide) (by exact ⟨rfl, by (try dsimp only); omega, Or.inr ⟨by (try dsimp only); omega, by (try dsimp only); omega, Or.inr (Or.inr (Or.inr (Or.inl ⟨by (try dsimp only); omega, by (try dsimp only); omega, _, _, _, _, g_18, rfl⟩)))⟩, ⟨by (try dsimp only); omega, by (try dsimp only); omega, by (try dsimp only); omega, by assumption, by assumption, by first | assumption | exact FO_m, by (try dsimp only); omega, by (try dsimp only); omega⟩, fun _ => ⟨by (try dsimp only); omega, by (try dsimp only); omega⟩⟩) dX9_command_81
        · skip
          have z_5 := (nI_eq (a := (rdB fl n a)) (b := 131) (by omega) (by omega)).mp c_5
          refine lv_iconst (v := nI 1) hx hb dX9_command_68 (by decide) ?_
          exact rI (v := nI 1) hx hb hr hlocks nb1 hK hP hD hS [0, 1, 2, 3, 4, 5, 6, 7, 8, 9, 10, 11, 12, 13] (1, num, den, mag, fac, pc, ic, sta, lb, la, fo, dee, kc, df, ag, mk, sc, nu, co, fi, ad, it, sp, stk) rfl (by decide) (by exact ⟨rfl, by (try dsimp only); omega, Or.inr ⟨by (try dsimp only); omega, by (try dsimp only); omega, Or.inr (Or.inr (Or.inl ⟨by (try dsimp only); omega, by (try dsimp only); omega, rfl, rfl⟩))⟩, ⟨by (try dsimp only); omega, by (try dsimp only); omega, by (try dsimp only); omega, by assumption, by assumption, by first | assumption | exact FO_m, by (try dsimp only); omega, by (try dsimp only); omega⟩, fun _ => ⟨by (try dsimp only); omega, by (try dsimp only); omega⟩⟩) dX9_command_69
      · skip
        have z_4 := (nI_eq (a := sta) (b := 0) (by omega) (by omega)).mp c_4
        refine lv_iload_n hx hb dX9_command_41 rfl (lv_at hl 1 rfl) ?_
        refine lv_sipush (v := nI 167) hx hb dX9_command_42 (by decide) ?_
        refine lv_icmp_ne (tgt := 59) hx hb dX9_command_45 (by decide) (fun c_19 => ?_) (fun c_19 => ?_)
        · skip
          have z_19 := mt (nI_eq (a := (rdB fl n a)) (b := 167) (by omega) (by omega)).mpr c_19
          refine lv_iconst (v := nI 0) hx hb dX9_command_59 (by decide) ?_
          exact rI (v := nI 0) hx hb hr hlocks nb0 hK hP hD hS [0, 1, 2, 3, 4, 5, 6, 7, 8, 9, 10, 11, 12, 13] (0, num, den, mag, fac, pc, ic, sta, lb, la, fo, dee, kc, df, ag, mk, sc, nu, co, fi, ad, it, sp, stk) rfl (by decide) (by exact ⟨rfl, by (try dsimp only); omega, Or.inr ⟨by (try dsimp only); omega, by (try dsimp only); omega, Or.inr (Or.inl ⟨by (try dsimp only); omega, by (try dsimp only); omega, rfl⟩)⟩, ⟨by (try dsimp only); omega, by (try dsimp only); omega, by (try dsimp only); omega, by assumption, by assumption, by first | assumption | exact FO_m, by (try dsimp only); omega, by (try dsimp only); omega⟩, fun _ => ⟨by (try dsimp only); omega, by (try dsimp only); omega⟩⟩) dX9_command_60
        · skip
          have z_19 := (nI_eq (a := (rdB fl n a)) (b := 167) (by omega) (by omega)).mp c_19
          refine lv_aload_n hx hb dX9_command_48 rfl (lv_at hl 2 rfl) ?_
          refine jI (va_runV (As := []) (rest := []) ⟨hx, hb, hml, hown, hts⟩ (c_X9_start l G ci cz cl q H.size ref n num den mag fac who fnd pc ic a sta lb la fo dee kc fl wd df ag mk sc nu co fi ad it sp stk (by omega) hB (by omega) ⟨by omega, by omega, by omega, by assumption, by assumption, by first | assumption | exact FO_m, by omega, by omega⟩) (cwV 0 hts gX9_command_X9_start rfl rfl rfl (by decide +kernel) ⟨(Nat.le_of_ble_eq_true rfl), (Nat.le_of_ble_eq_true rfl)⟩) (pV (wc := [oM q ref n num den mag fac who fnd pc ic a sta lb la fo dee kc, aI ci (q 1) 600 fl, aI ci (q 2) 1024 wd, aI cz (q 3) 8 df, aI cz (q 4) 8 ag, aI ci (q 5) 8 mk, aI ci (q 6) 8 sc, aI ci (q 7) 12 nu, aI ci (q 8) 12 co, aI ci (q 9) 12 fi, aI ci (q 10) 12 ad, aI ci (q 11) 1800 it, aI ci (q 12) 8 sp, aI ci (q 13) 160 stk]) ok hK hP hD hS hA hO [0, 1, 2, 3, 4, 5, 6, 7, 8, 9, 10, 11, 12, 13] rfl (by decide) 0 rfl rfl) rfl rfl hl.1 rfl (lv_room (Nat.le_of_ble_eq_true rfl)) dX9_command_49 ⟨(Nat.le_of_ble_eq_true rfl), (Nat.le_of_ble_eq_true rfl)⟩) (wr := []) hP hD hS hA [0, 1, 2, 3, 4, 5, 6, 7, 8, 9, 10, 11, 12, 13] [] rfl rfl (by decide) (by decide) (fun r_20 u H locs hw_20 hP hD hS => ?_)
          obtain ⟨bo_20, num2_20, den2_20, mag2_20, fac2_20, sta2_20⟩ := u
          try dsimp only at hw_20
          obtain ⟨rfl, h_20, g_20, F_20, s_20, d_20⟩ := hw_20
          have hP : va_P G vwCl [oM q ref n num2_20 den2_20 mag2_20 fac2_20 who fnd pc ic a sta2_20 lb la fo dee kc, aI ci (q 1) 600 fl, aI ci (q 2) 1024 wd, aI cz (q 3) 8 df, aI cz (q 4) 8 ag, aI ci (q 5) 8 mk, aI ci (q 6) 8 sc, aI ci (q 7) 12 nu, aI ci (q 8) 12 co, aI ci (q 9) 12 fi, aI ci (q 10) 12 ad, aI ci (q 11) 1800 it, aI ci (q 12) 8 sp, aI ci (q 13) 160 stk] H := hP
          have hD : va_D A [oM q ref n num2_20 den2_20 mag2_20 fac2_20 who fnd pc ic a sta2_20 lb la fo dee kc, aI ci (q 1) 600 fl, aI ci (q 2) 1024 wd, aI cz (q 3) 8 df, aI cz (q 4) 8 ag, aI ci (q 5) 8 mk, aI ci (q 6) 8 sc, aI ci (q 7) 12 nu, aI ci (q 8) 12 co, aI ci (q 9) 12 fi, aI ci (q 10) 12 ad, aI ci (q 11) 1800 it, aI ci (q 12) 8 sp, aI ci (q 13) 160 stk] := hD
          refine lv_if_eq (tgt := 59) hx hb dX9_command_52 (by decide) (fun c_21 => ?_) (fun c_21 => ?_)
          · skip
            have z_21 := (nI_eq (a := bo_20) (b := 0) (by omega) (by omega)).mp c_21
            refine lv_iconst (v := nI 0) hx hb dX9_command_59 (by decide) ?_
            exact rI (v := nI 0) hx hb hr hlocks nb0 hK hP hD hS [0, 1, 2, 3, 4, 5, 6, 7, 8, 9, 10, 11, 12, 13] (0, num2_20, den2_20, mag2_20, fac2_20, pc, ic, sta2_20, lb, la, fo, dee, kc, df, ag, mk, sc, nu, co, fi, ad, it, sp, stk) rfl (by decide) (by obtain rfl : bo_20 = 0 := (by (try dsimp only); omega); exact ⟨rfl, by (try dsimp only); omega, Or.inr ⟨by (try dsimp only); omega, by (try dsimp only); omega, Or.inl ⟨by (try dsimp only); omega, by (try dsimp only); omega, _, _, _, _, _, g_20, rfl⟩⟩, ⟨by (try dsimp only); omega, by (try dsimp only); omega, by (try dsimp only); omega, by assumption, by assumption, by first | assumption | exact FO_m, by (try dsimp only); omega, by (try dsimp only); omega⟩, fun _ => ⟨by (try dsimp only); omega, by (try dsimp only); omega⟩⟩) dX9_command_60
          · skip
            have z_21 := mt (nI_eq (a := bo_20) (b := 0) (by omega) (by omega)).mpr c_21
            refine lv_iconst (v := nI 1) hx hb dX9_command_55 (by decide) ?_
            refine lv_goto (tgt := 60) hx hb dX9_command_56 (by decide) ?_
            exact rI (v := nI 1) hx hb hr hlocks nb1 hK hP hD hS [0, 1, 2, 3, 4, 5, 6, 7, 8, 9, 10, 11, 12, 13] (1, num2_20, den2_20, mag2_20, fac2_20, pc, ic, sta2_20, lb, la, fo, dee, kc, df, ag, mk, sc, nu, co, fi, ad, it, sp, stk) rfl (by decide) (by obtain rfl : bo_20 = 1 := (by (try dsimp only); omega); exact ⟨rfl, by (try dsimp only); omega, Or.inr ⟨by (try dsimp only); omega, by (try dsimp only); omega, Or.inl ⟨by (try dsimp only); omega, by (try dsimp only); omega, _, _, _, _, _, g_20, rfl⟩⟩, ⟨by (try dsimp only); omega, by (try dsimp only); omega, by (try dsimp only); omega, by assumption, by assumption, by first | assumption | exact FO_m, by (try dsimp only); omega, by (try dsimp only); omega⟩, fun _ => ⟨by (try dsimp only); omega, by (try dsimp only); omega⟩⟩) dX9_command_60
    · skip
      have z_3 := mt (nI_ltI (a := (a + (tbk (rdB fl n a)))) (b := n) (by omega) (by omega)).mpr c_3
      refine lv_iconst (v := nI 0) hx hb dX9_command_32 (by decide) ?_
      exact rI (v := nI 0) hx hb hr hlocks nb0 hK hP hD hS [0, 1, 2, 3, 4, 5, 6, 7, 8, 9, 10, 11, 12, 13] (0, num, den, mag, fac, pc, ic, sta, lb, la, fo, dee, kc, df, ag, mk, sc, nu, co, fi, ad, it, sp, stk) rfl (by decide) (by exact ⟨rfl, by (try dsimp only); omega, Or.inl ⟨by (try dsimp only); omega, rfl⟩, ⟨by (try dsimp only); omega, by (try dsimp only); omega, by (try dsimp only); omega, by assumption, by assumption, by first | assumption | exact FO_m, by (try dsimp only); omega, by (try dsimp only); omega⟩, fun h => absurd h (by (try dsimp only); omega)⟩) dX9_command_33
