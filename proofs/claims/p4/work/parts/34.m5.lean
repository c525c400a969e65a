set_option maxHeartbeats 4000000 in
set_option maxRecDepth 100000 in
theorem c_X9_inPage (l : Launch) (G : va_G) (ci cz cl : ClassId) (q : Nat → Nat) (sz : Nat) (k : Nat) (ref : Int32) (n : Nat) (num : Int32) (den : Int32) (mag : Int32) (fac : UInt64) (who : Int32) (fnd : Int32) (pc : Nat) (ic : Nat) (a : Nat) (sta : Nat) (lb : Int32) (la : Int32) (fo : Int32) (dee : Int32) (kc : Nat) (fl : Nat → Int32) (wd : Nat → Int32) (df : Nat → Int32) (ag : Nat → Int32) (mk : Nat → Int32) (sc : Nat → Int32) (nu : Nat → Int32) (co : Nat → Int32) (fi : Nat → Int32) (ad : Nat → Int32) (it : Nat → Int32) (sp : Nat → Int32) (stk : Nat → Int32) (hn : n ≤ 600) (hB : FB fl) (hk : k ≤ 169 ∧ a + tbk k < n) (hs2 : sta = 2) (hM : MJ kc pc ic fi co fac fo sta) : CtI l yX9_inPage wsX9_inPage ({ frames := 5, cells := 0, slots := 0, locals := 113 }) G (TY ci cz cl) O0 [.ref (q 0), .int (nI k)] [oM q ref n num den mag fac who fnd pc ic a sta lb la fo dee kc, aI ci (q 1) 600 fl, aI ci (q 2) 1024 wd, aI cz (q 3) 8 df, aI cz (q 4) 8 ag, aI ci (q 5) 8 mk, aI ci (q 6) 8 sc, aI ci (q 7) 12 nu, aI ci (q 8) 12 co, aI ci (q 9) 12 fi, aI ci (q 10) 12 ad, aI ci (q 11) 1800 it, aI ci (q 12) 8 sp, aI ci (q 13) 160 stk] sz (fun (r : Int32) (u : Nat × Int32 × Int32 × Int32 × UInt64 × Nat × Nat × Nat × Int32 × Int32 × Int32 × Int32 × Nat × (Nat → Int32) × (Nat → Int32) × (Nat → Int32) × (Nat → Int32) × (Nat → Int32) × (Nat → Int32) × (Nat → Int32) × (Nat → Int32) × (Nat → Int32) × (Nat → Int32) × (Nat → Int32)) => r = nI u.1 ∧ u.1 ≤ 1 ∧ MJ u.2.2.2.2.2.2.2.2.2.2.2.2.1 u.2.2.2.2.2.1 u.2.2.2.2.2.2.1 u.2.2.2.2.2.2.2.2.2.2.2.2.2.2.2.2.2.2.2.1 u.2.2.2.2.2.2.2.2.2.2.2.2.2.2.2.2.2.2.1 u.2.2.2.2.1 u.2.2.2.2.2.2.2.2.2.2.1 u.2.2.2.2.2.2.2.1) (fun u : Nat × Int32 × Int32 × Int32 × UInt64 × Nat × Nat × Nat × Int32 × Int32 × Int32 × Int32 × Nat × (Nat → Int32) × (Nat → Int32) × (Nat → Int32) × (Nat → Int32) × (Nat → Int32) × (Nat → Int32) × (Nat → Int32) × (Nat → Int32) × (Nat → Int32) × (Nat → Int32) × (Nat → Int32) => [oM q ref n u.2.1 u.2.2.1 u.2.2.2.1 u.2.2.2.2.1 who fnd u.2.2.2.2.2.1 u.2.2.2.2.2.2.1 a u.2.2.2.2.2.2.2.1 u.2.2.2.2.2.2.2.2.1 u.2.2.2.2.2.2.2.2.2.1 u.2.2.2.2.2.2.2.2.2.2.1 u.2.2.2.2.2.2.2.2.2.2.2.1 u.2.2.2.2.2.2.2.2.2.2.2.2.1, aI ci (q 1) 600 fl, aI ci (q 2) 1024 wd, aI cz (q 3) 8 u.2.2.2.2.2.2.2.2.2.2.2.2.2.1, aI cz (q 4) 8 u.2.2.2.2.2.2.2.2.2.2.2.2.2.2.1, aI ci (q 5) 8 u.2.2.2.2.2.2.2.2.2.2.2.2.2.2.2.1, aI ci (q 6) 8 u.2.2.2.2.2.2.2.2.2.2.2.2.2.2.2.2.1, aI ci (q 7) 12 u.2.2.2.2.2.2.2.2.2.2.2.2.2.2.2.2.2.1, aI ci (q 8) 12 u.2.2.2.2.2.2.2.2.2.2.2.2.2.2.2.2.2.2.1, aI ci (q 9) 12 u.2.2.2.2.2.2.2.2.2.2.2.2.2.2.2.2.2.2.2.1, aI ci (q 10) 12 u.2.2.2.2.2.2.2.2.2.2.2.2.2.2.2.2.2.2.2.2.1, aI ci (q 11) 1800 u.2.2.2.2.2.2.2.2.2.2.2.2.2.2.2.2.2.2.2.2.2.1, aI ci (q 12) 8 u.2.2.2.2.2.2.2.2.2.2.2.2.2.2.2.2.2.2.2.2.2.2.1, aI ci (q 13) 160 u.2.2.2.2.2.2.2.2.2.2.2.2.2.2.2.2.2.2.2.2.2.2.2]) 0 0 := by
  refine Met.ofW (cc := cX9_inPage) (maxL := 2) (ret := (some .boolean)) (by decide) rfl ?_
  intro p e s m args below meth c s₁ B hml hv
  obtain ⟨rfl, ⟨hsz, hP, hK, hD0⟩, hO⟩ := hv
  have hx := B.exec
  have hb := B.bytes
  have hr := B.returns
  have hts := atoms_spec (ws := wsX9_inPage) B.pre
  have hown : s.vm.findClass RX9 = some m.cls := findClass_of_methodNamed B.named
  have hlocks := B.notSynchronized
  subst hsz
  have hD := hD0.self (sz := s.heap.size)
  generalize hAe : va_A [oM q ref n num den mag fac who fnd pc ic a sta lb la fo dee kc, aI ci (q 1) 600 fl, aI ci (q 2) 1024 wd, aI cz (q 3) 8 df, aI cz (q 4) 8 ag, aI ci (q 5) 8 mk, aI ci (q 6) 8 sc, aI ci (q 7) 12 nu, aI ci (q 8) 12 co, aI ci (q 9) 12 fi, aI ci (q 10) 12 ad, aI ci (q 11) 1800 it, aI ci (q 12) 8 sp, aI ci (q 13) 160 stk] s.heap.size = A at hD hO ⊢
  have hA : ∀ q : Nat, s.heap.size ≤ q → A q := fun q h => by rw [← hAe]; exact Or.inr h
  have ok := ok0
  refine startH (A := A) (fun H locs hP hS => ?_) hP
  have hi_X9 := (by decide +kernel : ∀ w ∈ wsX90, w ∈ wsX9_inPage)
  have f_128 := hts (.fieldLink RX9 128 "PageReaderModel" "state" "I") (by decide +kernel)
  have f_111 := hts (.fieldLink RX9 111 "PageReaderModel" "depth" "I") (by decide +kernel)
  have f_7 := hts (.fieldLink RX9 7 "PageReaderModel" "file" "[I") (by decide +kernel)
  have f_105 := hts (.fieldLink RX9 105 "PageReaderModel" "at" "I") (by decide +kernel)
  have hl := lv_entry ([.ref (q 0), .int (nI k)]) (n := 2) (Nat.le_of_ble_eq_true rfl)
  rw [lg_entry_eq]
  generalize (lg_sl ([.ref (q 0), .int (nI k)]) ++ List.replicate (2 - (lg_sl ([.ref (q 0), .int (nI k)])).length) Slot.unset).toArray = ls at hl ⊢
  have hl : lv_has ls 2 [(0, .ref (q 0)), (1, .int (nI k))] := hl
  obtain ⟨hkc, hpc, hic, hPI, hf, hfo, hst⟩ := hM
  have hp1 := hst.1 hs2
  have ht := tbk_in k
  refine lv_iload_n hx hb dX9_inPage_0 rfl (lv_at hl 1 rfl) ?_
  refine lv_sipush (v := nI 128) hx hb dX9_inPage_1 (by decide) ?_
  refine lv_icmp_ge (tgt := 14) hx hb dX9_inPage_4 (by decide) (fun c_1 => ?_) (fun c_1 => ?_)
  · skip
    have z_1 := (nI_leI (a := 128) (b := k) (by omega) (by omega)).mp c_1
    refine lv_iload_n hx hb dX9_inPage_14 rfl (lv_at hl 1 rfl) ?_
    refine lv_sipush (v := nI 128) hx hb dX9_inPage_15 (by decide) ?_
    refine lv_icmp_ne (tgt := 38) hx hb dX9_inPage_18 (by decide) (fun c_2 => ?_) (fun c_2 => ?_)
    · skip
      have z_2 := mt (nI_eq (a := k) (b := 128) (by omega) (by omega)).mpr c_2
      refine lv_iload_n hx hb dX9_inPage_38 rfl (lv_at hl 1 rfl) ?_
      refine lv_sipush (v := nI 131) hx hb dX9_inPage_39 (by decide) ?_
      refine lv_icmp_ge (tgt := 62) hx hb dX9_inPage_42 (by decide) (fun c_3 => ?_) (fun c_3 => ?_)
      · skip
        have z_3 := (nI_leI (a := 131) (b := k) (by omega) (by omega)).mp c_3
        refine lv_iload_n hx hb dX9_inPage_62 rfl (lv_at hl 1 rfl) ?_
        refine lv_sipush (v := nI 134) hx hb dX9_inPage_63 (by decide) ?_
        refine lv_icmp_ne (tgt := 74) hx hb dX9_inPage_66 (by decide) (fun c_4 => ?_) (fun c_4 => ?_)
        · skip
          have z_4 := mt (nI_eq (a := k) (b := 134) (by omega) (by omega)).mpr c_4
          refine lv_iload_n hx hb dX9_inPage_74 rfl (lv_at hl 1 rfl) ?_
          refine lv_sipush (v := nI 135) hx hb dX9_inPage_75 (by decide) ?_
          refine lv_icmp_ne (tgt := 86) hx hb dX9_inPage_78 (by decide) (fun c_5 => ?_) (fun c_5 => ?_)
          · skip
            have z_5 := mt (nI_eq (a := k) (b := 135) (by omega) (by omega)).mpr c_5
            refine lv_iload_n hx hb dX9_inPage_86 rfl (lv_at hl 1 rfl) ?_
            refine lv_sipush (v := nI 136) hx hb dX9_inPage_87 (by decide) ?_
            refine lv_icmp_lt (tgt := 106) hx hb dX9_inPage_90 (by decide) (fun c_6 => ?_) (fun c_6 => ?_)
            · skip
              have z_6 := (nI_ltI (a := k) (b := 136) (by omega) (by omega)).mp c_6
              refine lv_iload_n hx hb dX9_inPage_106 rfl (lv_at hl 1 rfl) ?_
              refine lv_sipush (v := nI 158) hx hb dX9_inPage_107 (by decide) ?_
              refine lv_icmp_lt (tgt := 130) hx hb dX9_inPage_110 (by decide) (fun c_7 => ?_) (fun c_7 => ?_)
              · skip
                have z_7 := (nI_ltI (a := k) (b := 158) (by omega) (by omega)).mp c_7
                refine lv_iload_n hx hb dX9_inPage_130 rfl (lv_at hl 1 rfl) ?_
                refine lv_sipush (v := nI 133) hx hb dX9_inPage_131 (by decide) ?_
                refine lv_icmp_eq (tgt := 139) hx hb dX9_inPage_134 (by decide) (fun c_8 => ?_) (fun c_8 => ?_)
                · skip
                  have z_8 := (nI_eq (a := k) (b := 133) (by omega) (by omega)).mp c_8
                  refine lv_aload_n hx hb dX9_inPage_139 rfl (lv_at hl 0 rfl) ?_
                  refine lv_iconst (v := nI 1) hx hb dX9_inPage_140 (by decide) ?_
                  refine va_put (D := G) (ci := 8) (v := .int (nI 1)) (ty := .int) (C := RX9) (T := TX9) (N := 30) hx hb hts hi_X9 tyX9 tyX9_ok nmX9 hown hK hP hD hS 0 rfl rfl 22 (by decide) f_128 (fun _ h9 => h9) rfl (by decide +kernel) rfl rfl (Nat.le_of_ble_eq_true rfl) dX9_inPage_141 (fun H locs hP hD hS => ?_)
                  have hP : va_P G vwCl [oM q ref n num den mag fac who fnd pc ic a 1 lb la fo dee kc, aI ci (q 1) 600 fl, aI ci (q 2) 1024 wd, aI cz (q 3) 8 df, aI cz (q 4) 8 ag, aI ci (q 5) 8 mk, aI ci (q 6) 8 sc, aI ci (q 7) 12 nu, aI ci (q 8) 12 co, aI ci (q 9) 12 fi, aI ci (q 10) 12 ad, aI ci (q 11) 1800 it, aI ci (q 12) 8 sp, aI ci (q 13) 160 stk] H := hP
                  have hD : va_D A [oM q ref n num den mag fac who fnd pc ic a 1 lb la fo dee kc, aI ci (q 1) 600 fl, aI ci (q 2) 1024 wd, aI cz (q 3) 8 df, aI cz (q 4) 8 ag, aI ci (q 5) 8 mk, aI ci (q 6) 8 sc, aI ci (q 7) 12 nu, aI ci (q 8) 12 co, aI ci (q 9) 12 fi, aI ci (q 10) 12 ad, aI ci (q 11) 1800 it, aI ci (q 12) 8 sp, aI ci (q 13) 160 stk] := hD
                  refine lv_aload_n hx hb dX9_inPage_144 rfl (lv_at hl 0 rfl) ?_
                  refine va_get (D := G) (ci := 8) (v := .int (nI kc)) (C := RX9) (T := TX9) (N := 30) hx hb hts hi_X9 hown hK hP 0 rfl rfl 27 (by decide) f_111 (fun _ h9 => h9) rfl dX9_inPage_145 ?_
                  refine lv_if_ne (tgt := 155) hx hb dX9_inPage_148 (by decide) (fun c_9 => ?_) (fun c_9 => ?_)
                  · skip
                    have z_9 := mt (nI_eq (a := kc) (b := 0) (by omega) (by omega)).mpr c_9
                    refine lv_iconst (v := nI 0) hx hb dX9_inPage_155 (by decide) ?_
                    exact rI (v := nI 0) hx hb hr hlocks nb0 hK hP hD hS [0, 1, 2, 3, 4, 5, 6, 7, 8, 9, 10, 11, 12, 13] (0, num, den, mag, fac, pc, ic, 1, lb, la, fo, dee, kc, df, ag, mk, sc, nu, co, fi, ad, it, sp, stk) rfl (by decide) ⟨rfl, by (try dsimp only); omega, by (try dsimp only); omega, by (try dsimp only); omega, by (try dsimp only); omega, by assumption, by assumption, by (try dsimp only); omega, by (try dsimp only); omega⟩ dX9_inPage_156
                  · skip
                    have z_9 := (nI_eq (a := kc) (b := 0) (by omega) (by omega)).mp c_9
                    refine lv_iconst (v := nI 1) hx hb dX9_inPage_151 (by decide) ?_
                    refine lv_goto (tgt := 156) hx hb dX9_inPage_152 (by decide) ?_
                    exact rI (v := nI 1) hx hb hr hlocks nb1 hK hP hD hS [0, 1, 2, 3, 4, 5, 6, 7, 8, 9, 10, 11, 12, 13] (1, num, den, mag, fac, pc, ic, 1, lb, la, fo, dee, kc, df, ag, mk, sc, nu, co, fi, ad, it, sp, stk) rfl (by decide) ⟨rfl, by (try dsimp only); omega, by (try dsimp only); omega, by (try dsimp only); omega, by (try dsimp only); omega, by assumption, by assumption, by (try dsimp only); omega, by (try dsimp only); omega⟩ dX9_inPage_156
                · skip
                  have z_8 := mt (nI_eq (a := k) (b := 133) (by omega) (by omega)).mpr c_8
                  refine lv_iconst (v := nI 0) hx hb dX9_inPage_137 (by decide) ?_
                  exact rI (v := nI 0) hx hb hr hlocks nb0 hK hP hD hS [0, 1, 2, 3, 4, 5, 6, 7, 8, 9, 10, 11, 12, 13] (0, num, den, mag, fac, pc, ic, sta, lb, la, fo, dee, kc, df, ag, mk, sc, nu, co, fi, ad, it, sp, stk) rfl (by decide) ⟨rfl, by (try dsimp only); omega, by (try dsimp only); omega, by (try dsimp only); omega, by (try dsimp only); omega, by assumption, by assumption, by (try dsimp only); omega, by (try dsimp only); omega⟩ dX9_inPage_138
              · skip
                have z_7 := mt (nI_ltI (a := k) (b := 158) (by omega) (by omega)).mpr c_7
                refine lv_iload_n hx hb dX9_inPage_113 rfl (lv_at hl 1 rfl) ?_
                refine lv_sipush (v := nI 165) hx hb dX9_inPage_114 (by decide) ?_
                refine lv_icmp_gt (tgt := 130) hx hb dX9_inPage_117 (by decide) (fun c_10 => ?_) (fun c_10 => ?_)
                · skip
                  have z_10 := (nI_ltI (a := 165) (b := k) (by omega) (by omega)).mp c_10
                  refine lv_iload_n hx hb dX9_inPage_130 rfl (lv_at hl 1 rfl) ?_
                  refine lv_sipush (v := nI 133) hx hb dX9_inPage_131 (by decide) ?_
                  refine lv_icmp_eq (tgt := 139) hx hb dX9_inPage_134 (by decide) (fun c_11 => ?_) (fun c_11 => ?_)
                  · skip
                    have z_11 := (nI_eq (a := k) (b := 133) (by omega) (by omega)).mp c_11
                    refine lv_aload_n hx hb dX9_inPage_139 rfl (lv_at hl 0 rfl) ?_
                    refine lv_iconst (v := nI 1) hx hb dX9_inPage_140 (by decide) ?_
                    refine va_put (D := G) (ci := 8) (v := .int (nI 1)) (ty := .int) (C := RX9) (T := TX9) (N := 30) hx hb hts hi_X9 tyX9 tyX9_ok nmX9 hown hK hP hD hS 0 rfl rfl 22 (by decide) f_128 (fun _ h9 => h9) rfl (by decide +kernel) rfl rfl (Nat.le_of_ble_eq_true rfl) dX9_inPage_141 (fun H locs hP hD hS => ?_)
                    have hP : va_P G vwCl [oM q ref n num den mag fac who fnd pc ic a 1 lb la fo dee kc, aI ci (q 1) 600 fl, aI ci (q 2) 1024 wd, aI cz (q 3) 8 df, aI cz (q 4) 8 ag, aI ci (q 5) 8 mk, aI ci (q 6) 8 sc, aI ci (q 7) 12 nu, aI ci (q 8) 12 co, aI ci (q 9) 12 fi, aI ci (q 10) 12 ad, aI ci (q 11) 1800 it, aI ci (q 12) 8 sp, aI ci (q 13) 160 stk] H := hP
                    have hD : va_D A [oM q ref n num den mag fac who fnd pc ic a 1 lb la fo dee kc, aI ci (q 1) 600 fl, aI ci (q 2) 1024 wd, aI cz (q 3) 8 df, aI cz (q 4) 8 ag, aI ci (q 5) 8 mk, aI ci (q 6) 8 sc, aI ci (q 7) 12 nu, aI ci (q 8) 12 co, aI ci (q 9) 12 fi, aI ci (q 10) 12 ad, aI ci (q 11) 1800 it, aI ci (q 12) 8 sp, aI ci (q 13) 160 stk] := hD
                    refine lv_aload_n hx hb dX9_inPage_144 rfl (lv_at hl 0 rfl) ?_
                    refine va_get (D := G) (ci := 8) (v := .int (nI kc)) (C := RX9) (T := TX9) (N := 30) hx hb hts hi_X9 hown hK hP 0 rfl rfl 27 (by decide) f_111 (fun _ h9 => h9) rfl dX9_inPage_145 ?_
                    refine lv_if_ne (tgt := 155) hx hb dX9_inPage_148 (by decide) (fun c_12 => ?_) (fun c_12 => ?_)
                    · skip
                      have z_12 := mt (nI_eq (a := kc) (b := 0) (by omega) (by omega)).mpr c_12
                      refine lv_iconst (v := nI 0) hx hb dX9_inPage_155 (by decide) ?_
                      exact rI (v := nI 0) hx hb hr hlocks nb0 hK hP hD hS [0, 1, 2, 3, 4, 5, 6, 7, 8, 9, 10, 11, 12, 13] (0, num, den, mag, fac, pc, ic, 1, lb, la, fo, dee, kc, df, ag, mk, sc, nu, co, fi, ad, it, sp, stk) rfl (by decide) ⟨rfl, by (try dsimp only); omega, by (try dsimp only); omega, by (try dsimp only); omega, by (try dsimp only); omega, by assumption, by assumption, by (try dsimp only); omega, by (try dsimp only); omega⟩ dX9_inPage_156
                    · skip
                      have z_12 := (nI_eq (a := kc) (b := 0) (by omega) (by omega)).mp c_12
                      refine lv_iconst (v := nI 1) hx hb dX9_inPage_151 (by decide) ?_
                      refine lv_goto (tgt := 156) hx hb dX9_inPage_152 (by decide) ?_
                      exact rI (v := nI 1) hx hb hr hlocks nb1 hK hP hD hS [0, 1, 2, 3, 4, 5, 6, 7, 8, 9, 10, 11, 12, 13] (1, num, den, mag, fac, pc, ic, 1, lb, la, fo, dee, kc, df, ag, mk, sc, nu, co, fi, ad, it, sp, stk) rfl (by decide) ⟨rfl, by (try dsimp only); omega, by (try dsimp only); omega, by (try dsimp only); omega, by (try dsimp only); omega, by assumption, by assumption, by (try dsimp only); omega, by (try dsimp only); omega⟩ dX9_inPage_156
                  · skip
                    have z_11 := mt (nI_eq (a := k) (b := 133) (by omega) (by omega)).mpr c_11
                    refine lv_iconst (v := nI 0) hx hb dX9_inPage_137 (by decide) ?_
                    exact rI (v := nI 0) hx hb hr hlocks nb0 hK hP hD hS [0, 1, 2, 3, 4, 5, 6, 7, 8, 9, 10, 11, 12, 13] (0, num, den, mag, fac, pc, ic, sta, lb, la, fo, dee, kc, df, ag, mk, sc, nu, co, fi, ad, it, sp, stk) rfl (by decide) ⟨rfl, by (try dsimp only); omega, by (try dsimp only); omega, by (try dsimp only); omega, by (try dsimp only); omega, by assumption, by assumption, by (try dsimp only); omega, by (try dsimp only); omega⟩ dX9_inPage_138
                · skip
                  have z_10 := mt (nI_ltI (a := 165) (b := k) (by omega) (by omega)).mpr c_10
                  refine lv_aload_n hx hb dX9_inPage_120 rfl (lv_at hl 0 rfl) ?_
                  refine lv_iload_n hx hb dX9_inPage_121 rfl (lv_at hl 1 rfl) ?_
                  refine lv_sipush (v := nI 158) hx hb dX9_inPage_122 (by decide) ?_
                  refine lv_isub hx hb dX9_inPage_125 ?_
                  refine tp (pk_sub (by omega)) ?_
                  refine jI (va_runV (As := [.int (nI (k - 158))]) (rest := []) ⟨hx, hb, hml, hown, hts⟩ (c_X9_choose l G ci cz cl q H.size (k - 158) ref n num den mag fac who fnd pc ic a sta lb la fo dee kc fl wd df ag mk sc nu co fi ad it sp stk (by omega) (by omega)) (cwV 1 hts gX9_inPage_X9_choose rfl rfl rfl (by decide +kernel) ⟨(Nat.le_of_ble_eq_true rfl), (Nat.le_of_ble_eq_true rfl)⟩) (pV (wc := [oM q ref n num den mag fac who fnd pc ic a sta lb la fo dee kc, aI ci (q 1) 600 fl, aI ci (q 2) 1024 wd, aI cz (q 3) 8 df, aI cz (q 4) 8 ag, aI ci (q 5) 8 mk, aI ci (q 6) 8 sc, aI ci (q 7) 12 nu, aI ci (q 8) 12 co, aI ci (q 9) 12 fi, aI ci (q 10) 12 ad, aI ci (q 11) 1800 it, aI ci (q 12) 8 sp, aI ci (q 13) 160 stk]) ok hK hP hD hS hA hO [0, 1, 2, 3, 4, 5, 6, 7, 8, 9, 10, 11, 12, 13] rfl (by decide) 0 rfl rfl) rfl rfl hl.1 rfl (lv_room (Nat.le_of_ble_eq_true rfl)) dX9_inPage_126 ⟨(Nat.le_of_ble_eq_true rfl), (Nat.le_of_ble_eq_true rfl)⟩) (wr := []) hP hD hS hA [0, 1, 2, 3, 4, 5, 6, 7, 8, 9, 10, 11, 12, 13] [] rfl rfl (by decide) (by decide) (fun r_13 u H locs hw_13 hP hD hS => ?_)
                  obtain ⟨bo_13, fo2_13⟩ := u
                  try dsimp only at hw_13
                  obtain ⟨rfl, h_13, g_13⟩ := hw_13
                  have hP : va_P G vwCl [oM q ref n num den mag fac who fnd pc ic a sta lb la fo2_13 dee kc, aI ci (q 1) 600 fl, aI ci (q 2) 1024 wd, aI cz (q 3) 8 df, aI cz (q 4) 8 ag, aI ci (q 5) 8 mk, aI ci (q 6) 8 sc, aI ci (q 7) 12 nu, aI ci (q 8) 12 co, aI ci (q 9) 12 fi, aI ci (q 10) 12 ad, aI ci (q 11) 1800 it, aI ci (q 12) 8 sp, aI ci (q 13) 160 stk] H := hP
                  have hD : va_D A [oM q ref n num den mag fac who fnd pc ic a sta lb la fo2_13 dee kc, aI ci (q 1) 600 fl, aI ci (q 2) 1024 wd, aI cz (q 3) 8 df, aI cz (q 4) 8 ag, aI ci (q 5) 8 mk, aI ci (q 6) 8 sc, aI ci (q 7) 12 nu, aI ci (q 8) 12 co, aI ci (q 9) 12 fi, aI ci (q 10) 12 ad, aI ci (q 11) 1800 it, aI ci (q 12) 8 sp, aI ci (q 13) 160 stk] := hD
                  exact rI (v := nI bo_13) hx hb hr hlocks (nbn (by omega)) hK hP hD hS [0, 1, 2, 3, 4, 5, 6, 7, 8, 9, 10, 11, 12, 13] (bo_13, num, den, mag, fac, pc, ic, sta, lb, la, fo2_13, dee, kc, df, ag, mk, sc, nu, co, fi, ad, it, sp, stk) rfl (by decide) ⟨rfl, by (try dsimp only); omega, by (try dsimp only); omega, by (try dsimp only); omega, by (try dsimp only); omega, by assumption, by assumption, by (try dsimp only); omega, by (try dsimp only); omega⟩ dX9_inPage_129
            · skip
              have z_6 := mt (nI_ltI (a := k) (b := 136) (by omega) (by omega)).mpr c_6
              refine lv_iload_n hx hb dX9_inPage_93 rfl (lv_at hl 1 rfl) ?_
              refine lv_sipush (v := nI 157) hx hb dX9_inPage_94 (by decide) ?_
              refine lv_icmp_gt (tgt := 106) hx hb dX9_inPage_97 (by decide) (fun c_14 => ?_) (fun c_14 => ?_)
              · skip
                have z_14 := (nI_ltI (a := 157) (b := k) (by omega) (by omega)).mp c_14
                refine lv_iload_n hx hb dX9_inPage_106 rfl (lv_at hl 1 rfl) ?_
                refine lv_sipush (v := nI 158) hx hb dX9_inPage_107 (by decide) ?_
                refine lv_icmp_lt (tgt := 130) hx hb dX9_inPage_110 (by decide) (fun c_15 => ?_) (fun c_15 => ?_)
                · skip
                  have z_15 := (nI_ltI (a := k) (b := 158) (by omega) (by omega)).mp c_15
                  refine lv_iload_n hx hb dX9_inPage_130 rfl (lv_at hl 1 rfl) ?_
                  refine lv_sipush (v := nI 133) hx hb dX9_inPage_131 (by decide) ?_
                  refine lv_icmp_eq (tgt := 139) hx hb dX9_inPage_134 (by decide) (fun c_16 => ?_) (fun c_16 => ?_)
                  · skip
                    have z_16 := (nI_eq (a := k) (b := 133) (by omega) (by omega)).mp c_16
                    refine lv_aload_n hx hb dX9_inPage_139 rfl (lv_at hl 0 rfl) ?_
                    refine lv_iconst (v := nI 1) hx hb dX9_inPage_140 (by decide) ?_
                    refine va_put (D := G) (ci := 8) (v := .int (nI 1)) (ty := .int) (C := RX9) (T := TX9) (N := 30) hx hb hts hi_X9 tyX9 tyX9_ok nmX9 hown hK hP hD hS 0 rfl rfl 22 (by decide) f_128 (fun _ h9 => h9) rfl (by decide +kernel) rfl rfl (Nat.le_of_ble_eq_true rfl) dX9_inPage_141 (fun H locs hP hD hS => ?_)
                    have hP : va_P G vwCl [oM q ref n num den mag fac who fnd pc ic a 1 lb la fo dee kc, aI ci (q 1) 600 fl, aI ci (q 2) 1024 wd, aI cz (q 3) 8 df, aI cz (q 4) 8 ag, aI ci (q 5) 8 mk, aI ci (q 6) 8 sc, aI ci (q 7) 12 nu, aI ci (q 8) 12 co, aI ci (q 9) 12 fi, aI ci (q 10) 12 ad, aI ci (q 11) 1800 it, aI ci (q 12) 8 sp, aI ci (q 13) 160 stk] H := hP
                    have hD : va_D A [oM q ref n num den mag fac who fnd pc ic a 1 lb la fo dee kc, aI ci (q 1) 600 fl, aI ci (q 2) 1024 wd, aI cz (q 3) 8 df, aI cz (q 4) 8 ag, aI ci (q 5) 8 mk, aI ci (q 6) 8 sc, aI ci (q 7) 12 nu, aI ci (q 8) 12 co, aI ci (q 9) 12 fi, aI ci (q 10) 12 ad, aI ci (q 11) 1800 it, aI ci (q 12) 8 sp, aI ci (q 13) 160 stk] := hD
                    refine lv_aload_n hx hb dX9_inPage_144 rfl (lv_at hl 0 rfl) ?_
                    refine va_get (D := G) (ci := 8) (v := .int (nI kc)) (C := RX9) (T := TX9) (N := 30) hx hb hts hi_X9 hown hK hP 0 rfl rfl 27 (by decide) f_111 (fun _ h9 => h9) rfl dX9_inPage_145 ?_
                    refine lv_if_ne (tgt := 155) hx hb dX9_inPage_148 (by decide) (fun c_17 => ?_) (fun c_17 => ?_)
                    · skip
                      have z_17 := mt (nI_eq (a := kc) (b := 0) (by omega) (by omega)).mpr c_17
                      refine lv_iconst (v := nI 0) hx hb dX9_inPage_155 (by decide) ?_
                      exact rI (v := nI 0) hx hb hr hlocks nb0 hK hP hD hS [0, 1, 2, 3, 4, 5, 6, 7, 8, 9, 10, 11, 12, 13] (0, num, den, mag, fac, pc, ic, 1, lb, la, fo, dee, kc, df, ag, mk, sc, nu, co, fi, ad, it, sp, stk) rfl (by decide) ⟨rfl, by (try dsimp only); omega, by (try dsimp only); omega, by (try dsimp only); omega, by (try dsimp only); omega, by assumption, by assumption, by (try dsimp only); omega, by (try dsimp only); omega⟩ dX9_inPage_156
                    · skip
                      have z_17 := (nI_eq (a := kc) (b := 0) (by omega) (by omega)).mp c_17
                      refine lv_iconst (v := nI 1) hx hb dX9_inPage_151 (by decide) ?_
                      refine lv_goto (tgt := 156) hx hb dX9_inPage_152 (by decide) ?_
                      exact rI (v := nI 1) hx hb hr hlocks nb1 hK hP hD hS [0, 1, 2, 3, 4, 5, 6, 7, 8, 9, 10, 11, 12, 13] (1, num, den, mag, fac, pc, ic, 1, lb, la, fo, dee, kc, df, ag, mk, sc, nu, co, fi, ad, it, sp, stk) rfl (by decide) ⟨rfl, by (try dsimp only); omega, by (try dsimp only); omega, by (try dsimp only); omega, by (try dsimp only); omega, by assumption, by assumption, by (try dsimp only); omega, by (try dsimp only); omega⟩ dX9_inPage_156
                  · skip
                    have z_16 := mt (nI_eq (a := k) (b := 133) (by omega) (by omega)).mpr c_16
                    refine lv_iconst (v := nI 0) hx hb dX9_inPage_137 (by decide) ?_
                    exact rI (v := nI 0) hx hb hr hlocks nb0 hK hP hD hS [0, 1, 2, 3, 4, 5, 6, 7, 8, 9, 10, 11, 12, 13] (0, num, den, mag, fac, pc, ic, sta, lb, la, fo, dee, kc, df, ag, mk, sc, nu, co, fi, ad, it, sp, stk) rfl (by decide) ⟨rfl, by (try dsimp only); omega, by (try dsimp only); omega, by (try dsimp only); omega, by (try dsimp only); omega, by assumption, by assumption, by (try dsimp only); omega, by (try dsimp only); omega⟩ dX9_inPage_138
                · skip
                  have z_15 := mt (nI_ltI (a := k) (b := 158) (by omega) (by omega)).mpr c_15
                  refine lv_iload_n hx hb dX9_inPage_113 rfl (lv_at hl 1 rfl) ?_
                  refine lv_sipush (v := nI 165) hx hb dX9_inPage_114 (by decide) ?_
                  refine lv_icmp_gt (tgt := 130) hx hb dX9_inPage_117 (by decide) (fun c_18 => ?_) (fun c_18 => ?_)
                  · skip
                    have z_18 := (nI_ltI (a := 165) (b := k) (by omega) (by omega)).mp c_18
                    refine lv_iload_n hx hb dX9_inPage_130 rfl (lv_at hl 1 rfl) ?_
                    refine lv_sipush (v := nI 133) hx hb dX9_inPage_131 (by decide) ?_
                    refine lv_icmp_eq (tgt := 139) hx hb dX9_inPage_134 (by decide) (fun c_19 => ?_) (fun c_19 => ?_)
                    · skip
                      have z_19 := (nI_eq (a := k) (b := 133) (by omega) (by omega)).mp c_19
                      refine lv_aload_n hx hb dX9_inPage_139 rfl (lv_at hl 0 rfl) ?_
                      refine lv_iconst (v := nI 1) hx hb dX9_inPage_140 (by decide) ?_
                      refine va_put (D := G) (ci := 8) (v := .int (nI 1)) (ty := .int) (C := RX9) (T := TX9) (N := 30) hx hb hts hi_X9 tyX9 tyX9_ok nmX9 hown hK hP hD hS 0 rfl rfl 22 (by decide) f_128 (fun _ h9 => h9) rfl (by decide +kernel) rfl rfl (Nat.le_of_ble_eq_true rfl) dX9_inPage_141 (fun H locs hP hD hS => ?_)
                      have hP : va_P G vwCl [oM q ref n num den mag fac who fnd pc ic a 1 lb la fo dee kc, aI ci (q 1) 600 fl, aI ci (q 2) 1024 wd, aI cz (q 3) 8 df, aI cz (q 4) 8 ag, aI ci (q 5) 8 mk, aI ci (q 6) 8 sc, aI ci (q 7) 12 nu, aI ci (q 8) 12 co, aI ci (q 9) 12 fi, aI ci (q 10) 12 ad, aI ci (q 11) 1800 it, aI ci (q 12) 8 sp, aI ci (q 13) 160 stk] H := hP
                      have hD : va_D A [oM q ref n num den mag fac who fnd pc ic a 1 lb la fo dee kc, aI ci (q 1) 600 fl, aI ci (q 2) 1024 wd, aI cz (q 3) 8 df, aI cz (q 4) 8 ag, aI ci (q 5) 8 mk, aI ci (q 6) 8 sc, aI ci (q 7) 12 nu, aI ci (q 8) 12 co, aI ci (q 9) 12 fi, aI ci (q 10) 12 ad, aI ci (q 11) 1800 it, aI ci (q 12) 8 sp, aI ci (q 13) 160 stk] := hD
                      refine lv_aload_n hx hb dX9_inPage_144 rfl (lv_at hl 0 rfl) ?_
                      refine va_get (D := G) (ci := 8) (v := .int (nI kc)) (C := RX9) (T := TX9) (N := 30) hx hb hts hi_X9 hown hK hP 0 rfl rfl 27 (by decide) f_111 (fun _ h9 => h9) rfl dX9_inPage_145 ?_
                      refine lv_if_ne (tgt := 155) hx hb dX9_inPage_148 (by decide) (fun c_20 => ?_) (fun c_20 => ?_)
                      · skip
                        have z_20 := mt (nI_eq (a := kc) (b := 0) (by omega) (by omega)).mpr c_20
                        refine lv_iconst (v := nI 0) hx hb dX9_inPage_155 (by decide) ?_
                        exact rI (v := nI 0) hx hb hr hlocks nb0 hK hP hD hS [0, 1, 2, 3, 4, 5, 6, 7, 8, 9, 10, 11, 12, 13] (0, num, den, mag, fac, pc, ic, 1, lb, la, fo, dee, kc, df, ag, mk, sc, nu, co, fi, ad, it, sp, stk) rfl (by decide) ⟨rfl, by (try dsimp only); omega, by (try dsimp only); omega, by (try dsimp only); omega, by (try dsimp only); omega, by assumption, by assumption, by (try dsimp only); omega, by (try dsimp only); omega⟩ dX9_inPage_156
                      · skip
                        have z_20 := (nI_eq (a := kc) (b := 0) (by omega) (by omega)).mp c_20
                        refine lv_iconst (v := nI 1) hx hb dX9_inPage_151 (by decide) ?_
                        refine lv_goto (tgt := 156) hx hb dX9_inPage_152 (by decide) ?_
                        exact rI (v := nI 1) hx hb hr hlocks nb1 hK hP hD hS [0, 1, 2, 3, 4, 5, 6, 7, 8, 9, 10, 11, 12, 13] (1, num, den, mag, fac, pc, ic, 1, lb, la, fo, dee, kc, df, ag, mk, sc, nu, co, fi, ad, it, sp, stk) rfl (by decide) ⟨rfl, by (try dsimp only); omega, by (try dsimp only); omega, by (try dsimp only); omega, by (try dsimp only); omega, by assumption, by assumption, by (try dsimp only); omega, by (try dsimp only); omega⟩ dX9_inPage_156
                    · skip
                      have z_19 := mt (nI_eq (a := k) (b := 133) (by omega) (by omega)).mpr c_19
                      refine lv_iconst (v := nI 0) hx hb dX9_inPage_137 (by decide) ?_
                      exact rI (v := nI 0) hx hb hr hlocks nb0 hK hP hD hS [0, 1, 2, 3, 4, 5, 6, 7, 8, 9, 10, 11, 12, 13] (0, num, den, mag, fac, pc, ic, sta, lb, la, fo, dee, kc, df, ag, mk, sc, nu, co, fi, ad, it, sp, stk) rfl (by decide) ⟨rfl, by (try dsimp only); omega, by (try dsimp only); omega, by (try dsimp only); omega, by (try dsimp only); omega, by assumption, by assumption, by (try dsimp only); omega, by (try dsimp only); omega⟩ dX9_inPage_138
                  · skip
                    have z_18 := mt (nI_ltI (a := 165) (b := k) (by omega) (by omega)).mpr c_18
                    refine lv_aload_n hx hb dX9_inPage_120 rfl (lv_at hl 0 rfl) ?_
                    refine lv_iload_n hx hb dX9_inPage_121 rfl (lv_at hl 1 rfl) ?_
                    refine lv_sipush (v := nI 158) hx hb dX9_inPage_122 (by decide) ?_
                    refine lv_isub hx hb dX9_inPage_125 ?_
                    refine tp (pk_sub (by omega)) ?_
                    refine jI (va_runV (As := [.int (nI (k - 158))]) (rest := []) ⟨hx, hb, hml, hown, hts⟩ (c_X9_choose l G ci cz cl q H.size (k - 158) ref n num den mag fac who fnd pc ic a sta lb la fo dee kc fl wd df ag mk sc nu co fi ad it sp stk (by omega) (by omega)) (cwV 1 hts gX9_inPage_X9_choose rfl rfl rfl (by decide +kernel) ⟨(Nat.le_of_ble_eq_true rfl), (Nat.le_of_ble_eq_true rfl)⟩) (pV (wc := [oM q ref n num den mag fac who fnd pc ic a sta lb la fo dee kc, aI ci (q 1) 600 fl, aI ci (q 2) 1024 wd, aI cz (q 3) 8 df, aI cz (q 4) 8 ag, aI ci (q 5) 8 mk, aI ci (q 6) 8 sc, aI ci (q 7) 12 nu, aI ci (q 8) 12 co, aI ci (q 9) 12 fi, aI ci (q 10) 12 ad, aI ci (q 11) 1800 it, aI ci (q 12) 8 sp, aI ci (q 13) 160 stk]) ok hK hP hD hS hA hO [0, 1, 2, 3, 4, 5, 6, 7, 8, 9, 10, 11, 12, 13] rfl (by decide) 0 rfl rfl) rfl rfl hl.1 rfl (lv_room (Nat.le_of_ble_eq_true rfl)) dX9_inPage_126 ⟨(Nat.le_of_ble_eq_true rfl), (Nat.le_of_ble_eq_true rfl)⟩) (wr := []) hP hD hS hA [0, 1, 2, 3, 4, 5, 6, 7, 8, 9, 10, 11, 12, 13] [] rfl rfl (by decide) (by decide) (fun r_21 u H locs hw_21 hP hD hS => ?_)
                    obtain ⟨bo_21, fo2_21⟩ := u
                    try dsimp only at hw_21
                    obtain ⟨rfl, h_21, g_21⟩ := hw_21
                    have hP : va_P G vwCl [oM q ref n num den mag fac who fnd pc ic a sta lb la fo2_21 dee kc, aI ci (q 1) 600 fl, aI ci (q 2) 1024 wd, aI cz (q 3) 8 df, aI cz (q 4) 8 ag, aI ci (q 5) 8 mk, aI ci (q 6) 8 sc, aI ci (q 7) 12 nu, aI ci (q 8) 12 co, aI ci (q 9) 12 fi, aI ci (q 10) 12 ad, aI ci (q 11) 1800 it, aI ci (q 12) 8 sp, aI ci (q 13) 160 stk] H := hP
                    have hD : va_D A [oM q ref n num den mag fac who fnd pc ic a sta lb la fo2_21 dee kc, aI ci (q 1) 600 fl, aI ci (q 2) 1024 wd, aI cz (q 3) 8 df, aI cz (q 4) 8 ag, aI ci (q 5) 8 mk, aI ci (q 6) 8 sc, aI ci (q 7) 12 nu, aI ci (q 8) 12 co, aI ci (q 9) 12 fi, aI ci (q 10) 12 ad, aI ci (q 11) 1800 it, aI ci (q 12) 8 sp, aI ci (q 13) 160 stk] := hD
                    exact rI (v := nI bo_21) hx hb hr hlocks (nbn (by omega)) hK hP hD hS [0, 1, 2, 3, 4, 5, 6, 7, 8, 9, 10, 11, 12, 13] (bo_21, num, den, mag, fac, pc, ic, sta, lb, la, fo2_21, dee, kc, df, ag, mk, sc, nu, co, fi, ad, it, sp, stk) rfl (by decide) ⟨rfl, by (try dsimp only); omega, by (try dsimp only); omega, by (try dsimp only); omega, by (try dsimp only); omega, by assumption, by assumption, by (try dsimp only); omega, by (try dsimp only); omega⟩ dX9_inPage_129
              · skip
                have z_14 := mt (nI_ltI (a := 157) (b := k) (by omega) (by omega)).mpr c_14
                refine lv_aload_n hx hb dX9_inPage_100 rfl (lv_at hl 0 rfl) ?_
                refine lv_iload_n hx hb dX9_inPage_101 rfl (lv_at hl 1 rfl) ?_
                refine jI (va_runV (As := [.int (nI k)]) (rest := []) ⟨hx, hb, hml, hown, hts⟩ (c_X9_moves l G ci cz cl q H.size k ref n num den mag fac who fnd pc ic a sta lb la fo dee kc fl wd df ag mk sc nu co fi ad it sp stk (by omega) (by assumption) (by omega)) (cwV 1 hts gX9_inPage_X9_moves rfl rfl rfl (by decide +kernel) ⟨(Nat.le_of_ble_eq_true rfl), (Nat.le_of_ble_eq_true rfl)⟩) (pV (wc := [oM q ref n num den mag fac who fnd pc ic a sta lb la fo dee kc, aI ci (q 1) 600 fl, aI ci (q 2) 1024 wd, aI cz (q 3) 8 df, aI cz (q 4) 8 ag, aI ci (q 5) 8 mk, aI ci (q 6) 8 sc, aI ci (q 7) 12 nu, aI ci (q 8) 12 co, aI ci (q 9) 12 fi, aI ci (q 10) 12 ad, aI ci (q 11) 1800 it, aI ci (q 12) 8 sp, aI ci (q 13) 160 stk]) ok hK hP hD hS hA hO [0, 1, 2, 3, 4, 5, 6, 7, 8, 9, 10, 11, 12, 13] rfl (by decide) 0 rfl rfl) rfl rfl hl.1 rfl (lv_room (Nat.le_of_ble_eq_true rfl)) dX9_inPage_102 ⟨(Nat.le_of_ble_eq_true rfl), (Nat.le_of_ble_eq_true rfl)⟩) (wr := []) hP hD hS hA [0, 1, 2, 3, 4, 5, 6, 7, 8, 9, 10, 11, 12, 13] [] rfl rfl (by decide) (by decide) (fun r_22 u H locs hw_22 hP hD hS => ?_)
                obtain ⟨bo_22, sp2_22⟩ := u
                try dsimp only at hw_22
                obtain ⟨rfl, h_22⟩ := hw_22
                have hP : va_P G vwCl [oM q ref n num den mag fac who fnd pc ic a sta lb la fo dee kc, aI ci (q 1) 600 fl, aI ci (q 2) 1024 wd, aI cz (q 3) 8 df, aI cz (q 4) 8 ag, aI ci (q 5) 8 mk, aI ci (q 6) 8 sc, aI ci (q 7) 12 nu, aI ci (q 8) 12 co, aI ci (q 9) 12 fi, aI ci (q 10) 12 ad, aI ci (q 11) 1800 it, aI ci (q 12) 8 sp2_22, aI ci (q 13) 160 stk] H := hP
                have hD : va_D A [oM q ref n num den mag fac who fnd pc ic a sta lb la fo dee kc, aI ci (q 1) 600 fl, aI ci (q 2) 1024 wd, aI cz (q 3) 8 df, aI cz (q 4) 8 ag, aI ci (q 5) 8 mk, aI ci (q 6) 8 sc, aI ci (q 7) 12 nu, aI ci (q 8) 12 co, aI ci (q 9) 12 fi, aI ci (q 10) 12 ad, aI ci (q 11) 1800 it, aI ci (q 12) 8 sp2_22, aI ci (q 13) 160 stk] := hD
                exact rI (v := nI bo_22) hx hb hr hlocks (nbn (by omega)) hK hP hD hS [0, 1, 2, 3, 4, 5, 6, 7, 8, 9, 10, 11, 12, 13] (bo_22, num, den, mag, fac, pc, ic, sta, lb, la, fo, dee, kc, df, ag, mk, sc, nu, co, fi, ad, it, sp2_22, stk) rfl (by decide) ⟨rfl, by (try dsimp only); omega, by (try dsimp only); omega, by (try dsimp only); omega, by (try dsimp only); omega, by assumption, by assumption, by (try dsimp only); omega, by (try dsimp only); omega⟩ dX9_inPage_105
          · skip
            have z_5 := (nI_eq (a := k) (b := 135) (by omega) (by omega)).mp c_5
            refine lv_aload_n hx hb dX9_inPage_81 rfl (lv_at hl 0 rfl) ?_
            refine jI (va_runV (As := []) (rest := []) ⟨hx, hb, hml, hown, hts⟩ (c_X9_pop l G ci cz cl q H.size ref n num den mag fac who fnd pc ic a sta lb la fo dee kc fl wd df ag mk sc nu co fi ad it sp stk (by omega)) (cwV 0 hts gX9_inPage_X9_pop rfl rfl rfl (by decide +kernel) ⟨(Nat.le_of_ble_eq_true rfl), (Nat.le_of_ble_eq_true rfl)⟩) (pV (wc := [oM q ref n num den mag fac who fnd pc ic a sta lb la fo dee kc, aI ci (q 1) 600 fl, aI ci (q 2) 1024 wd, aI cz (q 3) 8 df, aI cz (q 4) 8 ag, aI ci (q 5) 8 mk, aI ci (q 6) 8 sc, aI ci (q 7) 12 nu, aI ci (q 8) 12 co, aI ci (q 9) 12 fi, aI ci (q 10) 12 ad, aI ci (q 11) 1800 it, aI ci (q 12) 8 sp, aI ci (q 13) 160 stk]) ok hK hP hD hS hA hO [0, 1, 2, 3, 4, 5, 6, 7, 8, 9, 10, 11, 12, 13] rfl (by decide) 0 rfl rfl) rfl rfl hl.1 rfl (lv_room (Nat.le_of_ble_eq_true rfl)) dX9_inPage_82 ⟨(Nat.le_of_ble_eq_true rfl), (Nat.le_of_ble_eq_true rfl)⟩) (wr := []) hP hD hS hA [0, 1, 2, 3, 4, 5, 6, 7, 8, 9, 10, 11, 12, 13] [] rfl rfl (by decide) (by decide) (fun r_23 u H locs hw_23 hP hD hS => ?_)
            obtain ⟨bo_23, kc2_23, sp2_23⟩ := u
            try dsimp only at hw_23
            obtain ⟨rfl, h_23, g_23⟩ := hw_23
            have hP : va_P G vwCl [oM q ref n num den mag fac who fnd pc ic a sta lb la fo dee kc2_23, aI ci (q 1) 600 fl, aI ci (q 2) 1024 wd, aI cz (q 3) 8 df, aI cz (q 4) 8 ag, aI ci (q 5) 8 mk, aI ci (q 6) 8 sc, aI ci (q 7) 12 nu, aI ci (q 8) 12 co, aI ci (q 9) 12 fi, aI ci (q 10) 12 ad, aI ci (q 11) 1800 it, aI ci (q 12) 8 sp2_23, aI ci (q 13) 160 stk] H := hP
            have hD : va_D A [oM q ref n num den mag fac who fnd pc ic a sta lb la fo dee kc2_23, aI ci (q 1) 600 fl, aI ci (q 2) 1024 wd, aI cz (q 3) 8 df, aI cz (q 4) 8 ag, aI ci (q 5) 8 mk, aI ci (q 6) 8 sc, aI ci (q 7) 12 nu, aI ci (q 8) 12 co, aI ci (q 9) 12 fi, aI ci (q 10) 12 ad, aI ci (q 11) 1800 it, aI ci (q 12) 8 sp2_23, aI ci (q 13) 160 stk] := hD
            exact rI (v := nI bo_23) hx hb hr hlocks (nbn (by omega)) hK hP hD hS [0, 1, 2, 3, 4, 5, 6, 7, 8, 9, 10, 11, 12, 13] (bo_23, num, den, mag, fac, pc, ic, sta, lb, la, fo, dee, kc2_23, df, ag, mk, sc, nu, co, fi, ad, it, sp2_23, stk) rfl (by decide) ⟨rfl, by (try dsimp only); omega, by (try dsimp only); omega, by (try dsimp only); omega, by (try dsimp only); omega, by assumption, by assumption, by (try dsimp only); omega, by (try dsimp only); omega⟩ dX9_inPage_85
        · skip
          have z_4 := (nI_eq (a := k) (b := 134) (by omega) (by omega)).mp c_4
          refine lv_aload_n hx hb dX9_inPage_69 rfl (lv_at hl 0 rfl) ?_
          refine jI (va_runV (As := []) (rest := []) ⟨hx, hb, hml, hown, hts⟩ (c_X9_push l G ci cz cl q H.size ref n num den mag fac who fnd pc ic a sta lb la fo dee kc fl wd df ag mk sc nu co fi ad it sp stk (by omega)) (cwV 0 hts gX9_inPage_X9_push rfl rfl rfl (by decide +kernel) ⟨(Nat.le_of_ble_eq_true rfl), (Nat.le_of_ble_eq_true rfl)⟩) (pV (wc := [oM q ref n num den mag fac who fnd pc ic a sta lb la fo dee kc, aI ci (q 1) 600 fl, aI ci (q 2) 1024 wd, aI cz (q 3) 8 df, aI cz (q 4) 8 ag, aI ci (q 5) 8 mk, aI ci (q 6) 8 sc, aI ci (q 7) 12 nu, aI ci (q 8) 12 co, aI ci (q 9) 12 fi, aI ci (q 10) 12 ad, aI ci (q 11) 1800 it, aI ci (q 12) 8 sp, aI ci (q 13) 160 stk]) ok hK hP hD hS hA hO [0, 1, 2, 3, 4, 5, 6, 7, 8, 9, 10, 11, 12, 13] rfl (by decide) 0 rfl rfl) rfl rfl hl.1 rfl (lv_room (Nat.le_of_ble_eq_true rfl)) dX9_inPage_70 ⟨(Nat.le_of_ble_eq_true rfl), (Nat.le_of_ble_eq_true rfl)⟩) (wr := []) hP hD hS hA [0, 1, 2, 3, 4, 5, 6, 7, 8, 9, 10, 11, 12, 13] [] rfl rfl (by decide) (by decide) (fun r_24 u H locs hw_24 hP hD hS => ?_)
          obtain ⟨bo_24, dee2_24, kc2_24, stk2_24⟩ := u
          try dsimp only at hw_24
          obtain ⟨rfl, h_24, g_24⟩ := hw_24
          have hP : va_P G vwCl [oM q ref n num den mag fac who fnd pc ic a sta lb la fo dee2_24 kc2_24, aI ci (q 1) 600 fl, aI ci (q 2) 1024 wd, aI cz (q 3) 8 df, aI cz (q 4) 8 ag, aI ci (q 5) 8 mk, aI ci (q 6) 8 sc, aI ci (q 7) 12 nu, aI ci (q 8) 12 co, aI ci (q 9) 12 fi, aI ci (q 10) 12 ad, aI ci (q 11) 1800 it, aI ci (q 12) 8 sp, aI ci (q 13) 160 stk2_24] H := hP
          have hD : va_D A [oM q ref n num den mag fac who fnd pc ic a sta lb la fo dee2_24 kc2_24, aI ci (q 1) 600 fl, aI ci (q 2) 1024 wd, aI cz (q 3) 8 df, aI cz (q 4) 8 ag, aI ci (q 5) 8 mk, aI ci (q 6) 8 sc, aI ci (q 7) 12 nu, aI ci (q 8) 12 co, aI ci (q 9) 12 fi, aI ci (q 10) 12 ad, aI ci (q 11) 1800 it, aI ci (q 12) 8 sp, aI ci (q 13) 160 stk2_24] := hD
          exact rI (v := nI bo_24) hx hb hr hlocks (nbn (by omega)) hK hP hD hS [0, 1, 2, 3, 4, 5, 6, 7, 8, 9, 10, 11, 12, 13] (bo_24, num, den, mag, fac, pc, ic, sta, lb, la, fo, dee2_24, kc2_24, df, ag, mk, sc, nu, co, fi, ad, it, sp, stk2_24) rfl (by decide) ⟨rfl, by (try dsimp only); omega, by (try dsimp only); omega, by (try dsimp only); omega, by (try dsimp only); omega, by assumption, by assumption, by (try dsimp only); omega, by (try dsimp only); omega⟩ dX9_inPage_73
      · skip
        have z_3 := mt (nI_leI (a := 131) (b := k) (by omega) (by omega)).mpr c_3
        refine lv_aload_n hx hb dX9_inPage_45 rfl (lv_at hl 0 rfl) ?_
        refine lv_iload_n hx hb dX9_inPage_46 rfl (lv_at hl 1 rfl) ?_
        refine lv_sipush (v := nI 129) hx hb dX9_inPage_47 (by decide) ?_
        refine lv_icmp_ne (tgt := 57) hx hb dX9_inPage_50 (by decide) (fun c_25 => ?_) (fun c_25 => ?_)
        · skip
          have z_25 := mt (nI_eq (a := k) (b := 129) (by omega) (by omega)).mpr c_25
          refine lv_iconst (v := nI 0) hx hb dX9_inPage_57 (by decide) ?_
          refine jI (va_runV (As := [.int (nI 0)]) (rest := []) ⟨hx, hb, hml, hown, hts⟩ (c_X9_rule l G ci cz cl q H.size 0 ref n num den mag fac who fnd pc ic a sta lb la fo dee kc fl wd df ag mk sc nu co fi ad it sp stk (by omega) hB (by omega) (by omega) (by omega) ⟨by omega, by omega, by omega, by assumption, by assumption, by omega, by omega⟩) (cwV 1 hts gX9_inPage_X9_rule rfl rfl rfl (by decide +kernel) ⟨(Nat.le_of_ble_eq_true rfl), (Nat.le_of_ble_eq_true rfl)⟩) (pV (wc := [oM q ref n num den mag fac who fnd pc ic a sta lb la fo dee kc, aI ci (q 1) 600 fl, aI ci (q 2) 1024 wd, aI cz (q 3) 8 df, aI cz (q 4) 8 ag, aI ci (q 5) 8 mk, aI ci (q 6) 8 sc, aI ci (q 7) 12 nu, aI ci (q 8) 12 co, aI ci (q 9) 12 fi, aI ci (q 10) 12 ad, aI ci (q 11) 1800 it, aI ci (q 12) 8 sp, aI ci (q 13) 160 stk]) ok hK hP hD hS hA hO [0, 1, 2, 3, 4, 5, 6, 7, 8, 9, 10, 11, 12, 13] rfl (by decide) 0 rfl rfl) rfl rfl hl.1 rfl (lv_room (Nat.le_of_ble_eq_true rfl)) dX9_inPage_58 ⟨(Nat.le_of_ble_eq_true rfl), (Nat.le_of_ble_eq_true rfl)⟩) (wr := []) hP hD hS hA [0, 1, 2, 3, 4, 5, 6, 7, 8, 9, 10, 11, 12, 13] [] rfl rfl (by decide) (by decide) (fun r_26 u H locs hw_26 hP hD hS => ?_)
          obtain ⟨bo_26, ic2_26, co2_26, it2_26, sp2_26⟩ := u
          try dsimp only at hw_26
          obtain ⟨rfl, h_26, g_26, P_26⟩ := hw_26
          have hP : va_P G vwCl [oM q ref n num den mag fac who fnd pc ic2_26 a sta lb la fo dee kc, aI ci (q 1) 600 fl, aI ci (q 2) 1024 wd, aI cz (q 3) 8 df, aI cz (q 4) 8 ag, aI ci (q 5) 8 mk, aI ci (q 6) 8 sc, aI ci (q 7) 12 nu, aI ci (q 8) 12 co2_26, aI ci (q 9) 12 fi, aI ci (q 10) 12 ad, aI ci (q 11) 1800 it2_26, aI ci (q 12) 8 sp2_26, aI ci (q 13) 160 stk] H := hP
          have hD : va_D A [oM q ref n num den mag fac who fnd pc ic2_26 a sta lb la fo dee kc, aI ci (q 1) 600 fl, aI ci (q 2) 1024 wd, aI cz (q 3) 8 df, aI cz (q 4) 8 ag, aI ci (q 5) 8 mk, aI ci (q 6) 8 sc, aI ci (q 7) 12 nu, aI ci (q 8) 12 co2_26, aI ci (q 9) 12 fi, aI ci (q 10) 12 ad, aI ci (q 11) 1800 it2_26, aI ci (q 12) 8 sp2_26, aI ci (q 13) 160 stk] := hD
          exact rI (v := nI bo_26) hx hb hr hlocks (nbn (by omega)) hK hP hD hS [0, 1, 2, 3, 4, 5, 6, 7, 8, 9, 10, 11, 12, 13] (bo_26, num, den, mag, fac, pc, ic2_26, sta, lb, la, fo, dee, kc, df, ag, mk, sc, nu, co2_26, fi, ad, it2_26, sp2_26, stk) rfl (by decide) ⟨rfl, by (try dsimp only); omega, by (try dsimp only); omega, by (try dsimp only); omega, by (try dsimp only); omega, by assumption, by assumption, by (try dsimp only); omega, by (try dsimp only); omega⟩ dX9_inPage_61
        · skip
          have z_25 := (nI_eq (a := k) (b := 129) (by omega) (by omega)).mp c_25
          refine lv_iconst (v := nI 1) hx hb dX9_inPage_53 (by decide) ?_
          refine lv_goto (tgt := 58) hx hb dX9_inPage_54 (by decide) ?_
          refine jI (va_runV (As := [.int (nI 1)]) (rest := []) ⟨hx, hb, hml, hown, hts⟩ (c_X9_rule l G ci cz cl q H.size 1 ref n num den mag fac who fnd pc ic a sta lb la fo dee kc fl wd df ag mk sc nu co fi ad it sp stk (by omega) hB (by omega) (by omega) (by omega) ⟨by omega, by omega, by omega, by assumption, by assumption, by omega, by omega⟩) (cwV 1 hts gX9_inPage_X9_rule rfl rfl rfl (by decide +kernel) ⟨(Nat.le_of_ble_eq_true rfl), (Nat.le_of_ble_eq_true rfl)⟩) (pV (wc := [oM q ref n num den mag fac who fnd pc ic a sta lb la fo dee kc, aI ci (q 1) 600 fl, aI ci (q 2) 1024 wd, aI cz (q 3) 8 df, aI cz (q 4) 8 ag, aI ci (q 5) 8 mk, aI ci (q 6) 8 sc, aI ci (q 7) 12 nu, aI ci (q 8) 12 co, aI ci (q 9) 12 fi, aI ci (q 10) 12 ad, aI ci (q 11) 1800 it, aI ci (q 12) 8 sp, aI ci (q 13) 160 stk]) ok hK hP hD hS hA hO [0, 1, 2, 3, 4, 5, 6, 7, 8, 9, 10, 11, 12, 13] rfl (by decide) 0 rfl rfl) rfl rfl hl.1 rfl (lv_room (Nat.le_of_ble_eq_true rfl)) dX9_inPage_58 ⟨(Nat.le_of_ble_eq_true rfl), (Nat.le_of_ble_eq_true rfl)⟩) (wr := []) hP hD hS hA [0, 1, 2, 3, 4, 5, 6, 7, 8, 9, 10, 11, 12, 13] [] rfl rfl (by decide) (by decide) (fun r_27 u H locs hw_27 hP hD hS => ?_)
          obtain ⟨bo_27, ic2_27, co2_27, it2_27, sp2_27⟩ := u
          try dsimp only at hw_27
          obtain ⟨rfl, h_27, g_27, P_27⟩ := hw_27
          have hP : va_P G vwCl [oM q ref n num den mag fac who fnd pc ic2_27 a sta lb la fo dee kc, aI ci (q 1) 600 fl, aI ci (q 2) 1024 wd, aI cz (q 3) 8 df, aI cz (q 4) 8 ag, aI ci (q 5) 8 mk, aI ci (q 6) 8 sc, aI ci (q 7) 12 nu, aI ci (q 8) 12 co2_27, aI ci (q 9) 12 fi, aI ci (q 10) 12 ad, aI ci (q 11) 1800 it2_27, aI ci (q 12) 8 sp2_27, aI ci (q 13) 160 stk] H := hP
          have hD : va_D A [oM q ref n num den mag fac who fnd pc ic2_27 a sta lb la fo dee kc, aI ci (q 1) 600 fl, aI ci (q 2) 1024 wd, aI cz (q 3) 8 df, aI cz (q 4) 8 ag, aI ci (q 5) 8 mk, aI ci (q 6) 8 sc, aI ci (q 7) 12 nu, aI ci (q 8) 12 co2_27, aI ci (q 9) 12 fi, aI ci (q 10) 12 ad, aI ci (q 11) 1800 it2_27, aI ci (q 12) 8 sp2_27, aI ci (q 13) 160 stk] := hD
          exact rI (v := nI bo_27) hx hb hr hlocks (nbn (by omega)) hK hP hD hS [0, 1, 2, 3, 4, 5, 6, 7, 8, 9, 10, 11, 12, 13] (bo_27, num, den, mag, fac, pc, ic2_27, sta, lb, la, fo, dee, kc, df, ag, mk, sc, nu, co2_27, fi, ad, it2_27, sp2_27, stk) rfl (by decide) ⟨rfl, by (try dsimp only); omega, by (try dsimp only); omega, by (try dsimp only); omega, by (try dsimp only); omega, by assumption, by assumption, by (try dsimp only); omega, by (try dsimp only); omega⟩ dX9_inPage_61
    · skip
      have z_2 := (nI_eq (a := k) (b := 128) (by omega) (by omega)).mp c_2
      refine lv_aload_n hx hb dX9_inPage_21 rfl (lv_at hl 0 rfl) ?_
      refine lv_aload_n hx hb dX9_inPage_22 rfl (lv_at hl 0 rfl) ?_
      refine va_get (D := G) (ci := 8) (v := .ref (q 1)) (C := RX9) (T := TX9) (N := 30) hx hb hts hi_X9 hown hK hP 0 rfl rfl 1 (by decide) f_7 (fun _ h9 => h9) rfl dX9_inPage_23 ?_
      refine lv_aload_n hx hb dX9_inPage_26 rfl (lv_at hl 0 rfl) ?_
      refine va_get (D := G) (ci := 8) (v := .int (nI a)) (C := RX9) (T := TX9) (N := 30) hx hb hts hi_X9 hown hK hP 0 rfl rfl 21 (by decide) f_105 (fun _ h9 => h9) rfl dX9_inPage_27 ?_
      refine lv_iconst (v := nI 1) hx hb dX9_inPage_30 (by decide) ?_
      refine lv_iadd hx hb dX9_inPage_31 ?_
      refine tp (nI_add _ _) ?_
      refine va_iald hx hb hK hP 1 0 rfl rfl (vp_in_nI (by omega) (by omega)) dX9_inPage_32 ?_
      refine tp (y := fl (a + 1)) (congrArg fl (nI_clamp (by omega))) ?_
      obtain ⟨c9, hc1, hc2⟩ := hB (a + 1)
      refine tp (y := nI c9) hc1 ?_
      refine lv_iconst (v := nI 0) hx hb dX9_inPage_33 (by decide) ?_
      refine jI (va_runV (As := [.int (nI c9), .int (nI 0)]) (rest := []) ⟨hx, hb, hml, hown, hts⟩ (c_X9_character l G ci cz cl q H.size c9 0 ref n num den mag fac who fnd pc ic a sta lb la fo dee kc fl wd df ag mk sc nu co fi ad it sp stk (by omega) hB (by omega) (by omega) (by omega) ⟨by omega, by omega, by omega, by assumption, by assumption, by omega, by omega⟩) (cwV 2 hts gX9_inPage_X9_character rfl rfl rfl (by decide +kernel) ⟨(Nat.le_of_ble_eq_true rfl), (Nat.le_of_ble_eq_true rfl)⟩) (pV (wc := [oM q ref n num den mag fac who fnd pc ic a sta lb la fo dee kc, aI ci (q 1) 600 fl, aI ci (q 2) 1024 wd, aI cz (q 3) 8 df, aI cz (q 4) 8 ag, aI ci (q 5) 8 mk, aI ci (q 6) 8 sc, aI ci (q 7) 12 nu, aI ci (q 8) 12 co, aI ci (q 9) 12 fi, aI ci (q 10) 12 ad, aI ci (q 11) 1800 it, aI ci (q 12) 8 sp, aI ci (q 13) 160 stk]) ok hK hP hD hS hA hO [0, 1, 2, 3, 4, 5, 6, 7, 8, 9, 10, 11, 12, 13] rfl (by decide) 0 rfl rfl) rfl rfl hl.1 rfl (lv_room (Nat.le_of_ble_eq_true rfl)) dX9_inPage_34 ⟨(Nat.le_of_ble_eq_true rfl), (Nat.le_of_ble_eq_true rfl)⟩) (wr := []) hP hD hS hA [0, 1, 2, 3, 4, 5, 6, 7, 8, 9, 10, 11, 12, 13] [] rfl rfl (by decide) (by decide) (fun r_28 u H locs hw_28 hP hD hS => ?_)
      obtain ⟨bo_28, ic2_28, co2_28, it2_28, sp2_28⟩ := u
      try dsimp only at hw_28
      obtain ⟨rfl, h_28, g_28, P_28⟩ := hw_28
      have hP : va_P G vwCl [oM q ref n num den mag fac who fnd pc ic2_28 a sta lb la fo dee kc, aI ci (q 1) 600 fl, aI ci (q 2) 1024 wd, aI cz (q 3) 8 df, aI cz (q 4) 8 ag, aI ci (q 5) 8 mk, aI ci (q 6) 8 sc, aI ci (q 7) 12 nu, aI ci (q 8) 12 co2_28, aI ci (q 9) 12 fi, aI ci (q 10) 12 ad, aI ci (q 11) 1800 it2_28, aI ci (q 12) 8 sp2_28, aI ci (q 13) 160 stk] H := hP
      have hD : va_D A [oM q ref n num den mag fac who fnd pc ic2_28 a sta lb la fo dee kc, aI ci (q 1) 600 fl, aI ci (q 2) 1024 wd, aI cz (q 3) 8 df, aI cz (q 4) 8 ag, aI ci (q 5) 8 mk, aI ci (q 6) 8 sc, aI ci (q 7) 12 nu, aI ci (q 8) 12 co2_28, aI ci (q 9) 12 fi, aI ci (q 10) 12 ad, aI ci (q 11) 1800 it2_28, aI ci (q 12) 8 sp2_28, aI ci (q 13) 160 stk] := hD
      exact rI (v := nI bo_28) hx hb hr hlocks (nbn (by omega)) hK hP hD hS [0, 1, 2, 3, 4, 5, 6, 7, 8, 9, 10, 11, 12, 13] (bo_28, num, den, mag, fac, pc, ic2_28, sta, lb, la, fo, dee, kc, df, ag, mk, sc, nu, co2_28, fi, ad, it2_28, sp2_28, stk) rfl (by decide) ⟨rfl, by (try dsimp only); omega, by (try dsimp only); omega, by (try dsimp only); omega, by (try dsimp only); omega, by assumption, by assumption, by (try dsimp only); omega, by (try dsimp only); omega⟩ dX9_inPage_37
  · skip
    have z_1 := mt (nI_leI (a := 128) (b := k) (by omega) (by omega)).mpr c_1
    refine lv_aload_n hx hb dX9_inPage_7 rfl (lv_at hl 0 rfl) ?_
    refine lv_iload_n hx hb dX9_inPage_8 rfl (lv_at hl 1 rfl) ?_
    refine lv_iconst (v := nI 1) hx hb dX9_inPage_9 (by decide) ?_
    refine jI (va_runV (As := [.int (nI k), .int (nI 1)]) (rest := []) ⟨hx, hb, hml, hown, hts⟩ (c_X9_character l G ci cz cl q H.size k 1 ref n num den mag fac who fnd pc ic a sta lb la fo dee kc fl wd df ag mk sc nu co fi ad it sp stk (by omega) hB (by omega) (by omega) (by omega) ⟨by omega, by omega, by omega, by assumption, by assumption, by omega, by omega⟩) (cwV 2 hts gX9_inPage_X9_character rfl rfl rfl (by decide +kernel) ⟨(Nat.le_of_ble_eq_true rfl), (Nat.le_of_ble_eq_true rfl)⟩) (pV (wc := [oM q ref n num den mag fac who fnd pc ic a sta lb la fo dee kc, aI ci (q 1) 600 fl, aI ci (q 2) 1024 wd, aI cz (q 3) 8 df, aI cz (q 4) 8 ag, aI ci (q 5) 8 mk, aI ci (q 6) 8 sc, aI ci (q 7) 12 nu, aI ci (q 8) 12 co, aI ci (q 9) 12 fi, aI ci (q 10) 12 ad, aI ci (q 11) 1800 it, aI ci (q 12) 8 sp, aI ci (q 13) 160 stk]) ok hK hP hD hS hA hO [0, 1, 2, 3, 4, 5, 6, 7, 8, 9, 10, 11, 12, 13] rfl (by decide) 0 rfl rfl) rfl rfl hl.1 rfl (lv_room (Nat.le_of_ble_eq_true rfl)) dX9_inPage_10 ⟨(Nat.le_of_ble_eq_true rfl), (Nat.le_of_ble_eq_true rfl)⟩) (wr := []) hP hD hS hA [0, 1, 2, 3, 4, 5, 6, 7, 8, 9, 10, 11, 12, 13] [] rfl rfl (by decide) (by decide) (fun r_29 u H locs hw_29 hP hD hS => ?_)
    obtain ⟨bo_29, ic2_29, co2_29, it2_29, sp2_29⟩ := u
    try dsimp only at hw_29
    obtain ⟨rfl, h_29, g_29, P_29⟩ := hw_29
    have hP : va_P G vwCl [oM q ref n num den mag fac who fnd pc ic2_29 a sta lb la fo dee kc, aI ci (q 1) 600 fl, aI ci (q 2) 1024 wd, aI cz (q 3) 8 df, aI cz (q 4) 8 ag, aI ci (q 5) 8 mk, aI ci (q 6) 8 sc, aI ci (q 7) 12 nu, aI ci (q 8) 12 co2_29, aI ci (q 9) 12 fi, aI ci (q 10) 12 ad, aI ci (q 11) 1800 it2_29, aI ci (q 12) 8 sp2_29, aI ci (q 13) 160 stk] H := hP
    have hD : va_D A [oM q ref n num den mag fac who fnd pc ic2_29 a sta lb la fo dee kc, aI ci (q 1) 600 fl, aI ci (q 2) 1024 wd, aI cz (q 3) 8 df, aI cz (q 4) 8 ag, aI ci (q 5) 8 mk, aI ci (q 6) 8 sc, aI ci (q 7) 12 nu, aI ci (q 8) 12 co2_29, aI ci (q 9) 12 fi, aI ci (q 10) 12 ad, aI ci (q 11) 1800 it2_29, aI ci (q 12) 8 sp2_29, aI ci (q 13) 160 stk] := hD
    exact rI (v := nI bo_29) hx hb hr hlocks (nbn (by omega)) hK hP hD hS [0, 1, 2, 3, 4, 5, 6, 7, 8, 9, 10, 11, 12, 13] (bo_29, num, den, mag, fac, pc, ic2_29, sta, lb, la, fo, dee, kc, df, ag, mk, sc, nu, co2_29, fi, ad, it2_29, sp2_29, stk) rfl (by decide) ⟨rfl, by (try dsimp only); omega, by (try dsimp only); omega, by (try dsimp only); omega, by (try dsimp only); omega, by assumption, by assumption, by (try dsimp only); omega, by (try dsimp only); omega⟩ dX9_inPage_13
set_option maxHeartbeats 4000000 in
set_option maxRecDepth 100000 in
theorem c_X9_command (l : Launch) (G : va_G) (ci cz cl : ClassId) (q : Nat → Nat) (sz : Nat) (ref : Int32) (n : Nat) (num : Int32) (den : Int32) (mag : Int32) (fac : UInt64) (who : Int32) (fnd : Int32) (pc : Nat) (ic : Nat) (a : Nat) (sta : Nat) (lb : Int32) (la : Int32) (fo : Int32) (dee : Int32) (kc : Nat) (fl : Nat → Int32) (wd : Nat → Int32) (df : Nat → Int32) (ag : Nat → Int32) (mk : Nat → Int32) (sc : Nat → Int32) (nu : Nat → Int32) (co : Nat → Int32) (fi : Nat → Int32) (ad : Nat → Int32) (it : Nat → Int32) (sp : Nat → Int32) (stk : Nat → Int32) (hn : n ≤ 600) (hB : FB fl) (ha : a < n) (hM : MJ kc pc ic fi co fac fo sta) : CtI l yX9_command wsX9_command ({ frames := 6, cells := 0, slots := 0, locals := 134 }) G (TY ci cz cl) O0 [.ref (q 0)] [oM q ref n num den mag fac who fnd pc ic a sta lb la fo dee kc, aI ci (q 1) 600 fl, aI ci (q 2) 1024 wd, aI cz (q 3) 8 df, aI cz (q 4) 8 ag, aI ci (q 5) 8 mk, aI ci (q 6) 8 sc, aI ci (q 7) 12 nu, aI ci (q 8) 12 co, aI ci (q 9) 12 fi, aI ci (q 10) 12 ad, aI ci (q 11) 1800 it, aI ci (q 12) 8 sp, aI ci (q 13) 160 stk] sz (fun (r : Int32) (u : Nat × Int32 × Int32 × Int32 × UInt64 × Nat × Nat × Nat × Int32 × Int32 × Int32 × Int32 × Nat × (Nat → Int32) × (Nat → Int32) × (Nat → Int32) × (Nat → Int32) × (Nat → Int32) × (Nat → Int32) × (Nat → Int32) × (Nat → Int32) × (Nat → Int32) × (Nat → Int32) × (Nat → Int32)) => r = nI u.1 ∧ u.1 ≤ 1 ∧ MJ u.2.2.2.2.2.2.2.2.2.2.2.2.1 u.2.2.2.2.2.1 u.2.2.2.2.2.2.1 u.2.2.2.2.2.2.2.2.2.2.2.2.2.2.2.2.2.2.2.1 u.2.2.2.2.2.2.2.2.2.2.2.2.2.2.2.2.2.2.1 u.2.2.2.2.1 u.2.2.2.2.2.2.2.2.2.2.1 u.2.2.2.2.2.2.2.1 ∧ (u.1 = 1 → ∃ cb : Nat, fl a = nI cb ∧ cb ≤ 169 ∧ a + tbk cb < n)) (fun u : Nat × Int32 × Int32 × Int32 × UInt64 × Nat × Nat × Nat × Int32 × Int32 × Int32 × Int32 × Nat × (Nat → Int32) × (Nat → Int32) × (Nat → Int32) × (Nat → Int32) × (Nat → Int32) × (Nat → Int32) × (Nat → Int32) × (Nat → Int32) × (Nat → Int32) × (Nat → Int32) × (Nat → Int32) => [oM q ref n u.2.1 u.2.2.1 u.2.2.2.1 u.2.2.2.2.1 who fnd u.2.2.2.2.2.1 u.2.2.2.2.2.2.1 a u.2.2.2.2.2.2.2.1 u.2.2.2.2.2.2.2.2.1 u.2.2.2.2.2.2.2.2.2.1 u.2.2.2.2.2.2.2.2.2.2.1 u.2.2.2.2.2.2.2.2.2.2.2.1 u.2.2.2.2.2.2.2.2.2.2.2.2.1, aI ci (q 1) 600 fl, aI ci (q 2) 1024 wd, aI cz (q 3) 8 u.2.2.2.2.2.2.2.2.2.2.2.2.2.1, aI cz (q 4) 8 u.2.2.2.2.2.2.2.2.2.2.2.2.2.2.1, aI ci (q 5) 8 u.2.2.2.2.2.2.2.2.2.2.2.2.2.2.2.1, aI ci (q 6) 8 u.2.2.2.2.2.2.2.2.2.2.2.2.2.2.2.2.1, aI ci (q 7) 12 u.2.2.2.2.2.2.2.2.2.2.2.2.2.2.2.2.2.1, aI ci (q 8) 12 u.2.2.2.2.2.2.2.2.2.2.2.2.2.2.2.2.2.2.1, aI ci (q 9) 12 u.2.2.2.2.2.2.2.2.2.2.2.2.2.2.2.2.2.2.2.1, aI ci (q 10) 12 u.2.2.2.2.2.2.2.2.2.2.2.2.2.2.2.2.2.2.2.2.1, aI ci (q 11) 1800 u.2.2.2.2.2.2.2.2.2.2.2.2.2.2.2.2.2.2.2.2.2.1, aI ci (q 12) 8 u.2.2.2.2.2.2.2.2.2.2.2.2.2.2.2.2.2.2.2.2.2.2.1, aI ci (q 13) 160 u.2.2.2.2.2.2.2.2.2.2.2.2.2.2.2.2.2.2.2.2.2.2.2]) 0 0 := by
  refine Met.ofW (cc := cX9_command) (maxL := 3) (ret := (some .boolean)) (by decide) rfl ?_
  intro p e s m args below meth c s₁ B hml hv
  obtain ⟨rfl, ⟨hsz, hP, hK, hD0⟩, hO⟩ := hv
  have hx := B.exec
  have hb := B.bytes
  have hr := B.returns
  have hts := atoms_spec (ws := wsX9_command) B.pre
  have hown : s.vm.findClass RX9 = some m.cls := findClass_of_methodNamed B.named
  have hlocks := B.notSynchronized
  subst hsz
  have hD := hD0.self (sz := s.heap.size)
  generalize hAe : va_A [oM q ref n num den mag fac who fnd pc ic a sta lb la fo dee kc, aI ci (q 1) 600 fl, aI ci (q 2) 1024 wd, aI cz (q 3) 8 df, aI cz (q 4) 8 ag, aI ci (q 5) 8 mk, aI ci (q 6) 8 sc, aI ci (q 7) 12 nu, aI ci (q 8) 12 co, aI ci (q 9) 12 fi, aI ci (q 10) 12 ad, aI ci (q 11) 1800 it, aI ci (q 12) 8 sp, aI ci (q 13) 160 stk] s.heap.size = A at hD hO ⊢
  have hA : ∀ q : Nat, s.heap.size ≤ q → A q := fun q h => by rw [← hAe]; exact Or.inr h
  have ok := ok0
  refine startH (A := A) (fun H locs hP hS => ?_) hP
  have hi_X9 := (by decide +kernel : ∀ w ∈ wsX90, w ∈ wsX9_command)
  have f_7 := hts (.fieldLink RX9 7 "PageReaderModel" "file" "[I") (by decide +kernel)
  have f_105 := hts (.fieldLink RX9 105 "PageReaderModel" "at" "I") (by decide +kernel)
  have f_61 := hts (.fieldLink RX9 61 "PageReaderModel" "length" "I") (by decide +kernel)
  have f_128 := hts (.fieldLink RX9 128 "PageReaderModel" "state" "I") (by decide +kernel)
  have hl := lv_entry ([.ref (q 0)]) (n := 3) (Nat.le_of_ble_eq_true rfl)
  rw [lg_entry_eq]
  generalize (lg_sl ([.ref (q 0)]) ++ List.replicate (3 - (lg_sl ([.ref (q 0)])).length) Slot.unset).toArray = ls at hl ⊢
  have hl : lv_has ls 3 [(0, .ref (q 0))] := hl
  obtain ⟨hkc, hpc, hic, hPI, hf, hfo, hst⟩ := hM
  refine lv_aload_n hx hb dX9_command_0 rfl (lv_at hl 0 rfl) ?_
  refine va_get (D := G) (ci := 8) (v := .ref (q 1)) (C := RX9) (T := TX9) (N := 30) hx hb hts hi_X9 hown hK hP 0 rfl rfl 1 (by decide) f_7 (fun _ h9 => h9) rfl dX9_command_1 ?_
  refine lv_aload_n hx hb dX9_command_4 rfl (lv_at hl 0 rfl) ?_
  refine va_get (D := G) (ci := 8) (v := .int (nI a)) (C := RX9) (T := TX9) (N := 30) hx hb hts hi_X9 hown hK hP 0 rfl rfl 21 (by decide) f_105 (fun _ h9 => h9) rfl dX9_command_5 ?_
  refine va_iald hx hb hK hP 1 0 rfl rfl (vp_in_nI (by omega) (by omega)) dX9_command_8 ?_
  refine tp (y := fl a) (congrArg fl (nI_clamp (by omega))) ?_
  obtain ⟨cb, hcb1, hcb2⟩ := hB a
  refine tp (y := nI cb) hcb1 ?_
  refine lv_istore_n (lv' := [(1, .int (nI cb)), (0, .ref (q 0))]) hx hb dX9_command_9 rfl hl (by decide) rfl (fun ls hl => ?_)
  refine lv_iload_n hx hb dX9_command_10 rfl (lv_at hl 0 rfl) ?_
  refine jI (va_runS (As := [.int (nI cb)]) (rest := []) ⟨hx, hb, hml, hown, hts⟩ (c_X9_behind l G ci cz cl q H.size cb (by omega)) (va_cwS 1 hts gX9_command_X9_behind rfl rfl rfl (by decide +kernel) ⟨(Nat.le_of_ble_eq_true rfl), (Nat.le_of_ble_eq_true rfl)⟩) (pS (wc := []) ok hK hP hD hS hA hO [] rfl (by decide)) rfl rfl hl.1 rfl (lv_room (Nat.le_of_ble_eq_true rfl)) dX9_command_11 ⟨(Nat.le_of_ble_eq_true rfl), (Nat.le_of_ble_eq_true rfl)⟩) (wr := [oM q ref n num den mag fac who fnd pc ic a sta lb la fo dee kc, aI ci (q 1) 600 fl, aI ci (q 2) 1024 wd, aI cz (q 3) 8 df, aI cz (q 4) 8 ag, aI ci (q 5) 8 mk, aI ci (q 6) 8 sc, aI ci (q 7) 12 nu, aI ci (q 8) 12 co, aI ci (q 9) 12 fi, aI ci (q 10) 12 ad, aI ci (q 11) 1800 it, aI ci (q 12) 8 sp, aI ci (q 13) 160 stk]) hP hD hS hA [] [0, 1, 2, 3, 4, 5, 6, 7, 8, 9, 10, 11, 12, 13] rfl rfl (by decide) (by decide) (fun r_1 u H locs hw_1 hP hD hS => ?_)
  try dsimp only at hw_1
  have hP : va_P G vwCl [oM q ref n num den mag fac who fnd pc ic a sta lb la fo dee kc, aI ci (q 1) 600 fl, aI ci (q 2) 1024 wd, aI cz (q 3) 8 df, aI cz (q 4) 8 ag, aI ci (q 5) 8 mk, aI ci (q 6) 8 sc, aI ci (q 7) 12 nu, aI ci (q 8) 12 co, aI ci (q 9) 12 fi, aI ci (q 10) 12 ad, aI ci (q 11) 1800 it, aI ci (q 12) 8 sp, aI ci (q 13) 160 stk] H := hP
  have hD : va_D A [oM q ref n num den mag fac who fnd pc ic a sta lb la fo dee kc, aI ci (q 1) 600 fl, aI ci (q 2) 1024 wd, aI cz (q 3) 8 df, aI cz (q 4) 8 ag, aI ci (q 5) 8 mk, aI ci (q 6) 8 sc, aI ci (q 7) 12 nu, aI ci (q 8) 12 co, aI ci (q 9) 12 fi, aI ci (q 10) 12 ad, aI ci (q 11) 1800 it, aI ci (q 12) 8 sp, aI ci (q 13) 160 stk] := hD
  refine lv_istore_n (lv' := [(2, .int r_1), (1, .int (nI cb)), (0, .ref (q 0))]) hx hb dX9_command_14 rfl hl (by decide) rfl (fun ls hl => ?_)
  refine lv_iload_n hx hb dX9_command_15 rfl (lv_at hl 0 rfl) ?_
  refine lv_if_lt (tgt := 32) hx hb dX9_command_16 (by decide) (fun c_2 => ?_) (fun c_2 => ?_)
  · skip
    have z_2 := (i_lt r_1 (nI 0)).mp c_2
    rw [nI_toInt (n := 0) (by omega)] at z_2
    refine lv_iconst (v := nI 0) hx hb dX9_command_32 (by decide) ?_
    exact rI (v := nI 0) hx hb hr hlocks nb0 hK hP hD hS [0, 1, 2, 3, 4, 5, 6, 7, 8, 9, 10, 11, 12, 13] (0, num, den, mag, fac, pc, ic, sta, lb, la, fo, dee, kc, df, ag, mk, sc, nu, co, fi, ad, it, sp, stk) rfl (by decide) ⟨rfl, by (try dsimp only); omega, ⟨by (try dsimp only); omega, by (try dsimp only); omega, by (try dsimp only); omega, by assumption, by assumption, by (try dsimp only); omega, by (try dsimp only); omega⟩, fun h => absurd h (by (try dsimp only); omega)⟩ dX9_command_33
  · skip
    have z_2 := mt (i_lt r_1 (nI 0)).mpr c_2
    rw [nI_toInt (n := 0) (by omega)] at z_2
    obtain ⟨hc9, hr9, hr8⟩ : cb ≤ 169 ∧ r_1 = nI (tbk cb) ∧ r_1.toInt = tbk cb := by rcases hw_1 with h | h; exact h; exfalso; omega
    have ht := tbk_in cb
    refine lv_aload_n hx hb dX9_command_19 rfl (lv_at hl 2 rfl) ?_
    refine va_get (D := G) (ci := 8) (v := .int (nI a)) (C := RX9) (T := TX9) (N := 30) hx hb hts hi_X9 hown hK hP 0 rfl rfl 21 (by decide) f_105 (fun _ h9 => h9) rfl dX9_command_20 ?_
    refine lv_iload_n hx hb dX9_command_23 rfl (lv_at hl 0 rfl) ?_
    refine tp (y := nI (tbk cb)) hr9 ?_
    refine lv_iadd hx hb dX9_command_24 ?_
    refine tp (nI_add _ _) ?_
    refine lv_aload_n hx hb dX9_command_25 rfl (lv_at hl 2 rfl) ?_
    refine va_get (D := G) (ci := 8) (v := .int (nI n)) (C := RX9) (T := TX9) (N := 30) hx hb hts hi_X9 hown hK hP 0 rfl rfl 2 (by decide) f_61 (fun _ h9 => h9) rfl dX9_command_26 ?_
    refine lv_icmp_lt (tgt := 34) hx hb dX9_command_29 (by decide) (fun c_3 => ?_) (fun c_3 => ?_)
    · skip
      have z_3 := (nI_ltI (a := (a + (tbk cb))) (b := n) (by omega) (by omega)).mp c_3
      refine lv_aload_n hx hb dX9_command_34 rfl (lv_at hl 2 rfl) ?_
      refine va_get (D := G) (ci := 8) (v := .int (nI sta)) (C := RX9) (T := TX9) (N := 30) hx hb hts hi_X9 hown hK hP 0 rfl rfl 22 (by decide) f_128 (fun _ h9 => h9) rfl dX9_command_35 ?_
      refine lv_if_ne (tgt := 61) hx hb dX9_command_38 (by decide) (fun c_4 => ?_) (fun c_4 => ?_)
      · skip
        have z_4 := mt (nI_eq (a := sta) (b := 0) (by omega) (by omega)).mpr c_4
        refine lv_iload_n hx hb dX9_command_61 rfl (lv_at hl 1 rfl) ?_
        refine lv_sipush (v := nI 131) hx hb dX9_command_62 (by decide) ?_
        refine lv_icmp_ne (tgt := 70) hx hb dX9_command_65 (by decide) (fun c_5 => ?_) (fun c_5 => ?_)
        · skip
          have z_5 := mt (nI_eq (a := cb) (b := 131) (by omega) (by omega)).mpr c_5
          refine lv_iload_n hx hb dX9_command_70 rfl (lv_at hl 1 rfl) ?_
          refine lv_sipush (v := nI 166) hx hb dX9_command_71 (by decide) ?_
          refine lv_icmp_ne (tgt := 82) hx hb dX9_command_74 (by decide) (fun c_6 => ?_) (fun c_6 => ?_)
          · skip
            have z_6 := mt (nI_eq (a := cb) (b := 166) (by omega) (by omega)).mpr c_6
            refine lv_aload_n hx hb dX9_command_82 rfl (lv_at hl 2 rfl) ?_
            refine va_get (D := G) (ci := 8) (v := .int (nI sta)) (C := RX9) (T := TX9) (N := 30) hx hb hts hi_X9 hown hK hP 0 rfl rfl 22 (by decide) f_128 (fun _ h9 => h9) rfl dX9_command_83 ?_
            refine lv_iconst (v := nI 2) hx hb dX9_command_86 (by decide) ?_
            refine lv_icmp_ne (tgt := 96) hx hb dX9_command_87 (by decide) (fun c_7 => ?_) (fun c_7 => ?_)
            · skip
              have z_7 := mt (nI_eq (a := sta) (b := 2) (by omega) (by omega)).mpr c_7
              refine lv_aload_n hx hb dX9_command_96 rfl (lv_at hl 2 rfl) ?_
              refine va_get (D := G) (ci := 8) (v := .int (nI sta)) (C := RX9) (T := TX9) (N := 30) hx hb hts hi_X9 hown hK hP 0 rfl rfl 22 (by decide) f_128 (fun _ h9 => h9) rfl dX9_command_97 ?_
              refine lv_iconst (v := nI 1) hx hb dX9_command_100 (by decide) ?_
              refine lv_icmp_ne (tgt := 138) hx hb dX9_command_101 (by decide) (fun c_8 => ?_) (fun c_8 => ?_)
              · skip
                have z_8 := mt (nI_eq (a := sta) (b := 1) (by omega) (by omega)).mpr c_8
                refine lv_iload_n hx hb dX9_command_138 rfl (lv_at hl 1 rfl) ?_
                refine lv_sipush (v := nI 169) hx hb dX9_command_139 (by decide) ?_
                refine lv_icmp_ne (tgt := 156) hx hb dX9_command_142 (by decide) (fun c_9 => ?_) (fun c_9 => ?_)
                · skip
                  have z_9 := mt (nI_eq (a := cb) (b := 169) (by omega) (by omega)).mpr c_9
                  refine lv_iconst (v := nI 0) hx hb dX9_command_156 (by decide) ?_
                  exact rI (v := nI 0) hx hb hr hlocks nb0 hK hP hD hS [0, 1, 2, 3, 4, 5, 6, 7, 8, 9, 10, 11, 12, 13] (0, num, den, mag, fac, pc, ic, sta, lb, la, fo, dee, kc, df, ag, mk, sc, nu, co, fi, ad, it, sp, stk) rfl (by decide) ⟨rfl, by (try dsimp only); omega, ⟨by (try dsimp only); omega, by (try dsimp only); omega, by (try dsimp only); omega, by assumption, by assumption, by (try dsimp only); omega, by (try dsimp only); omega⟩, fun _ => ⟨cb, hcb1, by (try dsimp only); omega, by (try dsimp only); omega⟩⟩ dX9_command_157
                · skip
                  have z_9 := (nI_eq (a := cb) (b := 169) (by omega) (by omega)).mp c_9
                  refine lv_aload_n hx hb dX9_command_145 rfl (lv_at hl 2 rfl) ?_
                  refine jI (va_runV (As := []) (rest := []) ⟨hx, hb, hml, hown, hts⟩ (c_X9_close l G ci cz cl q H.size ref n num den mag fac who fnd pc ic a sta lb la fo dee kc fl wd df ag mk sc nu co fi ad it sp stk (by omega) hB (by omega) ⟨by omega, by omega, by omega, by assumption, by assumption, by omega, by omega⟩) (cwV 0 hts gX9_command_X9_close rfl rfl rfl (by decide +kernel) ⟨(Nat.le_of_ble_eq_true rfl), (Nat.le_of_ble_eq_true rfl)⟩) (pV (wc := [oM q ref n num den mag fac who fnd pc ic a sta lb la fo dee kc, aI ci (q 1) 600 fl, aI ci (q 2) 1024 wd, aI cz (q 3) 8 df, aI cz (q 4) 8 ag, aI ci (q 5) 8 mk, aI ci (q 6) 8 sc, aI ci (q 7) 12 nu, aI ci (q 8) 12 co, aI ci (q 9) 12 fi, aI ci (q 10) 12 ad, aI ci (q 11) 1800 it, aI ci (q 12) 8 sp, aI ci (q 13) 160 stk]) ok hK hP hD hS hA hO [0, 1, 2, 3, 4, 5, 6, 7, 8, 9, 10, 11, 12, 13] rfl (by decide) 0 rfl rfl) rfl rfl hl.1 rfl (lv_room (Nat.le_of_ble_eq_true rfl)) dX9_command_146 ⟨(Nat.le_of_ble_eq_true rfl), (Nat.le_of_ble_eq_true rfl)⟩) (wr := []) hP hD hS hA [0, 1, 2, 3, 4, 5, 6, 7, 8, 9, 10, 11, 12, 13] [] rfl rfl (by decide) (by decide) (fun r_10 u H locs hw_10 hP hD hS => ?_)
                  obtain ⟨bo_10, sta2_10⟩ := u
                  try dsimp only at hw_10
                  obtain ⟨rfl, h_10, -, s_10⟩ := hw_10
                  have hP : va_P G vwCl [oM q ref n num den mag fac who fnd pc ic a sta2_10 lb la fo dee kc, aI ci (q 1) 600 fl, aI ci (q 2) 1024 wd, aI cz (q 3) 8 df, aI cz (q 4) 8 ag, aI ci (q 5) 8 mk, aI ci (q 6) 8 sc, aI ci (q 7) 12 nu, aI ci (q 8) 12 co, aI ci (q 9) 12 fi, aI ci (q 10) 12 ad, aI ci (q 11) 1800 it, aI ci (q 12) 8 sp, aI ci (q 13) 160 stk] H := hP
                  have hD : va_D A [oM q ref n num den mag fac who fnd pc ic a sta2_10 lb la fo dee kc, aI ci (q 1) 600 fl, aI ci (q 2) 1024 wd, aI cz (q 3) 8 df, aI cz (q 4) 8 ag, aI ci (q 5) 8 mk, aI ci (q 6) 8 sc, aI ci (q 7) 12 nu, aI ci (q 8) 12 co, aI ci (q 9) 12 fi, aI ci (q 10) 12 ad, aI ci (q 11) 1800 it, aI ci (q 12) 8 sp, aI ci (q 13) 160 stk] := hD
                  refine lv_if_eq (tgt := 156) hx hb dX9_command_149 (by decide) (fun c_11 => ?_) (fun c_11 => ?_)
                  · skip
                    have z_11 := (nI_eq (a := bo_10) (b := 0) (by omega) (by omega)).mp c_11
                    refine lv_iconst (v := nI 0) hx hb dX9_command_156 (by decide) ?_
                    exact rI (v := nI 0) hx hb hr hlocks nb0 hK hP hD hS [0, 1, 2, 3, 4, 5, 6, 7, 8, 9, 10, 11, 12, 13] (0, num, den, mag, fac, pc, ic, sta2_10, lb, la, fo, dee, kc, df, ag, mk, sc, nu, co, fi, ad, it, sp, stk) rfl (by decide) ⟨rfl, by (try dsimp only); omega, ⟨by (try dsimp only); omega, by (try dsimp only); omega, by (try dsimp only); omega, by assumption, by assumption, by (try dsimp only); omega, by (try dsimp only); omega⟩, fun _ => ⟨cb, hcb1, by (try dsimp only); omega, by (try dsimp only); omega⟩⟩ dX9_command_157
                  · skip
                    have z_11 := mt (nI_eq (a := bo_10) (b := 0) (by omega) (by omega)).mpr c_11
                    refine lv_iconst (v := nI 1) hx hb dX9_command_152 (by decide) ?_
                    refine lv_goto (tgt := 157) hx hb dX9_command_153 (by decide) ?_
                    exact rI (v := nI 1) hx hb hr hlocks nb1 hK hP hD hS [0, 1, 2, 3, 4, 5, 6, 7, 8, 9, 10, 11, 12, 13] (1, num, den, mag, fac, pc, ic, sta2_10, lb, la, fo, dee, kc, df, ag, mk, sc, nu, co, fi, ad, it, sp, stk) rfl (by decide) ⟨rfl, by (try dsimp only); omega, ⟨by (try dsimp only); omega, by (try dsimp only); omega, by (try dsimp only); omega, by assumption, by assumption, by (try dsimp only); omega, by (try dsimp only); omega⟩, fun _ => ⟨cb, hcb1, by (try dsimp only); omega, by (try dsimp only); omega⟩⟩ dX9_command_157
              · skip
                have z_8 := (nI_eq (a := sta) (b := 1) (by omega) (by omega)).mp c_8
                refine lv_iload_n hx hb dX9_command_104 rfl (lv_at hl 1 rfl) ?_
                refine lv_sipush (v := nI 132) hx hb dX9_command_105 (by decide) ?_
                refine lv_icmp_ne (tgt := 118) hx hb dX9_command_108 (by decide) (fun c_12 => ?_) (fun c_12 => ?_)
                · skip
                  have z_12 := mt (nI_eq (a := cb) (b := 132) (by omega) (by omega)).mpr c_12
                  refine lv_iload_n hx hb dX9_command_118 rfl (lv_at hl 1 rfl) ?_
                  refine lv_sipush (v := nI 168) hx hb dX9_command_119 (by decide) ?_
                  refine lv_icmp_ne (tgt := 136) hx hb dX9_command_122 (by decide) (fun c_13 => ?_) (fun c_13 => ?_)
                  · skip
                    have z_13 := mt (nI_eq (a := cb) (b := 168) (by omega) (by omega)).mpr c_13
                    refine lv_iconst (v := nI 0) hx hb dX9_command_136 (by decide) ?_
                    exact rI (v := nI 0) hx hb hr hlocks nb0 hK hP hD hS [0, 1, 2, 3, 4, 5, 6, 7, 8, 9, 10, 11, 12, 13] (0, num, den, mag, fac, pc, ic, sta, lb, la, fo, dee, kc, df, ag, mk, sc, nu, co, fi, ad, it, sp, stk) rfl (by decide) ⟨rfl, by (try dsimp only); omega, ⟨by (try dsimp only); omega, by (try dsimp only); omega, by (try dsimp only); omega, by assumption, by assumption, by (try dsimp only); omega, by (try dsimp only); omega⟩, fun _ => ⟨cb, hcb1, by (try dsimp only); omega, by (try dsimp only); omega⟩⟩ dX9_command_137
                  · skip
                    have z_13 := (nI_eq (a := cb) (b := 168) (by omega) (by omega)).mp c_13
                    refine lv_aload_n hx hb dX9_command_125 rfl (lv_at hl 2 rfl) ?_
                    refine jI (va_runV (As := []) (rest := []) ⟨hx, hb, hml, hown, hts⟩ (c_X9_last l G ci cz cl q H.size ref n num den mag fac who fnd pc ic a sta lb la fo dee kc fl wd df ag mk sc nu co fi ad it sp stk (by omega) hB (by omega) ⟨by omega, by omega, by omega, by assumption, by assumption, by omega, by omega⟩) (cwV 0 hts gX9_command_X9_last rfl rfl rfl (by decide +kernel) ⟨(Nat.le_of_ble_eq_true rfl), (Nat.le_of_ble_eq_true rfl)⟩) (pV (wc := [oM q ref n num den mag fac who fnd pc ic a sta lb la fo dee kc, aI ci (q 1) 600 fl, aI ci (q 2) 1024 wd, aI cz (q 3) 8 df, aI cz (q 4) 8 ag, aI ci (q 5) 8 mk, aI ci (q 6) 8 sc, aI ci (q 7) 12 nu, aI ci (q 8) 12 co, aI ci (q 9) 12 fi, aI ci (q 10) 12 ad, aI ci (q 11) 1800 it, aI ci (q 12) 8 sp, aI ci (q 13) 160 stk]) ok hK hP hD hS hA hO [0, 1, 2, 3, 4, 5, 6, 7, 8, 9, 10, 11, 12, 13] rfl (by decide) 0 rfl rfl) rfl rfl hl.1 rfl (lv_room (Nat.le_of_ble_eq_true rfl)) dX9_command_126 ⟨(Nat.le_of_ble_eq_true rfl), (Nat.le_of_ble_eq_true rfl)⟩) (wr := []) hP hD hS hA [0, 1, 2, 3, 4, 5, 6, 7, 8, 9, 10, 11, 12, 13] [] rfl rfl (by decide) (by decide) (fun r_14 u H locs hw_14 hP hD hS => ?_)
                    obtain ⟨bo_14, sta2_14, la2_14⟩ := u
                    try dsimp only at hw_14
                    obtain ⟨rfl, h_14, -, s_14⟩ := hw_14
                    have hP : va_P G vwCl [oM q ref n num den mag fac who fnd pc ic a sta2_14 lb la2_14 fo dee kc, aI ci (q 1) 600 fl, aI ci (q 2) 1024 wd, aI cz (q 3) 8 df, aI cz (q 4) 8 ag, aI ci (q 5) 8 mk, aI ci (q 6) 8 sc, aI ci (q 7) 12 nu, aI ci (q 8) 12 co, aI ci (q 9) 12 fi, aI ci (q 10) 12 ad, aI ci (q 11) 1800 it, aI ci (q 12) 8 sp, aI ci (q 13) 160 stk] H := hP
                    have hD : va_D A [oM q ref n num den mag fac who fnd pc ic a sta2_14 lb la2_14 fo dee kc, aI ci (q 1) 600 fl, aI ci (q 2) 1024 wd, aI cz (q 3) 8 df, aI cz (q 4) 8 ag, aI ci (q 5) 8 mk, aI ci (q 6) 8 sc, aI ci (q 7) 12 nu, aI ci (q 8) 12 co, aI ci (q 9) 12 fi, aI ci (q 10) 12 ad, aI ci (q 11) 1800 it, aI ci (q 12) 8 sp, aI ci (q 13) 160 stk] := hD
                    refine lv_if_eq (tgt := 136) hx hb dX9_command_129 (by decide) (fun c_15 => ?_) (fun c_15 => ?_)
                    · skip
                      have z_15 := (nI_eq (a := bo_14) (b := 0) (by omega) (by omega)).mp c_15
                      refine lv_iconst (v := nI 0) hx hb dX9_command_136 (by decide) ?_
                      exact rI (v := nI 0) hx hb hr hlocks nb0 hK hP hD hS [0, 1, 2, 3, 4, 5, 6, 7, 8, 9, 10, 11, 12, 13] (0, num, den, mag, fac, pc, ic, sta2_14, lb, la2_14, fo, dee, kc, df, ag, mk, sc, nu, co, fi, ad, it, sp, stk) rfl (by decide) ⟨rfl, by (try dsimp only); omega, ⟨by (try dsimp only); omega, by (try dsimp only); omega, by (try dsimp only); omega, by assumption, by assumption, by (try dsimp only); omega, by (try dsimp only); omega⟩, fun _ => ⟨cb, hcb1, by (try dsimp only); omega, by (try dsimp only); omega⟩⟩ dX9_command_137
                    · skip
                      have z_15 := mt (nI_eq (a := bo_14) (b := 0) (by omega) (by omega)).mpr c_15
                      refine lv_iconst (v := nI 1) hx hb dX9_command_132 (by decide) ?_
                      refine lv_goto (tgt := 137) hx hb dX9_command_133 (by decide) ?_
                      exact rI (v := nI 1) hx hb hr hlocks nb1 hK hP hD hS [0, 1, 2, 3, 4, 5, 6, 7, 8, 9, 10, 11, 12, 13] (1, num, den, mag, fac, pc, ic, sta2_14, lb, la2_14, fo, dee, kc, df, ag, mk, sc, nu, co, fi, ad, it, sp, stk) rfl (by decide) ⟨rfl, by (try dsimp only); omega, ⟨by (try dsimp only); omega, by (try dsimp only); omega, by (try dsimp only); omega, by assumption, by assumption, by (try dsimp only); omega, by (try dsimp only); omega⟩, fun _ => ⟨cb, hcb1, by (try dsimp only); omega, by (try dsimp only); omega⟩⟩ dX9_command_137
                · skip
                  have z_12 := (nI_eq (a := cb) (b := 132) (by omega) (by omega)).mp c_12
                  refine lv_aload_n hx hb dX9_command_111 rfl (lv_at hl 2 rfl) ?_
                  refine jI (va_runV (As := []) (rest := []) ⟨hx, hb, hml, hown, hts⟩ (c_X9_beginPage l G ci cz cl q H.size ref n num den mag fac who fnd pc ic a sta lb la fo dee kc fl wd df ag mk sc nu co fi ad it sp stk (by omega) hB (by omega) ⟨by omega, by omega, by omega, by assumption, by assumption, by omega, by omega⟩) (cwV 0 hts gX9_command_X9_beginPage rfl rfl rfl (by decide +kernel) ⟨(Nat.le_of_ble_eq_true rfl), (Nat.le_of_ble_eq_true rfl)⟩) (pV (wc := [oM q ref n num den mag fac who fnd pc ic a sta lb la fo dee kc, aI ci (q 1) 600 fl, aI ci (q 2) 1024 wd, aI cz (q 3) 8 df, aI cz (q 4) 8 ag, aI ci (q 5) 8 mk, aI ci (q 6) 8 sc, aI ci (q 7) 12 nu, aI ci (q 8) 12 co, aI ci (q 9) 12 fi, aI ci (q 10) 12 ad, aI ci (q 11) 1800 it, aI ci (q 12) 8 sp, aI ci (q 13) 160 stk]) ok hK hP hD hS hA hO [0, 1, 2, 3, 4, 5, 6, 7, 8, 9, 10, 11, 12, 13] rfl (by decide) 0 rfl rfl) rfl rfl hl.1 rfl (lv_room (Nat.le_of_ble_eq_true rfl)) dX9_command_112 ⟨(Nat.le_of_ble_eq_true rfl), (Nat.le_of_ble_eq_true rfl)⟩) (wr := []) hP hD hS hA [0, 1, 2, 3, 4, 5, 6, 7, 8, 9, 10, 11, 12, 13] [] rfl rfl (by decide) (by decide) (fun r_16 u H locs hw_16 hP hD hS => ?_)
                  obtain ⟨bo_16, pc2_16, sta2_16, lb2_16, fo2_16, kc2_16, nu2_16, co2_16, fi2_16, ad2_16, sp2_16⟩ := u
                  try dsimp only at hw_16
                  obtain ⟨rfl, h_16, k_16, p_16, P_16, o_16, s_16⟩ := hw_16
                  have hP : va_P G vwCl [oM q ref n num den mag fac who fnd pc2_16 ic a sta2_16 lb2_16 la fo2_16 dee kc2_16, aI ci (q 1) 600 fl, aI ci (q 2) 1024 wd, aI cz (q 3) 8 df, aI cz (q 4) 8 ag, aI ci (q 5) 8 mk, aI ci (q 6) 8 sc, aI ci (q 7) 12 nu2_16, aI ci (q 8) 12 co2_16, aI ci (q 9) 12 fi2_16, aI ci (q 10) 12 ad2_16, aI ci (q 11) 1800 it, aI ci (q 12) 8 sp2_16, aI ci (q 13) 160 stk] H := hP
                  have hD : va_D A [oM q ref n num den mag fac who fnd pc2_16 ic a sta2_16 lb2_16 la fo2_16 dee kc2_16, aI ci (q 1) 600 fl, aI ci (q 2) 1024 wd, aI cz (q 3) 8 df, aI cz (q 4) 8 ag, aI ci (q 5) 8 mk, aI ci (q 6) 8 sc, aI ci (q 7) 12 nu2_16, aI ci (q 8) 12 co2_16, aI ci (q 9) 12 fi2_16, aI ci (q 10) 12 ad2_16, aI ci (q 11) 1800 it, aI ci (q 12) 8 sp2_16, aI ci (q 13) 160 stk] := hD
                  refine lv_goto (tgt := 137) hx hb dX9_command_115 (by decide) ?_
                  exact rI (v := nI bo_16) hx hb hr hlocks (nbn (by omega)) hK hP hD hS [0, 1, 2, 3, 4, 5, 6, 7, 8, 9, 10, 11, 12, 13] (bo_16, num, den, mag, fac, pc2_16, ic, sta2_16, lb2_16, la, fo2_16, dee, kc2_16, df, ag, mk, sc, nu2_16, co2_16, fi2_16, ad2_16, it, sp2_16, stk) rfl (by decide) ⟨rfl, by (try dsimp only); omega, ⟨by (try dsimp only); omega, by (try dsimp only); omega, by (try dsimp only); omega, by assumption, by assumption, by (try dsimp only); omega, by (try dsimp only); omega⟩, fun _ => ⟨cb, hcb1, by (try dsimp only); omega, by (try dsimp only); omega⟩⟩ dX9_command_137
            · skip
              have z_7 := (nI_eq (a := sta) (b := 2) (by omega) (by omega)).mp c_7
              refine lv_aload_n hx hb dX9_command_90 rfl (lv_at hl 2 rfl) ?_
              refine lv_iload_n hx hb dX9_command_91 rfl (lv_at hl 1 rfl) ?_
              refine jI (va_runV (As := [.int (nI cb)]) (rest := []) ⟨hx, hb, hml, hown, hts⟩ (c_X9_inPage l G ci cz cl q H.size cb ref n num den mag fac who fnd pc ic a sta lb la fo dee kc fl wd df ag mk sc nu co fi ad it sp stk (by omega) hB (by omega) (by omega) ⟨by omega, by omega, by omega, by assumption, by assumption, by omega, by omega⟩) (cwV 1 hts gX9_command_X9_inPage rfl rfl rfl (by decide +kernel) ⟨(Nat.le_of_ble_eq_true rfl), (Nat.le_of_ble_eq_true rfl)⟩) (pV (wc := [oM q ref n num den mag fac who fnd pc ic a sta lb la fo dee kc, aI ci (q 1) 600 fl, aI ci (q 2) 1024 wd, aI cz (q 3) 8 df, aI cz (q 4) 8 ag, aI ci (q 5) 8 mk, aI ci (q 6) 8 sc, aI ci (q 7) 12 nu, aI ci (q 8) 12 co, aI ci (q 9) 12 fi, aI ci (q 10) 12 ad, aI ci (q 11) 1800 it, aI ci (q 12) 8 sp, aI ci (q 13) 160 stk]) ok hK hP hD hS hA hO [0, 1, 2, 3, 4, 5, 6, 7, 8, 9, 10, 11, 12, 13] rfl (by decide) 0 rfl rfl) rfl rfl hl.1 rfl (lv_room (Nat.le_of_ble_eq_true rfl)) dX9_command_92 ⟨(Nat.le_of_ble_eq_true rfl), (Nat.le_of_ble_eq_true rfl)⟩) (wr := []) hP hD hS hA [0, 1, 2, 3, 4, 5, 6, 7, 8, 9, 10, 11, 12, 13] [] rfl rfl (by decide) (by decide) (fun r_17 u H locs hw_17 hP hD hS => ?_)
              obtain ⟨bo_17, num2_17, den2_17, mag2_17, fac2_17, pc2_17, ic2_17, sta2_17, lb2_17, la2_17, fo2_17, dee2_17, kc2_17, df2_17, ag2_17, mk2_17, sc2_17, nu2_17, co2_17, fi2_17, ad2_17, it2_17, sp2_17, stk2_17⟩ := u
              try dsimp only at hw_17
              obtain ⟨rfl, h_17, k_17, p_17, i_17, P_17, F_17, o_17, s_17⟩ := hw_17
              have hP : va_P G vwCl [oM q ref n num2_17 den2_17 mag2_17 fac2_17 who fnd pc2_17 ic2_17 a sta2_17 lb2_17 la2_17 fo2_17 dee2_17 kc2_17, aI ci (q 1) 600 fl, aI ci (q 2) 1024 wd, aI cz (q 3) 8 df2_17, aI cz (q 4) 8 ag2_17, aI ci (q 5) 8 mk2_17, aI ci (q 6) 8 sc2_17, aI ci (q 7) 12 nu2_17, aI ci (q 8) 12 co2_17, aI ci (q 9) 12 fi2_17, aI ci (q 10) 12 ad2_17, aI ci (q 11) 1800 it2_17, aI ci (q 12) 8 sp2_17, aI ci (q 13) 160 stk2_17] H := hP
              have hD : va_D A [oM q ref n num2_17 den2_17 mag2_17 fac2_17 who fnd pc2_17 ic2_17 a sta2_17 lb2_17 la2_17 fo2_17 dee2_17 kc2_17, aI ci (q 1) 600 fl, aI ci (q 2) 1024 wd, aI cz (q 3) 8 df2_17, aI cz (q 4) 8 ag2_17, aI ci (q 5) 8 mk2_17, aI ci (q 6) 8 sc2_17, aI ci (q 7) 12 nu2_17, aI ci (q 8) 12 co2_17, aI ci (q 9) 12 fi2_17, aI ci (q 10) 12 ad2_17, aI ci (q 11) 1800 it2_17, aI ci (q 12) 8 sp2_17, aI ci (q 13) 160 stk2_17] := hD
              exact rI (v := nI bo_17) hx hb hr hlocks (nbn (by omega)) hK hP hD hS [0, 1, 2, 3, 4, 5, 6, 7, 8, 9, 10, 11, 12, 13] (bo_17, num2_17, den2_17, mag2_17, fac2_17, pc2_17, ic2_17, sta2_17, lb2_17, la2_17, fo2_17, dee2_17, kc2_17, df2_17, ag2_17, mk2_17, sc2_17, nu2_17, co2_17, fi2_17, ad2_17, it2_17, sp2_17, stk2_17) rfl (by decide) ⟨rfl, by (try dsimp only); omega, ⟨by (try dsimp only); omega, by (try dsimp only); omega, by (try dsimp only); omega, by assumption, by assumption, by (try dsimp only); omega, by (try dsimp only); omega⟩, fun _ => ⟨cb, hcb1, by (try dsimp only); omega, by (try dsimp only); omega⟩⟩ dX9_command_95
          · skip
            have z_6 := (nI_eq (a := cb) (b := 166) (by omega) (by omega)).mp c_6
            refine lv_aload_n hx hb dX9_command_77 rfl (lv_at hl 2 rfl) ?_
            refine jI (va_runV (As := []) (rest := []) ⟨hx, hb, hml, hown, hts⟩ (c_X9_define l G ci cz cl q H.size ref n num den mag fac who fnd pc ic a sta lb la fo dee kc fl wd df ag mk sc nu co fi ad it sp stk (by omega) hB (by omega) ⟨by omega, by omega, by omega, by assumption, by assumption, by omega, by omega⟩) (cwV 0 hts gX9_command_X9_define rfl rfl rfl (by decide +kernel) ⟨(Nat.le_of_ble_eq_true rfl), (Nat.le_of_ble_eq_true rfl)⟩) (pV (wc := [oM q ref n num den mag fac who fnd pc ic a sta lb la fo dee kc, aI ci (q 1) 600 fl, aI ci (q 2) 1024 wd, aI cz (q 3) 8 df, aI cz (q 4) 8 ag, aI ci (q 5) 8 mk, aI ci (q 6) 8 sc, aI ci (q 7) 12 nu, aI ci (q 8) 12 co, aI ci (q 9) 12 fi, aI ci (q 10) 12 ad, aI ci (q 11) 1800 it, aI ci (q 12) 8 sp, aI ci (q 13) 160 stk]) ok hK hP hD hS hA hO [0, 1, 2, 3, 4, 5, 6, 7, 8, 9, 10, 11, 12, 13] rfl (by decide) 0 rfl rfl) rfl rfl hl.1 rfl (lv_room (Nat.le_of_ble_eq_true rfl)) dX9_command_78 ⟨(Nat.le_of_ble_eq_true rfl), (Nat.le_of_ble_eq_true rfl)⟩) (wr := []) hP hD hS hA [0, 1, 2, 3, 4, 5, 6, 7, 8, 9, 10, 11, 12, 13] [] rfl rfl (by decide) (by decide) (fun r_18 u H locs hw_18 hP hD hS => ?_)
            obtain ⟨bo_18, df2_18, ag2_18, mk2_18, sc2_18⟩ := u
            try dsimp only at hw_18
            obtain ⟨rfl, h_18, g_18⟩ := hw_18
            have hP : va_P G vwCl [oM q ref n num den mag fac who fnd pc ic a sta lb la fo dee kc, aI ci (q 1) 600 fl, aI ci (q 2) 1024 wd, aI cz (q 3) 8 df2_18, aI cz (q 4) 8 ag2_18, aI ci (q 5) 8 mk2_18, aI ci (q 6) 8 sc2_18, aI ci (q 7) 12 nu, aI ci (q 8) 12 co, aI ci (q 9) 12 fi, aI ci (q 10) 12 ad, aI ci (q 11) 1800 it, aI ci (q 12) 8 sp, aI ci (q 13) 160 stk] H := hP
            have hD : va_D A [oM q ref n num den mag fac who fnd pc ic a sta lb la fo dee kc, aI ci (q 1) 600 fl, aI ci (q 2) 1024 wd, aI cz (q 3) 8 df2_18, aI cz (q 4) 8 ag2_18, aI ci (q 5) 8 mk2_18, aI ci (q 6) 8 sc2_18, aI ci (q 7) 12 nu, aI ci (q 8) 12 co, aI ci (q 9) 12 fi, aI ci (q 10) 12 ad, aI ci (q 11) 1800 it, aI ci (q 12) 8 sp, aI ci (q 13) 160 stk] := hD
            exact rI (v := nI bo_18) hx hb hr hlocks (nbn (by omega)) hK hP hD hS [0, 1, 2, 3, 4, 5, 6, 7, 8, 9, 10, 11, 12, 13] (bo_18, num, den, mag, fac, pc, ic, sta, lb, la, fo, dee, kc, df2_18, ag2_18, mk2_18, sc2_18, nu, co, fi, ad, it, sp, stk) rfl (by decide) ⟨rfl, by (try dsimp only); omega, ⟨by (try dsimp only); omega, by (try dsimp only); omega, by (try dsimp only); omega, by assumption, by assumption, by (try dsimp only); omega, by (try dsimp only); omega⟩, fun _ => ⟨cb, hcb1, by (try dsimp only); omega, by (try dsimp only); omega⟩⟩ dX9_command_81
        · skip
          have z_5 := (nI_eq (a := cb) (b := 131) (by omega) (by omega)).mp c_5
          refine lv_iconst (v := nI 1) hx hb dX9_command_68 (by decide) ?_
          exact rI (v := nI 1) hx hb hr hlocks nb1 hK hP hD hS [0, 1, 2, 3, 4, 5, 6, 7, 8, 9, 10, 11, 12, 13] (1, num, den, mag, fac, pc, ic, sta, lb, la, fo, dee, kc, df, ag, mk, sc, nu, co, fi, ad, it, sp, stk) rfl (by decide) ⟨rfl, by (try dsimp only); omega, ⟨by (try dsimp only); omega, by (try dsimp only); omega, by (try dsimp only); omega, by assumption, by assumption, by (try dsimp only); omega, by (try dsimp only); omega⟩, fun _ => ⟨cb, hcb1, by (try dsimp only); omega, by (try dsimp only); omega⟩⟩ dX9_command_69
      · skip
        have z_4 := (nI_eq (a := sta) (b := 0) (by omega) (by omega)).mp c_4
        refine lv_iload_n hx hb dX9_command_41 rfl (lv_at hl 1 rfl) ?_
        refine lv_sipush (v := nI 167) hx hb dX9_command_42 (by decide) ?_
        refine lv_icmp_ne (tgt := 59) hx hb dX9_command_45 (by decide) (fun c_19 => ?_) (fun c_19 => ?_)
        · skip
          have z_19 := mt (nI_eq (a := cb) (b := 167) (by omega) (by omega)).mpr c_19
          refine lv_iconst (v := nI 0) hx hb dX9_command_59 (by decide) ?_
          exact rI (v := nI 0) hx hb hr hlocks nb0 hK hP hD hS [0, 1, 2, 3, 4, 5, 6, 7, 8, 9, 10, 11, 12, 13] (0, num, den, mag, fac, pc, ic, sta, lb, la, fo, dee, kc, df, ag, mk, sc, nu, co, fi, ad, it, sp, stk) rfl (by decide) ⟨rfl, by (try dsimp only); omega, ⟨by (try dsimp only); omega, by (try dsimp only); omega, by (try dsimp only); omega, by assumption, by assumption, by (try dsimp only); omega, by (try dsimp only); omega⟩, fun _ => ⟨cb, hcb1, by (try dsimp only); omega, by (try dsimp only); omega⟩⟩ dX9_command_60
        · skip
          have z_19 := (nI_eq (a := cb) (b := 167) (by omega) (by omega)).mp c_19
          refine lv_aload_n hx hb dX9_command_48 rfl (lv_at hl 2 rfl) ?_
          refine jI (va_runV (As := []) (rest := []) ⟨hx, hb, hml, hown, hts⟩ (c_X9_start l G ci cz cl q H.size ref n num den mag fac who fnd pc ic a sta lb la fo dee kc fl wd df ag mk sc nu co fi ad it sp stk (by omega) hB (by omega) ⟨by omega, by omega, by omega, by assumption, by assumption, by omega, by omega⟩) (cwV 0 hts gX9_command_X9_start rfl rfl rfl (by decide +kernel) ⟨(Nat.le_of_ble_eq_true rfl), (Nat.le_of_ble_eq_true rfl)⟩) (pV (wc := [oM q ref n num den mag fac who fnd pc ic a sta lb la fo dee kc, aI ci (q 1) 600 fl, aI ci (q 2) 1024 wd, aI cz (q 3) 8 df, aI cz (q 4) 8 ag, aI ci (q 5) 8 mk, aI ci (q 6) 8 sc, aI ci (q 7) 12 nu, aI ci (q 8) 12 co, aI ci (q 9) 12 fi, aI ci (q 10) 12 ad, aI ci (q 11) 1800 it, aI ci (q 12) 8 sp, aI ci (q 13) 160 stk]) ok hK hP hD hS hA hO [0, 1, 2, 3, 4, 5, 6, 7, 8, 9, 10, 11, 12, 13] rfl (by decide) 0 rfl rfl) rfl rfl hl.1 rfl (lv_room (Nat.le_of_ble_eq_true rfl)) dX9_command_49 ⟨(Nat.le_of_ble_eq_true rfl), (Nat.le_of_ble_eq_true rfl)⟩) (wr := []) hP hD hS hA [0, 1, 2, 3, 4, 5, 6, 7, 8, 9, 10, 11, 12, 13] [] rfl rfl (by decide) (by decide) (fun r_20 u H locs hw_20 hP hD hS => ?_)
          obtain ⟨bo_20, num2_20, den2_20, mag2_20, fac2_20, sta2_20⟩ := u
          try dsimp only at hw_20
          obtain ⟨rfl, h_20, F_20, s_20⟩ := hw_20
          have hP : va_P G vwCl [oM q ref n num2_20 den2_20 mag2_20 fac2_20 who fnd pc ic a sta2_20 lb la fo dee kc, aI ci (q 1) 600 fl, aI ci (q 2) 1024 wd, aI cz (q 3) 8 df, aI cz (q 4) 8 ag, aI ci (q 5) 8 mk, aI ci (q 6) 8 sc, aI ci (q 7) 12 nu, aI ci (q 8) 12 co, aI ci (q 9) 12 fi, aI ci (q 10) 12 ad, aI ci (q 11) 1800 it, aI ci (q 12) 8 sp, aI ci (q 13) 160 stk] H := hP
          have hD : va_D A [oM q ref n num2_20 den2_20 mag2_20 fac2_20 who fnd pc ic a sta2_20 lb la fo dee kc, aI ci (q 1) 600 fl, aI ci (q 2) 1024 wd, aI cz (q 3) 8 df, aI cz (q 4) 8 ag, aI ci (q 5) 8 mk, aI ci (q 6) 8 sc, aI ci (q 7) 12 nu, aI ci (q 8) 12 co, aI ci (q 9) 12 fi, aI ci (q 10) 12 ad, aI ci (q 11) 1800 it, aI ci (q 12) 8 sp, aI ci (q 13) 160 stk] := hD
          refine lv_if_eq (tgt := 59) hx hb dX9_command_52 (by decide) (fun c_21 => ?_) (fun c_21 => ?_)
          · skip
            have z_21 := (nI_eq (a := bo_20) (b := 0) (by omega) (by omega)).mp c_21
            refine lv_iconst (v := nI 0) hx hb dX9_command_59 (by decide) ?_
            exact rI (v := nI 0) hx hb hr hlocks nb0 hK hP hD hS [0, 1, 2, 3, 4, 5, 6, 7, 8, 9, 10, 11, 12, 13] (0, num2_20, den2_20, mag2_20, fac2_20, pc, ic, sta2_20, lb, la, fo, dee, kc, df, ag, mk, sc, nu, co, fi, ad, it, sp, stk) rfl (by decide) ⟨rfl, by (try dsimp only); omega, ⟨by (try dsimp only); omega, by (try dsimp only); omega, by (try dsimp only); omega, by assumption, by assumption, by (try dsimp only); omega, by (try dsimp only); omega⟩, fun _ => ⟨cb, hcb1, by (try dsimp only); omega, by (try dsimp only); omega⟩⟩ dX9_command_60
          · skip
            have z_21 := mt (nI_eq (a := bo_20) (b := 0) (by omega) (by omega)).mpr c_21
            refine lv_iconst (v := nI 1) hx hb dX9_command_55 (by decide) ?_
            refine lv_goto (tgt := 60) hx hb dX9_command_56 (by decide) ?_
            exact rI (v := nI 1) hx hb hr hlocks nb1 hK hP hD hS [0, 1, 2, 3, 4, 5, 6, 7, 8, 9, 10, 11, 12, 13] (1, num2_20, den2_20, mag2_20, fac2_20, pc, ic, sta2_20, lb, la, fo, dee, kc, df, ag, mk, sc, nu, co, fi, ad, it, sp, stk) rfl (by decide) ⟨rfl, by (try dsimp only); omega, ⟨by (try dsimp only); omega, by (try dsimp only); omega, by (try dsimp only); omega, by assumption, by assumption, by (try dsimp only); omega, by (try dsimp only); omega⟩, fun _ => ⟨cb, hcb1, by (try dsimp only); omega, by (try dsimp only); omega⟩⟩ dX9_command_60
    · skip
      have z_3 := mt (nI_ltI (a := (a + (tbk cb))) (b := n) (by omega) (by omega)).mpr c_3
      refine lv_iconst (v := nI 0) hx hb dX9_command_32 (by decide) ?_
      exact rI (v := nI 0) hx hb hr hlocks nb0 hK hP hD hS [0, 1, 2, 3, 4, 5, 6, 7, 8, 9, 10, 11, 12, 13] (0, num, den, mag, fac, pc, ic, sta, lb, la, fo, dee, kc, df, ag, mk, sc, nu, co, fi, ad, it, sp, stk) rfl (by decide) ⟨rfl, by (try dsimp only); omega, ⟨by (try dsimp only); omega, by (try dsimp only); omega, by (try dsimp only); omega, by assumption, by assumption, by (try dsimp only); omega, by (try dsimp only); omega⟩, fun h => absurd h (by (try dsimp only); omega)⟩ dX9_command_33
set_option maxHeartbeats 4000000 in
set_option maxRecDepth 100000 in
theorem c_X9_read (l : Launch) (G : va_G) (ci cz cl : ClassId) (q : Nat → Nat) (sz : Nat) (ref : Int32) (n : Nat) (num : Int32) (den : Int32) (mag : Int32) (fac : UInt64) (who : Int32) (fnd : Int32) (pc : Nat) (ic : Nat) (a : Nat) (sta : Nat) (lb : Int32) (la : Int32) (fo : Int32) (dee : Int32) (kc : Nat) (fl : Nat → Int32) (wd : Nat → Int32) (df : Nat → Int32) (ag : Nat → Int32) (mk : Nat → Int32) (sc : Nat → Int32) (nu : Nat → Int32) (co : Nat → Int32) (fi : Nat → Int32) (ad : Nat → Int32) (it : Nat → Int32) (sp : Nat → Int32) (stk : Nat → Int32) (hn : n ≤ 600) (hB : FB fl) (hM : MJ kc pc ic fi co fac fo sta) : CtI l yX9_read wsX9_read ({ frames := 7, cells := 0, slots := 0, locals := 156 }) G (TY ci cz cl) O0 [.ref (q 0)] [oM q ref n num den mag fac who fnd pc ic a sta lb la fo dee kc, aI ci (q 1) 600 fl, aI ci (q 2) 1024 wd, aI cz (q 3) 8 df, aI cz (q 4) 8 ag, aI ci (q 5) 8 mk, aI ci (q 6) 8 sc, aI ci (q 7) 12 nu, aI ci (q 8) 12 co, aI ci (q 9) 12 fi, aI ci (q 10) 12 ad, aI ci (q 11) 1800 it, aI ci (q 12) 8 sp, aI ci (q 13) 160 stk] sz (fun (r : Int32) (u : Int32 × Int32 × Int32 × Nat × (Nat → Int32) × (Nat → Int32) × (Nat → Int32) × (Nat → Int32) × Int32 × Int32 × Int32 × UInt64 × Nat × Nat × (Nat → Int32) × (Nat → Int32) × (Nat → Int32) × (Nat → Int32) × Nat × (Nat → Int32) × Int32 × Int32 × Int32 × Int32 × Nat × (Nat → Int32) × (Nat → Int32)) => MJ u.2.2.2.2.2.2.2.2.2.2.2.2.2.2.2.2.2.2.2.2.2.2.2.2.1 u.2.2.2.2.2.2.2.2.2.2.2.2.2.1 u.2.2.2.2.2.2.2.2.2.2.2.2.2.2.2.2.2.2.1 u.2.2.2.2.2.2.2.2.2.2.2.2.2.2.2.2.1 u.2.2.2.2.2.2.2.2.2.2.2.2.2.2.2.1 u.2.2.2.2.2.2.2.2.2.2.2.1 u.2.2.2.2.2.2.2.2.2.2.2.2.2.2.2.2.2.2.2.2.2.2.1 u.2.2.2.2.2.2.2.2.2.2.2.2.1 ∧ u.2.2.2.1 ≤ 600) (fun u : Int32 × Int32 × Int32 × Nat × (Nat → Int32) × (Nat → Int32) × (Nat → Int32) × (Nat → Int32) × Int32 × Int32 × Int32 × UInt64 × Nat × Nat × (Nat → Int32) × (Nat → Int32) × (Nat → Int32) × (Nat → Int32) × Nat × (Nat → Int32) × Int32 × Int32 × Int32 × Int32 × Nat × (Nat → Int32) × (Nat → Int32) => [oM q u.1 n u.2.2.2.2.2.2.2.2.1 u.2.2.2.2.2.2.2.2.2.1 u.2.2.2.2.2.2.2.2.2.2.1 u.2.2.2.2.2.2.2.2.2.2.2.1 u.2.1 u.2.2.1 u.2.2.2.2.2.2.2.2.2.2.2.2.2.1 u.2.2.2.2.2.2.2.2.2.2.2.2.2.2.2.2.2.2.1 u.2.2.2.1 u.2.2.2.2.2.2.2.2.2.2.2.2.1 u.2.2.2.2.2.2.2.2.2.2.2.2.2.2.2.2.2.2.2.2.1 u.2.2.2.2.2.2.2.2.2.2.2.2.2.2.2.2.2.2.2.2.2.1 u.2.2.2.2.2.2.2.2.2.2.2.2.2.2.2.2.2.2.2.2.2.2.1 u.2.2.2.2.2.2.2.2.2.2.2.2.2.2.2.2.2.2.2.2.2.2.2.1 u.2.2.2.2.2.2.2.2.2.2.2.2.2.2.2.2.2.2.2.2.2.2.2.2.1, aI ci (q 1) 600 fl, aI ci (q 2) 1024 wd, aI cz (q 3) 8 u.2.2.2.2.1, aI cz (q 4) 8 u.2.2.2.2.2.1, aI ci (q 5) 8 u.2.2.2.2.2.2.1, aI ci (q 6) 8 u.2.2.2.2.2.2.2.1, aI ci (q 7) 12 u.2.2.2.2.2.2.2.2.2.2.2.2.2.2.1, aI ci (q 8) 12 u.2.2.2.2.2.2.2.2.2.2.2.2.2.2.2.1, aI ci (q 9) 12 u.2.2.2.2.2.2.2.2.2.2.2.2.2.2.2.2.1, aI ci (q 10) 12 u.2.2.2.2.2.2.2.2.2.2.2.2.2.2.2.2.2.1, aI ci (q 11) 1800 u.2.2.2.2.2.2.2.2.2.2.2.2.2.2.2.2.2.2.2.1, aI ci (q 12) 8 u.2.2.2.2.2.2.2.2.2.2.2.2.2.2.2.2.2.2.2.2.2.2.2.2.2.1, aI ci (q 13) 160 u.2.2.2.2.2.2.2.2.2.2.2.2.2.2.2.2.2.2.2.2.2.2.2.2.2.2]) 0 0 := by
  refine Met.ofW (cc := cX9_read) (maxL := 2) (ret := (some .int)) (by decide) rfl ?_
  intro p e s m args below meth c s₁ B hml hv
  obtain ⟨rfl, ⟨hsz, hP, hK, hD0⟩, hO⟩ := hv
  have hx := B.exec
  have hb := B.bytes
  have hr := B.returns
  have hts := atoms_spec (ws := wsX9_read) B.pre
  have hown : s.vm.findClass RX9 = some m.cls := findClass_of_methodNamed B.named
  have hlocks := B.notSynchronized
  subst hsz
  have hD := hD0.self (sz := s.heap.size)
  generalize hAe : va_A [oM q ref n num den mag fac who fnd pc ic a sta lb la fo dee kc, aI ci (q 1) 600 fl, aI ci (q 2) 1024 wd, aI cz (q 3) 8 df, aI cz (q 4) 8 ag, aI ci (q 5) 8 mk, aI ci (q 6) 8 sc, aI ci (q 7) 12 nu, aI ci (q 8) 12 co, aI ci (q 9) 12 fi, aI ci (q 10) 12 ad, aI ci (q 11) 1800 it, aI ci (q 12) 8 sp, aI ci (q 13) 160 stk] s.heap.size = A at hD hO ⊢
  have hA : ∀ q : Nat, s.heap.size ≤ q → A q := fun q h => by rw [← hAe]; exact Or.inr h
  have ok := ok0
  refine startH (A := A) (fun H locs hP hS => ?_) hP
  have hi_X9 := (by decide +kernel : ∀ w ∈ wsX90, w ∈ wsX9_read)
  have f_54 := hts (.fieldLink RX9 54 "PageReaderModel" "refusal" "I") (by decide +kernel)
  have f_191 := hts (.fieldLink RX9 191 "PageReaderModel" "whole" "Z") (by decide +kernel)
  have f_95 := hts (.fieldLink RX9 95 "PageReaderModel" "pages" "I") (by decide +kernel)
  have f_89 := hts (.fieldLink RX9 89 "PageReaderModel" "items" "I") (by decide +kernel)
  have f_105 := hts (.fieldLink RX9 105 "PageReaderModel" "at" "I") (by decide +kernel)
  have f_128 := hts (.fieldLink RX9 128 "PageReaderModel" "state" "I") (by decide +kernel)
  have k_195 := hts (.constant RX9 195 (65535)) (by decide +kernel)
  have f_142 := hts (.fieldLink RX9 142 "PageReaderModel" "lastBegin" "I") (by decide +kernel)
  have f_114 := hts (.fieldLink RX9 114 "PageReaderModel" "deepest" "I") (by decide +kernel)
  have f_29 := hts (.fieldLink RX9 29 "PageReaderModel" "found" "I") (by decide +kernel)
  have f_61 := hts (.fieldLink RX9 61 "PageReaderModel" "length" "I") (by decide +kernel)
  have f_7 := hts (.fieldLink RX9 7 "PageReaderModel" "file" "[I") (by decide +kernel)
  have f_16 := hts (.fieldLink RX9 16 "PageReaderModel" "defined" "[Z") (by decide +kernel)
  have f_20 := hts (.fieldLink RX9 20 "PageReaderModel" "again" "[Z") (by decide +kernel)
  have hl := lv_entry ([.ref (q 0)]) (n := 2) (Nat.le_of_ble_eq_true rfl)
  rw [lg_entry_eq]
  generalize (lg_sl ([.ref (q 0)]) ++ List.replicate (2 - (lg_sl ([.ref (q 0)])).length) Slot.unset).toArray = ls at hl ⊢
  have hl : lv_has ls 2 [(0, .ref (q 0))] := hl
  obtain ⟨hkc, hpc, hic, hPI, hf, hfo, hst⟩ := hM
  refine lv_aload_n hx hb dX9_read_0 rfl (lv_at hl 0 rfl) ?_
  refine lv_iconst (v := nI 0) hx hb dX9_read_1 (by decide) ?_
  refine va_put (D := G) (ci := 8) (v := .int (nI 0)) (ty := .int) (C := RX9) (T := TX9) (N := 30) hx hb hts hi_X9 tyX9 tyX9_ok nmX9 hown hK hP hD hS 0 rfl rfl 0 (by decide) f_54 (fun _ h9 => h9) rfl (by decide +kernel) rfl rfl (Nat.le_of_ble_eq_true rfl) dX9_read_2 (fun H locs hP hD hS => ?_)
  have hP : va_P G vwCl [oM q (nI 0) n num den mag fac who fnd pc ic a sta lb la fo dee kc, aI ci (q 1) 600 fl, aI ci (q 2) 1024 wd, aI cz (q 3) 8 df, aI cz (q 4) 8 ag, aI ci (q 5) 8 mk, aI ci (q 6) 8 sc, aI ci (q 7) 12 nu, aI ci (q 8) 12 co, aI ci (q 9) 12 fi, aI ci (q 10) 12 ad, aI ci (q 11) 1800 it, aI ci (q 12) 8 sp, aI ci (q 13) 160 stk] H := hP
  have hD : va_D A [oM q (nI 0) n num den mag fac who fnd pc ic a sta lb la fo dee kc, aI ci (q 1) 600 fl, aI ci (q 2) 1024 wd, aI cz (q 3) 8 df, aI cz (q 4) 8 ag, aI ci (q 5) 8 mk, aI ci (q 6) 8 sc, aI ci (q 7) 12 nu, aI ci (q 8) 12 co, aI ci (q 9) 12 fi, aI ci (q 10) 12 ad, aI ci (q 11) 1800 it, aI ci (q 12) 8 sp, aI ci (q 13) 160 stk] := hD
  refine lv_aload_n hx hb dX9_read_5 rfl (lv_at hl 0 rfl) ?_
  refine lv_iconst (v := nI 0) hx hb dX9_read_6 (by decide) ?_
  refine va_put (D := G) (ci := 8) (v := .int (nI 0)) (ty := .boolean) (C := RX9) (T := TX9) (N := 30) hx hb hts hi_X9 tyX9 tyX9_ok nmX9 hown hK hP hD hS 0 rfl rfl 12 (by decide) f_191 (fun _ h9 => h9) rfl (by decide +kernel) (by decide) (by decide) (Nat.le_of_ble_eq_true rfl) dX9_read_7 (fun H locs hP hD hS => ?_)
  have hP : va_P G vwCl [oM q (nI 0) n num den mag fac (nI 0) fnd pc ic a sta lb la fo dee kc, aI ci (q 1) 600 fl, aI ci (q 2) 1024 wd, aI cz (q 3) 8 df, aI cz (q 4) 8 ag, aI ci (q 5) 8 mk, aI ci (q 6) 8 sc, aI ci (q 7) 12 nu, aI ci (q 8) 12 co, aI ci (q 9) 12 fi, aI ci (q 10) 12 ad, aI ci (q 11) 1800 it, aI ci (q 12) 8 sp, aI ci (q 13) 160 stk] H := hP
  have hD : va_D A [oM q (nI 0) n num den mag fac (nI 0) fnd pc ic a sta lb la fo dee kc, aI ci (q 1) 600 fl, aI ci (q 2) 1024 wd, aI cz (q 3) 8 df, aI cz (q 4) 8 ag, aI ci (q 5) 8 mk, aI ci (q 6) 8 sc, aI ci (q 7) 12 nu, aI ci (q 8) 12 co, aI ci (q 9) 12 fi, aI ci (q 10) 12 ad, aI ci (q 11) 1800 it, aI ci (q 12) 8 sp, aI ci (q 13) 160 stk] := hD
  refine lv_aload_n hx hb dX9_read_10 rfl (lv_at hl 0 rfl) ?_
  refine lv_iconst (v := nI 0) hx hb dX9_read_11 (by decide) ?_
  refine va_put (D := G) (ci := 8) (v := .int (nI 0)) (ty := .int) (C := RX9) (T := TX9) (N := 30) hx hb hts hi_X9 tyX9 tyX9_ok nmX9 hown hK hP hD hS 0 rfl rfl 14 (by decide) f_95 (fun _ h9 => h9) rfl (by decide +kernel) rfl rfl (Nat.le_of_ble_eq_true rfl) dX9_read_12 (fun H locs hP hD hS => ?_)
  have hP : va_P G vwCl [oM q (nI 0) n num den mag fac (nI 0) fnd 0 ic a sta lb la fo dee kc, aI ci (q 1) 600 fl, aI ci (q 2) 1024 wd, aI cz (q 3) 8 df, aI cz (q 4) 8 ag, aI ci (q 5) 8 mk, aI ci (q 6) 8 sc, aI ci (q 7) 12 nu, aI ci (q 8) 12 co, aI ci (q 9) 12 fi, aI ci (q 10) 12 ad, aI ci (q 11) 1800 it, aI ci (q 12) 8 sp, aI ci (q 13) 160 stk] H := hP
  have hD : va_D A [oM q (nI 0) n num den mag fac (nI 0) fnd 0 ic a sta lb la fo dee kc, aI ci (q 1) 600 fl, aI ci (q 2) 1024 wd, aI cz (q 3) 8 df, aI cz (q 4) 8 ag, aI ci (q 5) 8 mk, aI ci (q 6) 8 sc, aI ci (q 7) 12 nu, aI ci (q 8) 12 co, aI ci (q 9) 12 fi, aI ci (q 10) 12 ad, aI ci (q 11) 1800 it, aI ci (q 12) 8 sp, aI ci (q 13) 160 stk] := hD
  refine lv_aload_n hx hb dX9_read_15 rfl (lv_at hl 0 rfl) ?_
  refine lv_iconst (v := nI 0) hx hb dX9_read_16 (by decide) ?_
  refine va_put (D := G) (ci := 8) (v := .int (nI 0)) (ty := .int) (C := RX9) (T := TX9) (N := 30) hx hb hts hi_X9 tyX9 tyX9_ok nmX9 hown hK hP hD hS 0 rfl rfl 19 (by decide) f_89 (fun _ h9 => h9) rfl (by decide +kernel) rfl rfl (Nat.le_of_ble_eq_true rfl) dX9_read_17 (fun H locs hP hD hS => ?_)
  have hP : va_P G vwCl [oM q (nI 0) n num den mag fac (nI 0) fnd 0 0 a sta lb la fo dee kc, aI ci (q 1) 600 fl, aI ci (q 2) 1024 wd, aI cz (q 3) 8 df, aI cz (q 4) 8 ag, aI ci (q 5) 8 mk, aI ci (q 6) 8 sc, aI ci (q 7) 12 nu, aI ci (q 8) 12 co, aI ci (q 9) 12 fi, aI ci (q 10) 12 ad, aI ci (q 11) 1800 it, aI ci (q 12) 8 sp, aI ci (q 13) 160 stk] H := hP
  have hD : va_D A [oM q (nI 0) n num den mag fac (nI 0) fnd 0 0 a sta lb la fo dee kc, aI ci (q 1) 600 fl, aI ci (q 2) 1024 wd, aI cz (q 3) 8 df, aI cz (q 4) 8 ag, aI ci (q 5) 8 mk, aI ci (q 6) 8 sc, aI ci (q 7) 12 nu, aI ci (q 8) 12 co, aI ci (q 9) 12 fi, aI ci (q 10) 12 ad, aI ci (q 11) 1800 it, aI ci (q 12) 8 sp, aI ci (q 13) 160 stk] := hD
  refine lv_aload_n hx hb dX9_read_20 rfl (lv_at hl 0 rfl) ?_
  refine lv_iconst (v := nI 0) hx hb dX9_read_21 (by decide) ?_
  refine va_put (D := G) (ci := 8) (v := .int (nI 0)) (ty := .int) (C := RX9) (T := TX9) (N := 30) hx hb hts hi_X9 tyX9 tyX9_ok nmX9 hown hK hP hD hS 0 rfl rfl 21 (by decide) f_105 (fun _ h9 => h9) rfl (by decide +kernel) rfl rfl (Nat.le_of_ble_eq_true rfl) dX9_read_22 (fun H locs hP hD hS => ?_)
  have hP : va_P G vwCl [oM q (nI 0) n num den mag fac (nI 0) fnd 0 0 0 sta lb la fo dee kc, aI ci (q 1) 600 fl, aI ci (q 2) 1024 wd, aI cz (q 3) 8 df, aI cz (q 4) 8 ag, aI ci (q 5) 8 mk, aI ci (q 6) 8 sc, aI ci (q 7) 12 nu, aI ci (q 8) 12 co, aI ci (q 9) 12 fi, aI ci (q 10) 12 ad, aI ci (q 11) 1800 it, aI ci (q 12) 8 sp, aI ci (q 13) 160 stk] H := hP
  have hD : va_D A [oM q (nI 0) n num den mag fac (nI 0) fnd 0 0 0 sta lb la fo dee kc, aI ci (q 1) 600 fl, aI ci (q 2) 1024 wd, aI cz (q 3) 8 df, aI cz (q 4) 8 ag, aI ci (q 5) 8 mk, aI ci (q 6) 8 sc, aI ci (q 7) 12 nu, aI ci (q 8) 12 co, aI ci (q 9) 12 fi, aI ci (q 10) 12 ad, aI ci (q 11) 1800 it, aI ci (q 12) 8 sp, aI ci (q 13) 160 stk] := hD
  refine lv_aload_n hx hb dX9_read_25 rfl (lv_at hl 0 rfl) ?_
  refine lv_iconst (v := nI 0) hx hb dX9_read_26 (by decide) ?_
  refine va_put (D := G) (ci := 8) (v := .int (nI 0)) (ty := .int) (C := RX9) (T := TX9) (N := 30) hx hb hts hi_X9 tyX9 tyX9_ok nmX9 hown hK hP hD hS 0 rfl rfl 22 (by decide) f_128 (fun _ h9 => h9) rfl (by decide +kernel) rfl rfl (Nat.le_of_ble_eq_true rfl) dX9_read_27 (fun H locs hP hD hS => ?_)
  have hP : va_P G vwCl [oM q (nI 0) n num den mag fac (nI 0) fnd 0 0 0 0 lb la fo dee kc, aI ci (q 1) 600 fl, aI ci (q 2) 1024 wd, aI cz (q 3) 8 df, aI cz (q 4) 8 ag, aI ci (q 5) 8 mk, aI ci (q 6) 8 sc, aI ci (q 7) 12 nu, aI ci (q 8) 12 co, aI ci (q 9) 12 fi, aI ci (q 10) 12 ad, aI ci (q 11) 1800 it, aI ci (q 12) 8 sp, aI ci (q 13) 160 stk] H := hP
  have hD : va_D A [oM q (nI 0) n num den mag fac (nI 0) fnd 0 0 0 0 lb la fo dee kc, aI ci (q 1) 600 fl, aI ci (q 2) 1024 wd, aI cz (q 3) 8 df, aI cz (q 4) 8 ag, aI ci (q 5) 8 mk, aI ci (q 6) 8 sc, aI ci (q 7) 12 nu, aI ci (q 8) 12 co, aI ci (q 9) 12 fi, aI ci (q 10) 12 ad, aI ci (q 11) 1800 it, aI ci (q 12) 8 sp, aI ci (q 13) 160 stk] := hD
  refine lv_aload_n hx hb dX9_read_30 rfl (lv_at hl 0 rfl) ?_
  refine lv_ldc hx hb hown k_195 dX9_read_31 ?_
  refine tp (y := nI 65535) rfl ?_
  refine va_put (D := G) (ci := 8) (v := .int (nI 65535)) (ty := .int) (C := RX9) (T := TX9) (N := 30) hx hb hts hi_X9 tyX9 tyX9_ok nmX9 hown hK hP hD hS 0 rfl rfl 23 (by decide) f_142 (fun _ h9 => h9) rfl (by decide +kernel) rfl rfl (Nat.le_of_ble_eq_true rfl) dX9_read_33 (fun H locs hP hD hS => ?_)
  have hP : va_P G vwCl [oM q (nI 0) n num den mag fac (nI 0) fnd 0 0 0 0 (nI 65535) la fo dee kc, aI ci (q 1) 600 fl, aI ci (q 2) 1024 wd, aI cz (q 3) 8 df, aI cz (q 4) 8 ag, aI ci (q 5) 8 mk, aI ci (q 6) 8 sc, aI ci (q 7) 12 nu, aI ci (q 8) 12 co, aI ci (q 9) 12 fi, aI ci (q 10) 12 ad, aI ci (q 11) 1800 it, aI ci (q 12) 8 sp, aI ci (q 13) 160 stk] H := hP
  have hD : va_D A [oM q (nI 0) n num den mag fac (nI 0) fnd 0 0 0 0 (nI 65535) la fo dee kc, aI ci (q 1) 600 fl, aI ci (q 2) 1024 wd, aI cz (q 3) 8 df, aI cz (q 4) 8 ag, aI ci (q 5) 8 mk, aI ci (q 6) 8 sc, aI ci (q 7) 12 nu, aI ci (q 8) 12 co, aI ci (q 9) 12 fi, aI ci (q 10) 12 ad, aI ci (q 11) 1800 it, aI ci (q 12) 8 sp, aI ci (q 13) 160 stk] := hD
  refine lv_aload_n hx hb dX9_read_36 rfl (lv_at hl 0 rfl) ?_
  refine lv_iconst (v := nI 0) hx hb dX9_read_37 (by decide) ?_
  refine va_put (D := G) (ci := 8) (v := .int (nI 0)) (ty := .int) (C := RX9) (T := TX9) (N := 30) hx hb hts hi_X9 tyX9 tyX9_ok nmX9 hown hK hP hD hS 0 rfl rfl 26 (by decide) f_114 (fun _ h9 => h9) rfl (by decide +kernel) rfl rfl (Nat.le_of_ble_eq_true rfl) dX9_read_38 (fun H locs hP hD hS => ?_)
  have hP : va_P G vwCl [oM q (nI 0) n num den mag fac (nI 0) fnd 0 0 0 0 (nI 65535) la fo (nI 0) kc, aI ci (q 1) 600 fl, aI ci (q 2) 1024 wd, aI cz (q 3) 8 df, aI cz (q 4) 8 ag, aI ci (q 5) 8 mk, aI ci (q 6) 8 sc, aI ci (q 7) 12 nu, aI ci (q 8) 12 co, aI ci (q 9) 12 fi, aI ci (q 10) 12 ad, aI ci (q 11) 1800 it, aI ci (q 12) 8 sp, aI ci (q 13) 160 stk] H := hP
  have hD : va_D A [oM q (nI 0) n num den mag fac (nI 0) fnd 0 0 0 0 (nI 65535) la fo (nI 0) kc, aI ci (q 1) 600 fl, aI ci (q 2) 1024 wd, aI cz (q 3) 8 df, aI cz (q 4) 8 ag, aI ci (q 5) 8 mk, aI ci (q 6) 8 sc, aI ci (q 7) 12 nu, aI ci (q 8) 12 co, aI ci (q 9) 12 fi, aI ci (q 10) 12 ad, aI ci (q 11) 1800 it, aI ci (q 12) 8 sp, aI ci (q 13) 160 stk] := hD
  refine lv_aload_n hx hb dX9_read_41 rfl (lv_at hl 0 rfl) ?_
  refine lv_iconst (v := (-1)) hx hb dX9_read_42 (by decide) ?_
  refine va_put (D := G) (ci := 8) (v := .int (-1)) (ty := .int) (C := RX9) (T := TX9) (N := 30) hx hb hts hi_X9 tyX9 tyX9_ok nmX9 hown hK hP hD hS 0 rfl rfl 13 (by decide) f_29 (fun _ h9 => h9) rfl (by decide +kernel) rfl rfl (Nat.le_of_ble_eq_true rfl) dX9_read_43 (fun H locs hP hD hS => ?_)
  have hP : va_P G vwCl [oM q (nI 0) n num den mag fac (nI 0) (-1) 0 0 0 0 (nI 65535) la fo (nI 0) kc, aI ci (q 1) 600 fl, aI ci (q 2) 1024 wd, aI cz (q 3) 8 df, aI cz (q 4) 8 ag, aI ci (q 5) 8 mk, aI ci (q 6) 8 sc, aI ci (q 7) 12 nu, aI ci (q 8) 12 co, aI ci (q 9) 12 fi, aI ci (q 10) 12 ad, aI ci (q 11) 1800 it, aI ci (q 12) 8 sp, aI ci (q 13) 160 stk] H := hP
  have hD : va_D A [oM q (nI 0) n num den mag fac (nI 0) (-1) 0 0 0 0 (nI 65535) la fo (nI 0) kc, aI ci (q 1) 600 fl, aI ci (q 2) 1024 wd, aI cz (q 3) 8 df, aI cz (q 4) 8 ag, aI ci (q 5) 8 mk, aI ci (q 6) 8 sc, aI ci (q 7) 12 nu, aI ci (q 8) 12 co, aI ci (q 9) 12 fi, aI ci (q 10) 12 ad, aI ci (q 11) 1800 it, aI ci (q 12) 8 sp, aI ci (q 13) 160 stk] := hD
  have hPI0 : PI 0 0 fi co := PI_0
  refine lv_iconst (v := nI 0) hx hb dX9_read_46 (by decide) ?_
  refine lv_istore_n (lv' := [(1, .int (nI 0)), (0, .ref (q 0))]) hx hb dX9_read_47 rfl hl (by decide) rfl (fun ls hl => ?_)
  have loop_48 : ∀ (fuel : Nat) (i : Nat) (df1 : Nat → Int32) (ag1 : Nat → Int32) (H : Heap) (locs : List Loc), 8 - i < fuel → (i ≤ 8) → va_P G vwCl [oM q (nI 0) n num den mag fac (nI 0) (-1) 0 0 0 0 (nI 65535) la fo (nI 0) kc, aI ci (q 1) 600 fl, aI ci (q 2) 1024 wd, aI cz (q 3) 8 df1, aI cz (q 4) 8 ag1, aI ci (q 5) 8 mk, aI ci (q 6) 8 sc, aI ci (q 7) 12 nu, aI ci (q 8) 12 co, aI ci (q 9) 12 fi, aI ci (q 10) 12 ad, aI ci (q 11) 1800 it, aI ci (q 12) 8 sp, aI ci (q 13) 160 stk] H → va_D A [oM q (nI 0) n num den mag fac (nI 0) (-1) 0 0 0 0 (nI 65535) la fo (nI 0) kc, aI ci (q 1) 600 fl, aI ci (q 2) 1024 wd, aI cz (q 3) 8 df1, aI cz (q 4) 8 ag1, aI ci (q 5) 8 mk, aI ci (q 6) 8 sc, aI ci (q 7) 12 nu, aI ci (q 8) 12 co, aI ci (q 9) 12 fi, aI ci (q 10) 12 ad, aI ci (q 11) 1800 it, aI ci (q 12) 8 sp, aI ci (q 13) 160 stk] → va_S A s.heap H locs → ∀ ls : Array Slot, lv_has ls 2 [(0, .ref (q 0)), (1, .int (nI i))] → W p l e (headSpec wsX9_read ({ frames := 7, cells := 0, slots := 0, locals := 156 })).room s m ([.ref (q 0)] : List Value).toArray below meth c H locs 0 0 (MQ below (va_Qi (fun (r : Int32) (u : Int32 × Int32 × Int32 × Nat × (Nat → Int32) × (Nat → Int32) × (Nat → Int32) × (Nat → Int32) × Int32 × Int32 × Int32 × UInt64 × Nat × Nat × (Nat → Int32) × (Nat → Int32) × (Nat → Int32) × (Nat → Int32) × Nat × (Nat → Int32) × Int32 × Int32 × Int32 × Int32 × Nat × (Nat → Int32) × (Nat → Int32)) => MJ u.2.2.2.2.2.2.2.2.2.2.2.2.2.2.2.2.2.2.2.2.2.2.2.2.1 u.2.2.2.2.2.2.2.2.2.2.2.2.2.1 u.2.2.2.2.2.2.2.2.2.2.2.2.2.2.2.2.2.2.1 u.2.2.2.2.2.2.2.2.2.2.2.2.2.2.2.2.1 u.2.2.2.2.2.2.2.2.2.2.2.2.2.2.2.1 u.2.2.2.2.2.2.2.2.2.2.2.1 u.2.2.2.2.2.2.2.2.2.2.2.2.2.2.2.2.2.2.2.2.2.2.1 u.2.2.2.2.2.2.2.2.2.2.2.2.1 ∧ u.2.2.2.1 ≤ 600) (fun u t => PQ G (TY ci cz cl) A [oM q u.1 n u.2.2.2.2.2.2.2.2.1 u.2.2.2.2.2.2.2.2.2.1 u.2.2.2.2.2.2.2.2.2.2.1 u.2.2.2.2.2.2.2.2.2.2.2.1 u.2.1 u.2.2.1 u.2.2.2.2.2.2.2.2.2.2.2.2.2.1 u.2.2.2.2.2.2.2.2.2.2.2.2.2.2.2.2.2.2.1 u.2.2.2.1 u.2.2.2.2.2.2.2.2.2.2.2.2.1 u.2.2.2.2.2.2.2.2.2.2.2.2.2.2.2.2.2.2.2.2.1 u.2.2.2.2.2.2.2.2.2.2.2.2.2.2.2.2.2.2.2.2.2.1 u.2.2.2.2.2.2.2.2.2.2.2.2.2.2.2.2.2.2.2.2.2.2.1 u.2.2.2.2.2.2.2.2.2.2.2.2.2.2.2.2.2.2.2.2.2.2.2.1 u.2.2.2.2.2.2.2.2.2.2.2.2.2.2.2.2.2.2.2.2.2.2.2.2.1, aI ci (q 1) 600 fl, aI ci (q 2) 1024 wd, aI cz (q 3) 8 u.2.2.2.2.1, aI cz (q 4) 8 u.2.2.2.2.2.1, aI ci (q 5) 8 u.2.2.2.2.2.2.1, aI ci (q 6) 8 u.2.2.2.2.2.2.2.1, aI ci (q 7) 12 u.2.2.2.2.2.2.2.2.2.2.2.2.2.2.1, aI ci (q 8) 12 u.2.2.2.2.2.2.2.2.2.2.2.2.2.2.2.1, aI ci (q 9) 12 u.2.2.2.2.2.2.2.2.2.2.2.2.2.2.2.2.1, aI ci (q 10) 12 u.2.2.2.2.2.2.2.2.2.2.2.2.2.2.2.2.2.1, aI ci (q 11) 1800 u.2.2.2.2.2.2.2.2.2.2.2.2.2.2.2.2.2.2.2.1, aI ci (q 12) 8 u.2.2.2.2.2.2.2.2.2.2.2.2.2.2.2.2.2.2.2.2.2.2.2.2.2.1, aI ci (q 13) 160 u.2.2.2.2.2.2.2.2.2.2.2.2.2.2.2.2.2.2.2.2.2.2.2.2.2.2] t) A) ([.ref (q 0)] : List Value).toArray s 0 0 A) (F0 m 48 ls []) := by
    intro fuel
    induction fuel with
    | zero => intro i df1 ag1 H locs hf; exact absurd hf (by omega)
    | succ fuel ih =>
      intro i df1 ag1 H locs hf hi hP hD hS ls hl
      refine lv_iload_n hx hb dX9_read_48 rfl (lv_at hl 1 rfl) ?_
      refine lv_bipush (v := nI 8) hx hb dX9_read_49 (by decide) ?_
      refine lv_icmp_ge (tgt := 74) hx hb dX9_read_51 (by decide) (fun c_1 => ?_) (fun c_1 => ?_)
      · skip
        have z_1 := (nI_leI (a := 8) (b := i) (by omega) (by omega)).mp c_1
        have loop_74 : ∀ (fuel : Nat) (a : Nat) (df1 : Nat → Int32) (ag1 : Nat → Int32) (mk1 : Nat → Int32) (sc1 : Nat → Int32) (num1 : Int32) (den1 : Int32) (mag1 : Int32) (fac1 : UInt64) (sta1 : Nat) (pc1 : Nat) (nu1 : Nat → Int32) (co1 : Nat → Int32) (fi1 : Nat → Int32) (ad1 : Nat → Int32) (ic1 : Nat) (it1 : Nat → Int32) (lb1 : Int32) (la1 : Int32) (fo1 : Int32) (dee1 : Int32) (kc1 : Nat) (sp1 : Nat → Int32) (stk1 : Nat → Int32) (H : Heap) (locs : List Loc), n - a < fuel → (a ≤ n) → (kc1 ≤ 20) → (pc1 ≤ 12) → (ic1 ≤ 200) → (PI pc1 ic1 fi1 co1) → (Fn fac1) → (-1 ≤ fo1.toInt ∧ fo1.toInt ≤ 7) → ((sta1 = 2 → 1 ≤ pc1) ∧ sta1 ≤ 4) → va_P G vwCl [oM q (nI 0) n num1 den1 mag1 fac1 (nI 0) (-1) pc1 ic1 a sta1 lb1 la1 fo1 dee1 kc1, aI ci (q 1) 600 fl, aI ci (q 2) 1024 wd, aI cz (q 3) 8 df1, aI cz (q 4) 8 ag1, aI ci (q 5) 8 mk1, aI ci (q 6) 8 sc1, aI ci (q 7) 12 nu1, aI ci (q 8) 12 co1, aI ci (q 9) 12 fi1, aI ci (q 10) 12 ad1, aI ci (q 11) 1800 it1, aI ci (q 12) 8 sp1, aI ci (q 13) 160 stk1] H → va_D A [oM q (nI 0) n num1 den1 mag1 fac1 (nI 0) (-1) pc1 ic1 a sta1 lb1 la1 fo1 dee1 kc1, aI ci (q 1) 600 fl, aI ci (q 2) 1024 wd, aI cz (q 3) 8 df1, aI cz (q 4) 8 ag1, aI ci (q 5) 8 mk1, aI ci (q 6) 8 sc1, aI ci (q 7) 12 nu1, aI ci (q 8) 12 co1, aI ci (q 9) 12 fi1, aI ci (q 10) 12 ad1, aI ci (q 11) 1800 it1, aI ci (q 12) 8 sp1, aI ci (q 13) 160 stk1] → va_S A s.heap H locs → ∀ ls : Array Slot, lv_has ls 2 [(0, .ref (q 0))] → W p l e (headSpec wsX9_read ({ frames := 7, cells := 0, slots := 0, locals := 156 })).room s m ([.ref (q 0)] : List Value).toArray below meth c H locs 0 0 (MQ below (va_Qi (fun (r : Int32) (u : Int32 × Int32 × Int32 × Nat × (Nat → Int32) × (Nat → Int32) × (Nat → Int32) × (Nat → Int32) × Int32 × Int32 × Int32 × UInt64 × Nat × Nat × (Nat → Int32) × (Nat → Int32) × (Nat → Int32) × (Nat → Int32) × Nat × (Nat → Int32) × Int32 × Int32 × Int32 × Int32 × Nat × (Nat → Int32) × (Nat → Int32)) => MJ u.2.2.2.2.2.2.2.2.2.2.2.2.2.2.2.2.2.2.2.2.2.2.2.2.1 u.2.2.2.2.2.2.2.2.2.2.2.2.2.1 u.2.2.2.2.2.2.2.2.2.2.2.2.2.2.2.2.2.2.1 u.2.2.2.2.2.2.2.2.2.2.2.2.2.2.2.2.1 u.2.2.2.2.2.2.2.2.2.2.2.2.2.2.2.1 u.2.2.2.2.2.2.2.2.2.2.2.1 u.2.2.2.2.2.2.2.2.2.2.2.2.2.2.2.2.2.2.2.2.2.2.1 u.2.2.2.2.2.2.2.2.2.2.2.2.1 ∧ u.2.2.2.1 ≤ 600) (fun u t => PQ G (TY ci cz cl) A [oM q u.1 n u.2.2.2.2.2.2.2.2.1 u.2.2.2.2.2.2.2.2.2.1 u.2.2.2.2.2.2.2.2.2.2.1 u.2.2.2.2.2.2.2.2.2.2.2.1 u.2.1 u.2.2.1 u.2.2.2.2.2.2.2.2.2.2.2.2.2.1 u.2.2.2.2.2.2.2.2.2.2.2.2.2.2.2.2.2.2.1 u.2.2.2.1 u.2.2.2.2.2.2.2.2.2.2.2.2.1 u.2.2.2.2.2.2.2.2.2.2.2.2.2.2.2.2.2.2.2.2.1 u.2.2.2.2.2.2.2.2.2.2.2.2.2.2.2.2.2.2.2.2.2.1 u.2.2.2.2.2.2.2.2.2.2.2.2.2.2.2.2.2.2.2.2.2.2.1 u.2.2.2.2.2.2.2.2.2.2.2.2.2.2.2.2.2.2.2.2.2.2.2.1 u.2.2.2.2.2.2.2.2.2.2.2.2.2.2.2.2.2.2.2.2.2.2.2.2.1, aI ci (q 1) 600 fl, aI ci (q 2) 1024 wd, aI cz (q 3) 8 u.2.2.2.2.1, aI cz (q 4) 8 u.2.2.2.2.2.1, aI ci (q 5) 8 u.2.2.2.2.2.2.1, aI ci (q 6) 8 u.2.2.2.2.2.2.2.1, aI ci (q 7) 12 u.2.2.2.2.2.2.2.2.2.2.2.2.2.2.1, aI ci (q 8) 12 u.2.2.2.2.2.2.2.2.2.2.2.2.2.2.2.1, aI ci (q 9) 12 u.2.2.2.2.2.2.2.2.2.2.2.2.2.2.2.2.1, aI ci (q 10) 12 u.2.2.2.2.2.2.2.2.2.2.2.2.2.2.2.2.2.1, aI ci (q 11) 1800 u.2.2.2.2.2.2.2.2.2.2.2.2.2.2.2.2.2.2.2.1, aI ci (q 12) 8 u.2.2.2.2.2.2.2.2.2.2.2.2.2.2.2.2.2.2.2.2.2.2.2.2.2.1, aI ci (q 13) 160 u.2.2.2.2.2.2.2.2.2.2.2.2.2.2.2.2.2.2.2.2.2.2.2.2.2.2] t) A) ([.ref (q 0)] : List Value).toArray s 0 0 A) (F0 m 74 ls []) := by
          intro fuel
          induction fuel with
          | zero => intro a df1 ag1 mk1 sc1 num1 den1 mag1 fac1 sta1 pc1 nu1 co1 fi1 ad1 ic1 it1 lb1 la1 fo1 dee1 kc1 sp1 stk1 H locs hf; exact absurd hf (by omega)
          | succ fuel ih =>
            intro a df1 ag1 mk1 sc1 num1 den1 mag1 fac1 sta1 pc1 nu1 co1 fi1 ad1 ic1 it1 lb1 la1 fo1 dee1 kc1 sp1 stk1 H locs hf ha hkc hpc hic hPI1 hf1 hfo hst hP hD hS ls hl
            refine lv_aload_n hx hb dX9_read_74 rfl (lv_at hl 0 rfl) ?_
            refine va_get (D := G) (ci := 8) (v := .int (nI sta1)) (C := RX9) (T := TX9) (N := 30) hx hb hts hi_X9 hown hK hP 0 rfl rfl 22 (by decide) f_128 (fun _ h9 => h9) rfl dX9_read_75 ?_
            refine lv_iconst (v := nI 4) hx hb dX9_read_78 (by decide) ?_
            refine lv_icmp_ge (tgt := 140) hx hb dX9_read_79 (by decide) (fun c_2 => ?_) (fun c_2 => ?_)
            · skip
              have z_2 := (nI_leI (a := 4) (b := sta1) (by omega) (by omega)).mp c_2
              refine lv_aload_n hx hb dX9_read_140 rfl (lv_at hl 0 rfl) ?_
              refine lv_iconst (v := nI 1) hx hb dX9_read_141 (by decide) ?_
              refine va_put (D := G) (ci := 8) (v := .int (nI 1)) (ty := .boolean) (C := RX9) (T := TX9) (N := 30) hx hb hts hi_X9 tyX9 tyX9_ok nmX9 hown hK hP hD hS 0 rfl rfl 12 (by decide) f_191 (fun _ h9 => h9) rfl (by decide +kernel) (by decide) (by decide) (Nat.le_of_ble_eq_true rfl) dX9_read_142 (fun H locs hP hD hS => ?_)
              have hP : va_P G vwCl [oM q (nI 0) n num1 den1 mag1 fac1 (nI 1) (-1) pc1 ic1 a sta1 lb1 la1 fo1 dee1 kc1, aI ci (q 1) 600 fl, aI ci (q 2) 1024 wd, aI cz (q 3) 8 df1, aI cz (q 4) 8 ag1, aI ci (q 5) 8 mk1, aI ci (q 6) 8 sc1, aI ci (q 7) 12 nu1, aI ci (q 8) 12 co1, aI ci (q 9) 12 fi1, aI ci (q 10) 12 ad1, aI ci (q 11) 1800 it1, aI ci (q 12) 8 sp1, aI ci (q 13) 160 stk1] H := hP
              have hD : va_D A [oM q (nI 0) n num1 den1 mag1 fac1 (nI 1) (-1) pc1 ic1 a sta1 lb1 la1 fo1 dee1 kc1, aI ci (q 1) 600 fl, aI ci (q 2) 1024 wd, aI cz (q 3) 8 df1, aI cz (q 4) 8 ag1, aI ci (q 5) 8 mk1, aI ci (q 6) 8 sc1, aI ci (q 7) 12 nu1, aI ci (q 8) 12 co1, aI ci (q 9) 12 fi1, aI ci (q 10) 12 ad1, aI ci (q 11) 1800 it1, aI ci (q 12) 8 sp1, aI ci (q 13) 160 stk1] := hD
              refine lv_aload_n hx hb dX9_read_145 rfl (lv_at hl 0 rfl) ?_
              refine va_get (D := G) (ci := 8) (v := .int (nI pc1)) (C := RX9) (T := TX9) (N := 30) hx hb hts hi_X9 hown hK hP 0 rfl rfl 14 (by decide) f_95 (fun _ h9 => h9) rfl dX9_read_146 ?_
              exact rI (v := nI pc1) hx hb hr hlocks rfl hK hP hD hS [0, 1, 2, 3, 4, 5, 6, 7, 8, 9, 10, 11, 12, 13] ((nI 0), nI 1, (-1), a, df1, ag1, mk1, sc1, num1, den1, mag1, fac1, sta1, pc1, nu1, co1, fi1, ad1, ic1, it1, lb1, la1, fo1, dee1, kc1, sp1, stk1) rfl (by decide) ⟨⟨by (try dsimp only); omega, by (try dsimp only); omega, by (try dsimp only); omega, by assumption, by assumption, by (try dsimp only); omega, by (try dsimp only); omega⟩, by (try dsimp only); omega⟩ dX9_read_149
            · skip
              have z_2 := mt (nI_leI (a := 4) (b := sta1) (by omega) (by omega)).mpr c_2
              refine lv_aload_n hx hb dX9_read_82 rfl (lv_at hl 0 rfl) ?_
              refine va_get (D := G) (ci := 8) (v := .int (nI a)) (C := RX9) (T := TX9) (N := 30) hx hb hts hi_X9 hown hK hP 0 rfl rfl 21 (by decide) f_105 (fun _ h9 => h9) rfl dX9_read_83 ?_
              refine lv_aload_n hx hb dX9_read_86 rfl (lv_at hl 0 rfl) ?_
              refine va_get (D := G) (ci := 8) (v := .int (nI n)) (C := RX9) (T := TX9) (N := 30) hx hb hts hi_X9 hown hK hP 0 rfl rfl 2 (by decide) f_61 (fun _ h9 => h9) rfl dX9_read_87 ?_
              refine lv_icmp_ge (tgt := 100) hx hb dX9_read_90 (by decide) (fun c_3 => ?_) (fun c_3 => ?_)
              · skip
                have z_3 := (nI_leI (a := n) (b := a) (by omega) (by omega)).mp c_3
                refine lv_aload_n hx hb dX9_read_100 rfl (lv_at hl 0 rfl) ?_
                refine lv_aload_n hx hb dX9_read_101 rfl (lv_at hl 0 rfl) ?_
                refine va_get (D := G) (ci := 8) (v := .int (nI a)) (C := RX9) (T := TX9) (N := 30) hx hb hts hi_X9 hown hK hP 0 rfl rfl 21 (by decide) f_105 (fun _ h9 => h9) rfl dX9_read_102 ?_
                refine va_put (D := G) (ci := 8) (v := .int (nI a)) (ty := .int) (C := RX9) (T := TX9) (N := 30) hx hb hts hi_X9 tyX9 tyX9_ok nmX9 hown hK hP hD hS 0 rfl rfl 13 (by decide) f_29 (fun _ h9 => h9) rfl (by decide +kernel) rfl rfl (Nat.le_of_ble_eq_true rfl) dX9_read_105 (fun H locs hP hD hS => ?_)
                have hP : va_P G vwCl [oM q (nI 0) n num1 den1 mag1 fac1 (nI 0) (nI a) pc1 ic1 a sta1 lb1 la1 fo1 dee1 kc1, aI ci (q 1) 600 fl, aI ci (q 2) 1024 wd, aI cz (q 3) 8 df1, aI cz (q 4) 8 ag1, aI ci (q 5) 8 mk1, aI ci (q 6) 8 sc1, aI ci (q 7) 12 nu1, aI ci (q 8) 12 co1, aI ci (q 9) 12 fi1, aI ci (q 10) 12 ad1, aI ci (q 11) 1800 it1, aI ci (q 12) 8 sp1, aI ci (q 13) 160 stk1] H := hP
                have hD : va_D A [oM q (nI 0) n num1 den1 mag1 fac1 (nI 0) (nI a) pc1 ic1 a sta1 lb1 la1 fo1 dee1 kc1, aI ci (q 1) 600 fl, aI ci (q 2) 1024 wd, aI cz (q 3) 8 df1, aI cz (q 4) 8 ag1, aI ci (q 5) 8 mk1, aI ci (q 6) 8 sc1, aI ci (q 7) 12 nu1, aI ci (q 8) 12 co1, aI ci (q 9) 12 fi1, aI ci (q 10) 12 ad1, aI ci (q 11) 1800 it1, aI ci (q 12) 8 sp1, aI ci (q 13) 160 stk1] := hD
                refine lv_aload_n hx hb dX9_read_108 rfl (lv_at hl 0 rfl) ?_
                refine lv_iconst (v := nI 1) hx hb dX9_read_109 (by decide) ?_
                refine jI (va_runV (As := [.int (nI 1)]) (rest := []) ⟨hx, hb, hml, hown, hts⟩ (c_X9_refuse l G ci cz cl q H.size (nI 1) (nI 0) n num1 den1 mag1 fac1 (nI 0) (nI a) pc1 ic1 a sta1 lb1 la1 fo1 dee1 kc1 fl wd df1 ag1 mk1 sc1 nu1 co1 fi1 ad1 it1 sp1 stk1 ) (cwV 1 hts gX9_read_X9_refuse rfl rfl rfl (by decide +kernel) ⟨(Nat.le_of_ble_eq_true rfl), (Nat.le_of_ble_eq_true rfl)⟩) (pV (wc := [oM q (nI 0) n num1 den1 mag1 fac1 (nI 0) (nI a) pc1 ic1 a sta1 lb1 la1 fo1 dee1 kc1, aI ci (q 1) 600 fl, aI ci (q 2) 1024 wd, aI cz (q 3) 8 df1, aI cz (q 4) 8 ag1, aI ci (q 5) 8 mk1, aI ci (q 6) 8 sc1, aI ci (q 7) 12 nu1, aI ci (q 8) 12 co1, aI ci (q 9) 12 fi1, aI ci (q 10) 12 ad1, aI ci (q 11) 1800 it1, aI ci (q 12) 8 sp1, aI ci (q 13) 160 stk1]) ok hK hP hD hS hA hO [0, 1, 2, 3, 4, 5, 6, 7, 8, 9, 10, 11, 12, 13] rfl (by decide) 0 rfl rfl) rfl rfl hl.1 rfl (lv_room (Nat.le_of_ble_eq_true rfl)) dX9_read_110 ⟨(Nat.le_of_ble_eq_true rfl), (Nat.le_of_ble_eq_true rfl)⟩) (wr := []) hP hD hS hA [0, 1, 2, 3, 4, 5, 6, 7, 8, 9, 10, 11, 12, 13] [] rfl rfl (by decide) (by decide) (fun r_4 u H locs hw_4 hP hD hS => ?_)
                try dsimp only at hw_4
                subst r_4
                have hP : va_P G vwCl [oM q (nI 1) n num1 den1 mag1 fac1 (nI 0) (nI a) pc1 ic1 a sta1 lb1 la1 fo1 dee1 kc1, aI ci (q 1) 600 fl, aI ci (q 2) 1024 wd, aI cz (q 3) 8 df1, aI cz (q 4) 8 ag1, aI ci (q 5) 8 mk1, aI ci (q 6) 8 sc1, aI ci (q 7) 12 nu1, aI ci (q 8) 12 co1, aI ci (q 9) 12 fi1, aI ci (q 10) 12 ad1, aI ci (q 11) 1800 it1, aI ci (q 12) 8 sp1, aI ci (q 13) 160 stk1] H := hP
                have hD : va_D A [oM q (nI 1) n num1 den1 mag1 fac1 (nI 0) (nI a) pc1 ic1 a sta1 lb1 la1 fo1 dee1 kc1, aI ci (q 1) 600 fl, aI ci (q 2) 1024 wd, aI cz (q 3) 8 df1, aI cz (q 4) 8 ag1, aI ci (q 5) 8 mk1, aI ci (q 6) 8 sc1, aI ci (q 7) 12 nu1, aI ci (q 8) 12 co1, aI ci (q 9) 12 fi1, aI ci (q 10) 12 ad1, aI ci (q 11) 1800 it1, aI ci (q 12) 8 sp1, aI ci (q 13) 160 stk1] := hD
                exact rI (v := nI 0) hx hb hr hlocks rfl hK hP hD hS [0, 1, 2, 3, 4, 5, 6, 7, 8, 9, 10, 11, 12, 13] (nI 1, nI 0, nI a, a, df1, ag1, mk1, sc1, num1, den1, mag1, fac1, sta1, pc1, nu1, co1, fi1, ad1, ic1, it1, lb1, la1, fo1, dee1, kc1, sp1, stk1) rfl (by decide) ⟨⟨by (try dsimp only); omega, by (try dsimp only); omega, by (try dsimp only); omega, by assumption, by assumption, by (try dsimp only); omega, by (try dsimp only); omega⟩, by (try dsimp only); omega⟩ dX9_read_113
              · skip
                have z_3 := mt (nI_leI (a := n) (b := a) (by omega) (by omega)).mpr c_3
                refine lv_aload_n hx hb dX9_read_93 rfl (lv_at hl 0 rfl) ?_
                refine jI (va_runV (As := []) (rest := []) ⟨hx, hb, hml, hown, hts⟩ (c_X9_command l G ci cz cl q H.size (nI 0) n num1 den1 mag1 fac1 (nI 0) (-1) pc1 ic1 a sta1 lb1 la1 fo1 dee1 kc1 fl wd df1 ag1 mk1 sc1 nu1 co1 fi1 ad1 it1 sp1 stk1 (by omega) hB (by omega) ⟨by omega, by omega, by omega, by assumption, by assumption, by omega, by omega⟩) (cwV 0 hts gX9_read_X9_command rfl rfl rfl (by decide +kernel) ⟨(Nat.le_of_ble_eq_true rfl), (Nat.le_of_ble_eq_true rfl)⟩) (pV (wc := [oM q (nI 0) n num1 den1 mag1 fac1 (nI 0) (-1) pc1 ic1 a sta1 lb1 la1 fo1 dee1 kc1, aI ci (q 1) 600 fl, aI ci (q 2) 1024 wd, aI cz (q 3) 8 df1, aI cz (q 4) 8 ag1, aI ci (q 5) 8 mk1, aI ci (q 6) 8 sc1, aI ci (q 7) 12 nu1, aI ci (q 8) 12 co1, aI ci (q 9) 12 fi1, aI ci (q 10) 12 ad1, aI ci (q 11) 1800 it1, aI ci (q 12) 8 sp1, aI ci (q 13) 160 stk1]) ok hK hP hD hS hA hO [0, 1, 2, 3, 4, 5, 6, 7, 8, 9, 10, 11, 12, 13] rfl (by decide) 0 rfl rfl) rfl rfl hl.1 rfl (lv_room (Nat.le_of_ble_eq_true rfl)) dX9_read_94 ⟨(Nat.le_of_ble_eq_true rfl), (Nat.le_of_ble_eq_true rfl)⟩) (wr := []) hP hD hS hA [0, 1, 2, 3, 4, 5, 6, 7, 8, 9, 10, 11, 12, 13] [] rfl rfl (by decide) (by decide) (fun r_5 u H locs hw_5 hP hD hS => ?_)
                obtain ⟨bo_5, num2_5, den2_5, mag2_5, fac2_5, pc2_5, ic2_5, sta2_5, lb2_5, la2_5, fo2_5, dee2_5, kc2_5, df2_5, ag2_5, mk2_5, sc2_5, nu2_5, co2_5, fi2_5, ad2_5, it2_5, sp2_5, stk2_5⟩ := u
                try dsimp only at hw_5
                obtain ⟨rfl, h_5, ⟨k_5, p_5, i_5, P_5, F_5, o_5, s_5⟩, c_5⟩ := hw_5
                have hP : va_P G vwCl [oM q (nI 0) n num2_5 den2_5 mag2_5 fac2_5 (nI 0) (-1) pc2_5 ic2_5 a sta2_5 lb2_5 la2_5 fo2_5 dee2_5 kc2_5, aI ci (q 1) 600 fl, aI ci (q 2) 1024 wd, aI cz (q 3) 8 df2_5, aI cz (q 4) 8 ag2_5, aI ci (q 5) 8 mk2_5, aI ci (q 6) 8 sc2_5, aI ci (q 7) 12 nu2_5, aI ci (q 8) 12 co2_5, aI ci (q 9) 12 fi2_5, aI ci (q 10) 12 ad2_5, aI ci (q 11) 1800 it2_5, aI ci (q 12) 8 sp2_5, aI ci (q 13) 160 stk2_5] H := hP
                have hD : va_D A [oM q (nI 0) n num2_5 den2_5 mag2_5 fac2_5 (nI 0) (-1) pc2_5 ic2_5 a sta2_5 lb2_5 la2_5 fo2_5 dee2_5 kc2_5, aI ci (q 1) 600 fl, aI ci (q 2) 1024 wd, aI cz (q 3) 8 df2_5, aI cz (q 4) 8 ag2_5, aI ci (q 5) 8 mk2_5, aI ci (q 6) 8 sc2_5, aI ci (q 7) 12 nu2_5, aI ci (q 8) 12 co2_5, aI ci (q 9) 12 fi2_5, aI ci (q 10) 12 ad2_5, aI ci (q 11) 1800 it2_5, aI ci (q 12) 8 sp2_5, aI ci (q 13) 160 stk2_5] := hD
                refine lv_if_ne (tgt := 114) hx hb dX9_read_97 (by decide) (fun c_6 => ?_) (fun c_6 => ?_)
                · skip
                  have z_6 := mt (nI_eq (a := bo_5) (b := 0) (by omega) (by omega)).mpr c_6
                  refine lv_aload_n hx hb dX9_read_114 rfl (lv_at hl 0 rfl) ?_
                  refine lv_dup hx hb dX9_read_115 rfl ?_
                  refine va_get (D := G) (ci := 8) (v := .int (nI a)) (C := RX9) (T := TX9) (N := 30) hx hb hts hi_X9 hown hK hP 0 rfl rfl 21 (by decide) f_105 (fun _ h9 => h9) rfl dX9_read_116 ?_
                  refine lv_iconst (v := nI 1) hx hb dX9_read_119 (by decide) ?_
                  refine lv_aload_n hx hb dX9_read_120 rfl (lv_at hl 0 rfl) ?_
                  refine va_get (D := G) (ci := 8) (v := .ref (q 1)) (C := RX9) (T := TX9) (N := 30) hx hb hts hi_X9 hown hK hP 0 rfl rfl 1 (by decide) f_7 (fun _ h9 => h9) rfl dX9_read_121 ?_
                  refine lv_aload_n hx hb dX9_read_124 rfl (lv_at hl 0 rfl) ?_
                  refine va_get (D := G) (ci := 8) (v := .int (nI a)) (C := RX9) (T := TX9) (N := 30) hx hb hts hi_X9 hown hK hP 0 rfl rfl 21 (by decide) f_105 (fun _ h9 => h9) rfl dX9_read_125 ?_
                  refine va_iald hx hb hK hP 1 0 rfl rfl (vp_in_nI (by omega) (by omega)) dX9_read_128 ?_
                  refine tp (y := fl a) (congrArg fl (nI_clamp (by omega))) ?_
                  obtain ⟨cb, hcb1, hcb2, hcb3⟩ := c_5 (by omega)
                  clear c_5
                  refine tp (y := nI cb) hcb1 ?_
                  refine jI (va_runS (As := [.int (nI cb)]) (rest := [.int (nI 1), .int (nI a), .ref (q 0)]) ⟨hx, hb, hml, hown, hts⟩ (c_X9_behind l G ci cz cl q H.size cb (by omega)) (va_cwS 1 hts gX9_read_X9_behind rfl rfl rfl (by decide +kernel) ⟨(Nat.le_of_ble_eq_true rfl), (Nat.le_of_ble_eq_true rfl)⟩) (pS (wc := []) ok hK hP hD hS hA hO [] rfl (by decide)) rfl rfl hl.1 rfl (lv_room (Nat.le_of_ble_eq_true rfl)) dX9_read_129 ⟨(Nat.le_of_ble_eq_true rfl), (Nat.le_of_ble_eq_true rfl)⟩) (wr := [oM q (nI 0) n num2_5 den2_5 mag2_5 fac2_5 (nI 0) (-1) pc2_5 ic2_5 a sta2_5 lb2_5 la2_5 fo2_5 dee2_5 kc2_5, aI ci (q 1) 600 fl, aI ci (q 2) 1024 wd, aI cz (q 3) 8 df2_5, aI cz (q 4) 8 ag2_5, aI ci (q 5) 8 mk2_5, aI ci (q 6) 8 sc2_5, aI ci (q 7) 12 nu2_5, aI ci (q 8) 12 co2_5, aI ci (q 9) 12 fi2_5, aI ci (q 10) 12 ad2_5, aI ci (q 11) 1800 it2_5, aI ci (q 12) 8 sp2_5, aI ci (q 13) 160 stk2_5]) hP hD hS hA [] [0, 1, 2, 3, 4, 5, 6, 7, 8, 9, 10, 11, 12, 13] rfl rfl (by decide) (by decide) (fun r_7 u H locs hw_7 hP hD hS => ?_)
                  try dsimp only at hw_7
                  have hP : va_P G vwCl [oM q (nI 0) n num2_5 den2_5 mag2_5 fac2_5 (nI 0) (-1) pc2_5 ic2_5 a sta2_5 lb2_5 la2_5 fo2_5 dee2_5 kc2_5, aI ci (q 1) 600 fl, aI ci (q 2) 1024 wd, aI cz (q 3) 8 df2_5, aI cz (q 4) 8 ag2_5, aI ci (q 5) 8 mk2_5, aI ci (q 6) 8 sc2_5, aI ci (q 7) 12 nu2_5, aI ci (q 8) 12 co2_5, aI ci (q 9) 12 fi2_5, aI ci (q 10) 12 ad2_5, aI ci (q 11) 1800 it2_5, aI ci (q 12) 8 sp2_5, aI ci (q 13) 160 stk2_5] H := hP
                  have hD : va_D A [oM q (nI 0) n num2_5 den2_5 mag2_5 fac2_5 (nI 0) (-1) pc2_5 ic2_5 a sta2_5 lb2_5 la2_5 fo2_5 dee2_5 kc2_5, aI ci (q 1) 600 fl, aI ci (q 2) 1024 wd, aI cz (q 3) 8 df2_5, aI cz (q 4) 8 ag2_5, aI ci (q 5) 8 mk2_5, aI ci (q 6) 8 sc2_5, aI ci (q 7) 12 nu2_5, aI ci (q 8) 12 co2_5, aI ci (q 9) 12 fi2_5, aI ci (q 10) 12 ad2_5, aI ci (q 11) 1800 it2_5, aI ci (q 12) 8 sp2_5, aI ci (q 13) 160 stk2_5] := hD
                  obtain ⟨-, hr9, -⟩ : cb ≤ 169 ∧ r_7 = nI (tbk cb) ∧ r_7.toInt = tbk cb := by rcases hw_7 with h | h; exact h; exfalso; omega
                  refine tp (y := nI (tbk cb)) hr9 ?_
                  refine lv_iadd hx hb dX9_read_132 ?_
                  refine tp (nI_add _ _) ?_
                  refine lv_iadd hx hb dX9_read_133 ?_
                  refine tp (nI_add _ _) ?_
                  refine va_put (D := G) (ci := 8) (v := .int (nI (a + (1 + (tbk cb))))) (ty := .int) (C := RX9) (T := TX9) (N := 30) hx hb hts hi_X9 tyX9 tyX9_ok nmX9 hown hK hP hD hS 0 rfl rfl 21 (by decide) f_105 (fun _ h9 => h9) rfl (by decide +kernel) rfl rfl (Nat.le_of_ble_eq_true rfl) dX9_read_134 (fun H locs hP hD hS => ?_)
                  have hP : va_P G vwCl [oM q (nI 0) n num2_5 den2_5 mag2_5 fac2_5 (nI 0) (-1) pc2_5 ic2_5 (a + (1 + (tbk cb))) sta2_5 lb2_5 la2_5 fo2_5 dee2_5 kc2_5, aI ci (q 1) 600 fl, aI ci (q 2) 1024 wd, aI cz (q 3) 8 df2_5, aI cz (q 4) 8 ag2_5, aI ci (q 5) 8 mk2_5, aI ci (q 6) 8 sc2_5, aI ci (q 7) 12 nu2_5, aI ci (q 8) 12 co2_5, aI ci (q 9) 12 fi2_5, aI ci (q 10) 12 ad2_5, aI ci (q 11) 1800 it2_5, aI ci (q 12) 8 sp2_5, aI ci (q 13) 160 stk2_5] H := hP
                  have hD : va_D A [oM q (nI 0) n num2_5 den2_5 mag2_5 fac2_5 (nI 0) (-1) pc2_5 ic2_5 (a + (1 + (tbk cb))) sta2_5 lb2_5 la2_5 fo2_5 dee2_5 kc2_5, aI ci (q 1) 600 fl, aI ci (q 2) 1024 wd, aI cz (q 3) 8 df2_5, aI cz (q 4) 8 ag2_5, aI ci (q 5) 8 mk2_5, aI ci (q 6) 8 sc2_5, aI ci (q 7) 12 nu2_5, aI ci (q 8) 12 co2_5, aI ci (q 9) 12 fi2_5, aI ci (q 10) 12 ad2_5, aI ci (q 11) 1800 it2_5, aI ci (q 12) 8 sp2_5, aI ci (q 13) 160 stk2_5] := hD
                  refine lv_goto (tgt := 74) hx hb dX9_read_137 (by decide) ?_
                  exact ih (a + (1 + (tbk cb))) df2_5 ag2_5 mk2_5 sc2_5 num2_5 den2_5 mag2_5 fac2_5 sta2_5 pc2_5 nu2_5 co2_5 fi2_5 ad2_5 ic2_5 it2_5 lb2_5 la2_5 fo2_5 dee2_5 kc2_5 sp2_5 stk2_5 H locs (by omega) (by omega) (by omega) (by omega) (by omega) (by assumption) (by assumption) (by omega) (by omega) (hP.sub [0, 1, 2, 3, 4, 5, 6, 7, 8, 9, 10, 11, 12, 13] rfl) (hD.sub [0, 1, 2, 3, 4, 5, 6, 7, 8, 9, 10, 11, 12, 13] (by decide) rfl) hS ls (lv_sub hl [0] rfl)
                · skip
                  have z_6 := (nI_eq (a := bo_5) (b := 0) (by omega) (by omega)).mp c_6
                  refine lv_aload_n hx hb dX9_read_100 rfl (lv_at hl 0 rfl) ?_
                  refine lv_aload_n hx hb dX9_read_101 rfl (lv_at hl 0 rfl) ?_
                  refine va_get (D := G) (ci := 8) (v := .int (nI a)) (C := RX9) (T := TX9) (N := 30) hx hb hts hi_X9 hown hK hP 0 rfl rfl 21 (by decide) f_105 (fun _ h9 => h9) rfl dX9_read_102 ?_
                  refine va_put (D := G) (ci := 8) (v := .int (nI a)) (ty := .int) (C := RX9) (T := TX9) (N := 30) hx hb hts hi_X9 tyX9 tyX9_ok nmX9 hown hK hP hD hS 0 rfl rfl 13 (by decide) f_29 (fun _ h9 => h9) rfl (by decide +kernel) rfl rfl (Nat.le_of_ble_eq_true rfl) dX9_read_105 (fun H locs hP hD hS => ?_)
                  have hP : va_P G vwCl [oM q (nI 0) n num2_5 den2_5 mag2_5 fac2_5 (nI 0) (nI a) pc2_5 ic2_5 a sta2_5 lb2_5 la2_5 fo2_5 dee2_5 kc2_5, aI ci (q 1) 600 fl, aI ci (q 2) 1024 wd, aI cz (q 3) 8 df2_5, aI cz (q 4) 8 ag2_5, aI ci (q 5) 8 mk2_5, aI ci (q 6) 8 sc2_5, aI ci (q 7) 12 nu2_5, aI ci (q 8) 12 co2_5, aI ci (q 9) 12 fi2_5, aI ci (q 10) 12 ad2_5, aI ci (q 11) 1800 it2_5, aI ci (q 12) 8 sp2_5, aI ci (q 13) 160 stk2_5] H := hP
                  have hD : va_D A [oM q (nI 0) n num2_5 den2_5 mag2_5 fac2_5 (nI 0) (nI a) pc2_5 ic2_5 a sta2_5 lb2_5 la2_5 fo2_5 dee2_5 kc2_5, aI ci (q 1) 600 fl, aI ci (q 2) 1024 wd, aI cz (q 3) 8 df2_5, aI cz (q 4) 8 ag2_5, aI ci (q 5) 8 mk2_5, aI ci (q 6) 8 sc2_5, aI ci (q 7) 12 nu2_5, aI ci (q 8) 12 co2_5, aI ci (q 9) 12 fi2_5, aI ci (q 10) 12 ad2_5, aI ci (q 11) 1800 it2_5, aI ci (q 12) 8 sp2_5, aI ci (q 13) 160 stk2_5] := hD
                  refine lv_aload_n hx hb dX9_read_108 rfl (lv_at hl 0 rfl) ?_
                  refine lv_iconst (v := nI 1) hx hb dX9_read_109 (by decide) ?_
                  refine jI (va_runV (As := [.int (nI 1)]) (rest := []) ⟨hx, hb, hml, hown, hts⟩ (c_X9_refuse l G ci cz cl q H.size (nI 1) (nI 0) n num2_5 den2_5 mag2_5 fac2_5 (nI 0) (nI a) pc2_5 ic2_5 a sta2_5 lb2_5 la2_5 fo2_5 dee2_5 kc2_5 fl wd df2_5 ag2_5 mk2_5 sc2_5 nu2_5 co2_5 fi2_5 ad2_5 it2_5 sp2_5 stk2_5 ) (cwV 1 hts gX9_read_X9_refuse rfl rfl rfl (by decide +kernel) ⟨(Nat.le_of_ble_eq_true rfl), (Nat.le_of_ble_eq_true rfl)⟩) (pV (wc := [oM q (nI 0) n num2_5 den2_5 mag2_5 fac2_5 (nI 0) (nI a) pc2_5 ic2_5 a sta2_5 lb2_5 la2_5 fo2_5 dee2_5 kc2_5, aI ci (q 1) 600 fl, aI ci (q 2) 1024 wd, aI cz (q 3) 8 df2_5, aI cz (q 4) 8 ag2_5, aI ci (q 5) 8 mk2_5, aI ci (q 6) 8 sc2_5, aI ci (q 7) 12 nu2_5, aI ci (q 8) 12 co2_5, aI ci (q 9) 12 fi2_5, aI ci (q 10) 12 ad2_5, aI ci (q 11) 1800 it2_5, aI ci (q 12) 8 sp2_5, aI ci (q 13) 160 stk2_5]) ok hK hP hD hS hA hO [0, 1, 2, 3, 4, 5, 6, 7, 8, 9, 10, 11, 12, 13] rfl (by decide) 0 rfl rfl) rfl rfl hl.1 rfl (lv_room (Nat.le_of_ble_eq_true rfl)) dX9_read_110 ⟨(Nat.le_of_ble_eq_true rfl), (Nat.le_of_ble_eq_true rfl)⟩) (wr := []) hP hD hS hA [0, 1, 2, 3, 4, 5, 6, 7, 8, 9, 10, 11, 12, 13] [] rfl rfl (by decide) (by decide) (fun r_8 u H locs hw_8 hP hD hS => ?_)
                  try dsimp only at hw_8
                  subst r_8
                  have hP : va_P G vwCl [oM q (nI 1) n num2_5 den2_5 mag2_5 fac2_5 (nI 0) (nI a) pc2_5 ic2_5 a sta2_5 lb2_5 la2_5 fo2_5 dee2_5 kc2_5, aI ci (q 1) 600 fl, aI ci (q 2) 1024 wd, aI cz (q 3) 8 df2_5, aI cz (q 4) 8 ag2_5, aI ci (q 5) 8 mk2_5, aI ci (q 6) 8 sc2_5, aI ci (q 7) 12 nu2_5, aI ci (q 8) 12 co2_5, aI ci (q 9) 12 fi2_5, aI ci (q 10) 12 ad2_5, aI ci (q 11) 1800 it2_5, aI ci (q 12) 8 sp2_5, aI ci (q 13) 160 stk2_5] H := hP
                  have hD : va_D A [oM q (nI 1) n num2_5 den2_5 mag2_5 fac2_5 (nI 0) (nI a) pc2_5 ic2_5 a sta2_5 lb2_5 la2_5 fo2_5 dee2_5 kc2_5, aI ci (q 1) 600 fl, aI ci (q 2) 1024 wd, aI cz (q 3) 8 df2_5, aI cz (q 4) 8 ag2_5, aI ci (q 5) 8 mk2_5, aI ci (q 6) 8 sc2_5, aI ci (q 7) 12 nu2_5, aI ci (q 8) 12 co2_5, aI ci (q 9) 12 fi2_5, aI ci (q 10) 12 ad2_5, aI ci (q 11) 1800 it2_5, aI ci (q 12) 8 sp2_5, aI ci (q 13) 160 stk2_5] := hD
                  exact rI (v := nI 0) hx hb hr hlocks rfl hK hP hD hS [0, 1, 2, 3, 4, 5, 6, 7, 8, 9, 10, 11, 12, 13] (nI 1, nI 0, nI a, a, df2_5, ag2_5, mk2_5, sc2_5, num2_5, den2_5, mag2_5, fac2_5, sta2_5, pc2_5, nu2_5, co2_5, fi2_5, ad2_5, ic2_5, it2_5, lb2_5, la2_5, fo2_5, dee2_5, kc2_5, sp2_5, stk2_5) rfl (by decide) ⟨⟨by (try dsimp only); omega, by (try dsimp only); omega, by (try dsimp only); omega, by assumption, by assumption, by (try dsimp only); omega, by (try dsimp only); omega⟩, by (try dsimp only); omega⟩ dX9_read_113
        exact loop_74 (n - 0 + 1) 0 df1 ag1 mk sc num den mag fac 0 0 nu co fi ad 0 it (nI 65535) la fo (nI 0) kc sp stk H locs (Nat.lt_succ_self _) (by omega) (by omega) (by omega) (by omega) (by assumption) (by assumption) (by omega) (by omega) (hP.sub [0, 1, 2, 3, 4, 5, 6, 7, 8, 9, 10, 11, 12, 13] rfl) (hD.sub [0, 1, 2, 3, 4, 5, 6, 7, 8, 9, 10, 11, 12, 13] (by decide) rfl) hS ls (lv_sub hl [0] rfl)
      · skip
        have z_1 := mt (nI_leI (a := 8) (b := i) (by omega) (by omega)).mpr c_1
        refine lv_aload_n hx hb dX9_read_54 rfl (lv_at hl 0 rfl) ?_
        refine va_get (D := G) (ci := 8) (v := .ref (q 3)) (C := RX9) (T := TX9) (N := 30) hx hb hts hi_X9 hown hK hP 0 rfl rfl 4 (by decide) f_16 (fun _ h9 => h9) rfl dX9_read_55 ?_
        refine lv_iload_n hx hb dX9_read_58 rfl (lv_at hl 1 rfl) ?_
        refine lv_iconst (v := nI 0) hx hb dX9_read_59 (by decide) ?_
        refine va_zast hx hb hK hP hD hS 3 1 rfl rfl (vp_in_nI (by omega) (by omega)) dX9_read_60 (fun H locs hP hD hS => ?_)
        rw [nI_clamp (by omega), vn0] at hP hD
        have hP : va_P G vwCl [oM q (nI 0) n num den mag fac (nI 0) (-1) 0 0 0 0 (nI 65535) la fo (nI 0) kc, aI ci (q 1) 600 fl, aI ci (q 2) 1024 wd, aI cz (q 3) 8 (upd df1 i (nI 0)), aI cz (q 4) 8 ag1, aI ci (q 5) 8 mk, aI ci (q 6) 8 sc, aI ci (q 7) 12 nu, aI ci (q 8) 12 co, aI ci (q 9) 12 fi, aI ci (q 10) 12 ad, aI ci (q 11) 1800 it, aI ci (q 12) 8 sp, aI ci (q 13) 160 stk] H := hP
        have hD : va_D A [oM q (nI 0) n num den mag fac (nI 0) (-1) 0 0 0 0 (nI 65535) la fo (nI 0) kc, aI ci (q 1) 600 fl, aI ci (q 2) 1024 wd, aI cz (q 3) 8 (upd df1 i (nI 0)), aI cz (q 4) 8 ag1, aI ci (q 5) 8 mk, aI ci (q 6) 8 sc, aI ci (q 7) 12 nu, aI ci (q 8) 12 co, aI ci (q 9) 12 fi, aI ci (q 10) 12 ad, aI ci (q 11) 1800 it, aI ci (q 12) 8 sp, aI ci (q 13) 160 stk] := hD
        refine lv_aload_n hx hb dX9_read_61 rfl (lv_at hl 0 rfl) ?_
        refine va_get (D := G) (ci := 8) (v := .ref (q 4)) (C := RX9) (T := TX9) (N := 30) hx hb hts hi_X9 hown hK hP 0 rfl rfl 5 (by decide) f_20 (fun _ h9 => h9) rfl dX9_read_62 ?_
        refine lv_iload_n hx hb dX9_read_65 rfl (lv_at hl 1 rfl) ?_
        refine lv_iconst (v := nI 0) hx hb dX9_read_66 (by decide) ?_
        refine va_zast hx hb hK hP hD hS 4 1 rfl rfl (vp_in_nI (by omega) (by omega)) dX9_read_67 (fun H locs hP hD hS => ?_)
        rw [nI_clamp (by omega), vn0] at hP hD
        have hP : va_P G vwCl [oM q (nI 0) n num den mag fac (nI 0) (-1) 0 0 0 0 (nI 65535) la fo (nI 0) kc, aI ci (q 1) 600 fl, aI ci (q 2) 1024 wd, aI cz (q 3) 8 (upd df1 i (nI 0)), aI cz (q 4) 8 (upd ag1 i (nI 0)), aI ci (q 5) 8 mk, aI ci (q 6) 8 sc, aI ci (q 7) 12 nu, aI ci (q 8) 12 co, aI ci (q 9) 12 fi, aI ci (q 10) 12 ad, aI ci (q 11) 1800 it, aI ci (q 12) 8 sp, aI ci (q 13) 160 stk] H := hP
        have hD : va_D A [oM q (nI 0) n num den mag fac (nI 0) (-1) 0 0 0 0 (nI 65535) la fo (nI 0) kc, aI ci (q 1) 600 fl, aI ci (q 2) 1024 wd, aI cz (q 3) 8 (upd df1 i (nI 0)), aI cz (q 4) 8 (upd ag1 i (nI 0)), aI ci (q 5) 8 mk, aI ci (q 6) 8 sc, aI ci (q 7) 12 nu, aI ci (q 8) 12 co, aI ci (q 9) 12 fi, aI ci (q 10) 12 ad, aI ci (q 11) 1800 it, aI ci (q 12) 8 sp, aI ci (q 13) 160 stk] := hD
        refine lv_iinc (v := nI (i + 1)) (lv' := [(1, .int (nI (i + 1))), (0, .ref (q 0))]) hx hb dX9_read_68 hl (k := 1) rfl (nI_add _ _) (by decide) rfl (fun ls hl => ?_)
        refine lv_goto (tgt := 48) hx hb dX9_read_71 (by decide) ?_
        exact ih (i + 1) (upd df1 i (nI 0)) (upd ag1 i (nI 0)) H locs (by omega) (by omega) (hP.sub [0, 1, 2, 3, 4, 5, 6, 7, 8, 9, 10, 11, 12, 13] rfl) (hD.sub [0, 1, 2, 3, 4, 5, 6, 7, 8, 9, 10, 11, 12, 13] (by decide) rfl) hS ls (lv_sub hl [1, 0] rfl)
  exact loop_48 (8 - 0 + 1) 0 df ag H locs (Nat.lt_succ_self _) (by omega) (hP.sub [0, 1, 2, 3, 4, 5, 6, 7, 8, 9, 10, 11, 12, 13] rfl) (hD.sub [0, 1, 2, 3, 4, 5, 6, 7, 8, 9, 10, 11, 12, 13] (by decide) rfl) hS ls (lv_sub hl [1, 0] rfl)
set_option maxHeartbeats 4000000 in
set_option maxRecDepth 100000 in
theorem c_X9_page (l : Launch) (G : va_G) (ci cz cl : ClassId) (q : Nat → Nat) (sz : Nat) (x : Int32) (y : Int32) (ref : Int32) (n : Nat) (num : Int32) (den : Int32) (mag : Int32) (fac : UInt64) (who : Int32) (fnd : Int32) (pc : Nat) (ic : Nat) (a : Nat) (sta : Nat) (lb : Int32) (la : Int32) (fo : Int32) (dee : Int32) (kc : Nat) (fl : Nat → Int32) (wd : Nat → Int32) (df : Nat → Int32) (ag : Nat → Int32) (mk : Nat → Int32) (sc : Nat → Int32) (nu : Nat → Int32) (co : Nat → Int32) (fi : Nat → Int32) (ad : Nat → Int32) (it : Nat → Int32) (sp : Nat → Int32) (stk : Nat → Int32) (hpc : pc ≤ 12) : CtI l yX9_page wsX9_page ({ frames := 1, cells := 0, slots := 0, locals := 21 }) G (TY ci cz cl) O0 [.ref (q 0), .int x, .int y] [oM q ref n num den mag fac who fnd pc ic a sta lb la fo dee kc, aI ci (q 1) 600 fl, aI ci (q 2) 1024 wd, aI cz (q 3) 8 df, aI cz (q 4) 8 ag, aI ci (q 5) 8 mk, aI ci (q 6) 8 sc, aI ci (q 7) 12 nu, aI ci (q 8) 12 co, aI ci (q 9) 12 fi, aI ci (q 10) 12 ad, aI ci (q 11) 1800 it, aI ci (q 12) 8 sp, aI ci (q 13) 160 stk] sz (fun (r : Int32) (u : Int32) => True) (fun u : Int32 => [oM q u n num den mag fac who fnd pc ic a sta lb la fo dee kc, aI ci (q 1) 600 fl, aI ci (q 2) 1024 wd, aI cz (q 3) 8 df, aI cz (q 4) 8 ag, aI ci (q 5) 8 mk, aI ci (q 6) 8 sc, aI ci (q 7) 12 nu, aI ci (q 8) 12 co, aI ci (q 9) 12 fi, aI ci (q 10) 12 ad, aI ci (q 11) 1800 it, aI ci (q 12) 8 sp, aI ci (q 13) 160 stk]) 0 0 := by
  refine Met.ofW (cc := cX9_page) (maxL := 3) (ret := (some .int)) (by decide) rfl ?_
  intro p e s m args below meth c s₁ B hml hv
  obtain ⟨rfl, ⟨hsz, hP, hK, hD0⟩, hO⟩ := hv
  have hx := B.exec
  have hb := B.bytes
  have hr := B.returns
  have hts := atoms_spec (ws := wsX9_page) B.pre
  have hown : s.vm.findClass RX9 = some m.cls := findClass_of_methodNamed B.named
  have hlocks := B.notSynchronized
  subst hsz
  have hD := hD0.self (sz := s.heap.size)
  generalize hAe : va_A [oM q ref n num den mag fac who fnd pc ic a sta lb la fo dee kc, aI ci (q 1) 600 fl, aI ci (q 2) 1024 wd, aI cz (q 3) 8 df, aI cz (q 4) 8 ag, aI ci (q 5) 8 mk, aI ci (q 6) 8 sc, aI ci (q 7) 12 nu, aI ci (q 8) 12 co, aI ci (q 9) 12 fi, aI ci (q 10) 12 ad, aI ci (q 11) 1800 it, aI ci (q 12) 8 sp, aI ci (q 13) 160 stk] s.heap.size = A at hD hO ⊢
  have hA : ∀ q : Nat, s.heap.size ≤ q → A q := fun q h => by rw [← hAe]; exact Or.inr h
  have ok := ok0
  refine startH (A := A) (fun H locs hP hS => ?_) hP
  have hi_X9 := (by decide +kernel : ∀ w ∈ wsX90, w ∈ wsX9_page)
  have f_54 := hts (.fieldLink RX9 54 "PageReaderModel" "refusal" "I") (by decide +kernel)
  have f_191 := hts (.fieldLink RX9 191 "PageReaderModel" "whole" "Z") (by decide +kernel)
  have f_95 := hts (.fieldLink RX9 95 "PageReaderModel" "pages" "I") (by decide +kernel)
  have f_42 := hts (.fieldLink RX9 42 "PageReaderModel" "addresses" "[I") (by decide +kernel)
  have f_36 := hts (.fieldLink RX9 36 "PageReaderModel" "counts" "[I") (by decide +kernel)
  have f_33 := hts (.fieldLink RX9 33 "PageReaderModel" "numbers" "[I") (by decide +kernel)
  have hl := lv_entry ([.ref (q 0), .int x, .int y]) (n := 3) (Nat.le_of_ble_eq_true rfl)
  rw [lg_entry_eq]
  generalize (lg_sl ([.ref (q 0), .int x, .int y]) ++ List.replicate (3 - (lg_sl ([.ref (q 0), .int x, .int y])).length) Slot.unset).toArray = ls at hl ⊢
  have hl : lv_has ls 3 [(0, .ref (q 0)), (1, .int x), (2, .int y)] := hl
  refine lv_aload_n hx hb dX9_page_0 rfl (lv_at hl 0 rfl) ?_
  refine lv_iconst (v := nI 0) hx hb dX9_page_1 (by decide) ?_
  refine va_put (D := G) (ci := 8) (v := .int (nI 0)) (ty := .int) (C := RX9) (T := TX9) (N := 30) hx hb hts hi_X9 tyX9 tyX9_ok nmX9 hown hK hP hD hS 0 rfl rfl 0 (by decide) f_54 (fun _ h9 => h9) rfl (by decide +kernel) rfl rfl (Nat.le_of_ble_eq_true rfl) dX9_page_2 (fun H locs hP hD hS => ?_)
  have hP : va_P G vwCl [oM q (nI 0) n num den mag fac who fnd pc ic a sta lb la fo dee kc, aI ci (q 1) 600 fl, aI ci (q 2) 1024 wd, aI cz (q 3) 8 df, aI cz (q 4) 8 ag, aI ci (q 5) 8 mk, aI ci (q 6) 8 sc, aI ci (q 7) 12 nu, aI ci (q 8) 12 co, aI ci (q 9) 12 fi, aI ci (q 10) 12 ad, aI ci (q 11) 1800 it, aI ci (q 12) 8 sp, aI ci (q 13) 160 stk] H := hP
  have hD : va_D A [oM q (nI 0) n num den mag fac who fnd pc ic a sta lb la fo dee kc, aI ci (q 1) 600 fl, aI ci (q 2) 1024 wd, aI cz (q 3) 8 df, aI cz (q 4) 8 ag, aI ci (q 5) 8 mk, aI ci (q 6) 8 sc, aI ci (q 7) 12 nu, aI ci (q 8) 12 co, aI ci (q 9) 12 fi, aI ci (q 10) 12 ad, aI ci (q 11) 1800 it, aI ci (q 12) 8 sp, aI ci (q 13) 160 stk] := hD
  refine lv_aload_n hx hb dX9_page_5 rfl (lv_at hl 0 rfl) ?_
  refine va_get (D := G) (ci := 8) (v := .int who) (C := RX9) (T := TX9) (N := 30) hx hb hts hi_X9 hown hK hP 0 rfl rfl 12 (by decide) f_191 (fun _ h9 => h9) rfl dX9_page_6 ?_
  refine lv_if_eq (tgt := 33) hx hb dX9_page_9 (by decide) (fun c_1 => ?_) (fun c_1 => ?_)
  · skip
    refine lv_aload_n hx hb dX9_page_33 rfl (lv_at hl 0 rfl) ?_
    refine lv_iconst (v := nI 1) hx hb dX9_page_34 (by decide) ?_
    refine jI (va_runV (As := [.int (nI 1)]) (rest := []) ⟨hx, hb, hml, hown, hts⟩ (c_X9_refuse l G ci cz cl q H.size (nI 1) (nI 0) n num den mag fac who fnd pc ic a sta lb la fo dee kc fl wd df ag mk sc nu co fi ad it sp stk ) (cwV 1 hts gX9_page_X9_refuse rfl rfl rfl (by decide +kernel) ⟨(Nat.le_of_ble_eq_true rfl), (Nat.le_of_ble_eq_true rfl)⟩) (pV (wc := [oM q (nI 0) n num den mag fac who fnd pc ic a sta lb la fo dee kc, aI ci (q 1) 600 fl, aI ci (q 2) 1024 wd, aI cz (q 3) 8 df, aI cz (q 4) 8 ag, aI ci (q 5) 8 mk, aI ci (q 6) 8 sc, aI ci (q 7) 12 nu, aI ci (q 8) 12 co, aI ci (q 9) 12 fi, aI ci (q 10) 12 ad, aI ci (q 11) 1800 it, aI ci (q 12) 8 sp, aI ci (q 13) 160 stk]) ok hK hP hD hS hA hO [0, 1, 2, 3, 4, 5, 6, 7, 8, 9, 10, 11, 12, 13] rfl (by decide) 0 rfl rfl) rfl rfl hl.1 rfl (lv_room (Nat.le_of_ble_eq_true rfl)) dX9_page_35 ⟨(Nat.le_of_ble_eq_true rfl), (Nat.le_of_ble_eq_true rfl)⟩) (wr := []) hP hD hS hA [0, 1, 2, 3, 4, 5, 6, 7, 8, 9, 10, 11, 12, 13] [] rfl rfl (by decide) (by decide) (fun r_2 u H locs hw_2 hP hD hS => ?_)
    try dsimp only at hw_2
    subst r_2
    have hP : va_P G vwCl [oM q (nI 1) n num den mag fac who fnd pc ic a sta lb la fo dee kc, aI ci (q 1) 600 fl, aI ci (q 2) 1024 wd, aI cz (q 3) 8 df, aI cz (q 4) 8 ag, aI ci (q 5) 8 mk, aI ci (q 6) 8 sc, aI ci (q 7) 12 nu, aI ci (q 8) 12 co, aI ci (q 9) 12 fi, aI ci (q 10) 12 ad, aI ci (q 11) 1800 it, aI ci (q 12) 8 sp, aI ci (q 13) 160 stk] H := hP
    have hD : va_D A [oM q (nI 1) n num den mag fac who fnd pc ic a sta lb la fo dee kc, aI ci (q 1) 600 fl, aI ci (q 2) 1024 wd, aI cz (q 3) 8 df, aI cz (q 4) 8 ag, aI ci (q 5) 8 mk, aI ci (q 6) 8 sc, aI ci (q 7) 12 nu, aI ci (q 8) 12 co, aI ci (q 9) 12 fi, aI ci (q 10) 12 ad, aI ci (q 11) 1800 it, aI ci (q 12) 8 sp, aI ci (q 13) 160 stk] := hD
    exact rI (v := nI 0) hx hb hr hlocks rfl hK hP hD hS [0, 1, 2, 3, 4, 5, 6, 7, 8, 9, 10, 11, 12, 13] (nI 1) rfl (by decide) trivial dX9_page_38
  · skip
    refine lv_iload_n hx hb dX9_page_12 rfl (lv_at hl 1 rfl) ?_
    refine lv_if_lt (tgt := 33) hx hb dX9_page_13 (by decide) (fun c_3 => ?_) (fun c_3 => ?_)
    · skip
      have z_3 := (i_lt x (nI 0)).mp c_3
      rw [nI_toInt (n := 0) (by omega)] at z_3
      refine lv_aload_n hx hb dX9_page_33 rfl (lv_at hl 0 rfl) ?_
      refine lv_iconst (v := nI 1) hx hb dX9_page_34 (by decide) ?_
      refine jI (va_runV (As := [.int (nI 1)]) (rest := []) ⟨hx, hb, hml, hown, hts⟩ (c_X9_refuse l G ci cz cl q H.size (nI 1) (nI 0) n num den mag fac who fnd pc ic a sta lb la fo dee kc fl wd df ag mk sc nu co fi ad it sp stk ) (cwV 1 hts gX9_page_X9_refuse rfl rfl rfl (by decide +kernel) ⟨(Nat.le_of_ble_eq_true rfl), (Nat.le_of_ble_eq_true rfl)⟩) (pV (wc := [oM q (nI 0) n num den mag fac who fnd pc ic a sta lb la fo dee kc, aI ci (q 1) 600 fl, aI ci (q 2) 1024 wd, aI cz (q 3) 8 df, aI cz (q 4) 8 ag, aI ci (q 5) 8 mk, aI ci (q 6) 8 sc, aI ci (q 7) 12 nu, aI ci (q 8) 12 co, aI ci (q 9) 12 fi, aI ci (q 10) 12 ad, aI ci (q 11) 1800 it, aI ci (q 12) 8 sp, aI ci (q 13) 160 stk]) ok hK hP hD hS hA hO [0, 1, 2, 3, 4, 5, 6, 7, 8, 9, 10, 11, 12, 13] rfl (by decide) 0 rfl rfl) rfl rfl hl.1 rfl (lv_room (Nat.le_of_ble_eq_true rfl)) dX9_page_35 ⟨(Nat.le_of_ble_eq_true rfl), (Nat.le_of_ble_eq_true rfl)⟩) (wr := []) hP hD hS hA [0, 1, 2, 3, 4, 5, 6, 7, 8, 9, 10, 11, 12, 13] [] rfl rfl (by decide) (by decide) (fun r_4 u H locs hw_4 hP hD hS => ?_)
      try dsimp only at hw_4
      subst r_4
      have hP : va_P G vwCl [oM q (nI 1) n num den mag fac who fnd pc ic a sta lb la fo dee kc, aI ci (q 1) 600 fl, aI ci (q 2) 1024 wd, aI cz (q 3) 8 df, aI cz (q 4) 8 ag, aI ci (q 5) 8 mk, aI ci (q 6) 8 sc, aI ci (q 7) 12 nu, aI ci (q 8) 12 co, aI ci (q 9) 12 fi, aI ci (q 10) 12 ad, aI ci (q 11) 1800 it, aI ci (q 12) 8 sp, aI ci (q 13) 160 stk] H := hP
      have hD : va_D A [oM q (nI 1) n num den mag fac who fnd pc ic a sta lb la fo dee kc, aI ci (q 1) 600 fl, aI ci (q 2) 1024 wd, aI cz (q 3) 8 df, aI cz (q 4) 8 ag, aI ci (q 5) 8 mk, aI ci (q 6) 8 sc, aI ci (q 7) 12 nu, aI ci (q 8) 12 co, aI ci (q 9) 12 fi, aI ci (q 10) 12 ad, aI ci (q 11) 1800 it, aI ci (q 12) 8 sp, aI ci (q 13) 160 stk] := hD
      exact rI (v := nI 0) hx hb hr hlocks rfl hK hP hD hS [0, 1, 2, 3, 4, 5, 6, 7, 8, 9, 10, 11, 12, 13] (nI 1) rfl (by decide) trivial dX9_page_38
    · skip
      have z_3 := mt (i_lt x (nI 0)).mpr c_3
      rw [nI_toInt (n := 0) (by omega)] at z_3
      refine lv_iload_n hx hb dX9_page_16 rfl (lv_at hl 1 rfl) ?_
      refine lv_aload_n hx hb dX9_page_17 rfl (lv_at hl 0 rfl) ?_
      refine va_get (D := G) (ci := 8) (v := .int (nI pc)) (C := RX9) (T := TX9) (N := 30) hx hb hts hi_X9 hown hK hP 0 rfl rfl 14 (by decide) f_95 (fun _ h9 => h9) rfl dX9_page_18 ?_
      refine lv_icmp_ge (tgt := 33) hx hb dX9_page_21 (by decide) (fun c_5 => ?_) (fun c_5 => ?_)
      · skip
        have z_5 := (i_le (nI pc) x).mp c_5
        rw [nI_toInt (n := pc) (by omega)] at z_5
        refine lv_aload_n hx hb dX9_page_33 rfl (lv_at hl 0 rfl) ?_
        refine lv_iconst (v := nI 1) hx hb dX9_page_34 (by decide) ?_
        refine jI (va_runV (As := [.int (nI 1)]) (rest := []) ⟨hx, hb, hml, hown, hts⟩ (c_X9_refuse l G ci cz cl q H.size (nI 1) (nI 0) n num den mag fac who fnd pc ic a sta lb la fo dee kc fl wd df ag mk sc nu co fi ad it sp stk ) (cwV 1 hts gX9_page_X9_refuse rfl rfl rfl (by decide +kernel) ⟨(Nat.le_of_ble_eq_true rfl), (Nat.le_of_ble_eq_true rfl)⟩) (pV (wc := [oM q (nI 0) n num den mag fac who fnd pc ic a sta lb la fo dee kc, aI ci (q 1) 600 fl, aI ci (q 2) 1024 wd, aI cz (q 3) 8 df, aI cz (q 4) 8 ag, aI ci (q 5) 8 mk, aI ci (q 6) 8 sc, aI ci (q 7) 12 nu, aI ci (q 8) 12 co, aI ci (q 9) 12 fi, aI ci (q 10) 12 ad, aI ci (q 11) 1800 it, aI ci (q 12) 8 sp, aI ci (q 13) 160 stk]) ok hK hP hD hS hA hO [0, 1, 2, 3, 4, 5, 6, 7, 8, 9, 10, 11, 12, 13] rfl (by decide) 0 rfl rfl) rfl rfl hl.1 rfl (lv_room (Nat.le_of_ble_eq_true rfl)) dX9_page_35 ⟨(Nat.le_of_ble_eq_true rfl), (Nat.le_of_ble_eq_true rfl)⟩) (wr := []) hP hD hS hA [0, 1, 2, 3, 4, 5, 6, 7, 8, 9, 10, 11, 12, 13] [] rfl rfl (by decide) (by decide) (fun r_6 u H locs hw_6 hP hD hS => ?_)
        try dsimp only at hw_6
        subst r_6
        have hP : va_P G vwCl [oM q (nI 1) n num den mag fac who fnd pc ic a sta lb la fo dee kc, aI ci (q 1) 600 fl, aI ci (q 2) 1024 wd, aI cz (q 3) 8 df, aI cz (q 4) 8 ag, aI ci (q 5) 8 mk, aI ci (q 6) 8 sc, aI ci (q 7) 12 nu, aI ci (q 8) 12 co, aI ci (q 9) 12 fi, aI ci (q 10) 12 ad, aI ci (q 11) 1800 it, aI ci (q 12) 8 sp, aI ci (q 13) 160 stk] H := hP
        have hD : va_D A [oM q (nI 1) n num den mag fac who fnd pc ic a sta lb la fo dee kc, aI ci (q 1) 600 fl, aI ci (q 2) 1024 wd, aI cz (q 3) 8 df, aI cz (q 4) 8 ag, aI ci (q 5) 8 mk, aI ci (q 6) 8 sc, aI ci (q 7) 12 nu, aI ci (q 8) 12 co, aI ci (q 9) 12 fi, aI ci (q 10) 12 ad, aI ci (q 11) 1800 it, aI ci (q 12) 8 sp, aI ci (q 13) 160 stk] := hD
        exact rI (v := nI 0) hx hb hr hlocks rfl hK hP hD hS [0, 1, 2, 3, 4, 5, 6, 7, 8, 9, 10, 11, 12, 13] (nI 1) rfl (by decide) trivial dX9_page_38
      · skip
        have z_5 := mt (i_le (nI pc) x).mpr c_5
        rw [nI_toInt (n := pc) (by omega)] at z_5
        refine lv_iload_n hx hb dX9_page_24 rfl (lv_at hl 2 rfl) ?_
        refine lv_if_lt (tgt := 33) hx hb dX9_page_25 (by decide) (fun c_7 => ?_) (fun c_7 => ?_)
        · skip
          have z_7 := (i_lt y (nI 0)).mp c_7
          rw [nI_toInt (n := 0) (by omega)] at z_7
          refine lv_aload_n hx hb dX9_page_33 rfl (lv_at hl 0 rfl) ?_
          refine lv_iconst (v := nI 1) hx hb dX9_page_34 (by decide) ?_
          refine jI (va_runV (As := [.int (nI 1)]) (rest := []) ⟨hx, hb, hml, hown, hts⟩ (c_X9_refuse l G ci cz cl q H.size (nI 1) (nI 0) n num den mag fac who fnd pc ic a sta lb la fo dee kc fl wd df ag mk sc nu co fi ad it sp stk ) (cwV 1 hts gX9_page_X9_refuse rfl rfl rfl (by decide +kernel) ⟨(Nat.le_of_ble_eq_true rfl), (Nat.le_of_ble_eq_true rfl)⟩) (pV (wc := [oM q (nI 0) n num den mag fac who fnd pc ic a sta lb la fo dee kc, aI ci (q 1) 600 fl, aI ci (q 2) 1024 wd, aI cz (q 3) 8 df, aI cz (q 4) 8 ag, aI ci (q 5) 8 mk, aI ci (q 6) 8 sc, aI ci (q 7) 12 nu, aI ci (q 8) 12 co, aI ci (q 9) 12 fi, aI ci (q 10) 12 ad, aI ci (q 11) 1800 it, aI ci (q 12) 8 sp, aI ci (q 13) 160 stk]) ok hK hP hD hS hA hO [0, 1, 2, 3, 4, 5, 6, 7, 8, 9, 10, 11, 12, 13] rfl (by decide) 0 rfl rfl) rfl rfl hl.1 rfl (lv_room (Nat.le_of_ble_eq_true rfl)) dX9_page_35 ⟨(Nat.le_of_ble_eq_true rfl), (Nat.le_of_ble_eq_true rfl)⟩) (wr := []) hP hD hS hA [0, 1, 2, 3, 4, 5, 6, 7, 8, 9, 10, 11, 12, 13] [] rfl rfl (by decide) (by decide) (fun r_8 u H locs hw_8 hP hD hS => ?_)
          try dsimp only at hw_8
          subst r_8
          have hP : va_P G vwCl [oM q (nI 1) n num den mag fac who fnd pc ic a sta lb la fo dee kc, aI ci (q 1) 600 fl, aI ci (q 2) 1024 wd, aI cz (q 3) 8 df, aI cz (q 4) 8 ag, aI ci (q 5) 8 mk, aI ci (q 6) 8 sc, aI ci (q 7) 12 nu, aI ci (q 8) 12 co, aI ci (q 9) 12 fi, aI ci (q 10) 12 ad, aI ci (q 11) 1800 it, aI ci (q 12) 8 sp, aI ci (q 13) 160 stk] H := hP
          have hD : va_D A [oM q (nI 1) n num den mag fac who fnd pc ic a sta lb la fo dee kc, aI ci (q 1) 600 fl, aI ci (q 2) 1024 wd, aI cz (q 3) 8 df, aI cz (q 4) 8 ag, aI ci (q 5) 8 mk, aI ci (q 6) 8 sc, aI ci (q 7) 12 nu, aI ci (q 8) 12 co, aI ci (q 9) 12 fi, aI ci (q 10) 12 ad, aI ci (q 11) 1800 it, aI ci (q 12) 8 sp, aI ci (q 13) 160 stk] := hD
          exact rI (v := nI 0) hx hb hr hlocks rfl hK hP hD hS [0, 1, 2, 3, 4, 5, 6, 7, 8, 9, 10, 11, 12, 13] (nI 1) rfl (by decide) trivial dX9_page_38
        · skip
          have z_7 := mt (i_lt y (nI 0)).mpr c_7
          rw [nI_toInt (n := 0) (by omega)] at z_7
          refine lv_iload_n hx hb dX9_page_28 rfl (lv_at hl 2 rfl) ?_
          refine lv_iconst (v := nI 2) hx hb dX9_page_29 (by decide) ?_
          refine lv_icmp_le (tgt := 39) hx hb dX9_page_30 (by decide) (fun c_9 => ?_) (fun c_9 => ?_)
          · skip
            have z_9 := (i_le y (nI 2)).mp c_9
            rw [nI_toInt (n := 2) (by omega)] at z_9
            refine lv_iload_n hx hb dX9_page_39 rfl (lv_at hl 2 rfl) ?_
            refine lv_if_ne (tgt := 52) hx hb dX9_page_40 (by decide) (fun c_10 => ?_) (fun c_10 => ?_)
            · skip
              refine lv_iload_n hx hb dX9_page_52 rfl (lv_at hl 2 rfl) ?_
              refine lv_iconst (v := nI 1) hx hb dX9_page_53 (by decide) ?_
              refine lv_icmp_ne (tgt := 66) hx hb dX9_page_54 (by decide) (fun c_11 => ?_) (fun c_11 => ?_)
              · skip
                refine lv_aload_n hx hb dX9_page_66 rfl (lv_at hl 0 rfl) ?_
                refine va_get (D := G) (ci := 8) (v := .ref (q 10)) (C := RX9) (T := TX9) (N := 30) hx hb hts hi_X9 hown hK hP 0 rfl rfl 18 (by decide) f_42 (fun _ h9 => h9) rfl dX9_page_67 ?_
                refine lv_iload_n hx hb dX9_page_70 rfl (lv_at hl 1 rfl) ?_
                refine va_iald hx hb hK hP 10 0 rfl rfl (vp_in_iff.mpr ⟨by omega, by omega⟩) dX9_page_71 ?_
                exact rI (v := ad (x).toNatClampNeg) hx hb hr hlocks rfl hK hP hD hS [0, 1, 2, 3, 4, 5, 6, 7, 8, 9, 10, 11, 12, 13] (nI 0) rfl (by decide) trivial dX9_page_72
              · skip
                refine lv_aload_n hx hb dX9_page_57 rfl (lv_at hl 0 rfl) ?_
                refine va_get (D := G) (ci := 8) (v := .ref (q 8)) (C := RX9) (T := TX9) (N := 30) hx hb hts hi_X9 hown hK hP 0 rfl rfl 16 (by decide) f_36 (fun _ h9 => h9) rfl dX9_page_58 ?_
                refine lv_iload_n hx hb dX9_page_61 rfl (lv_at hl 1 rfl) ?_
                refine va_iald hx hb hK hP 8 0 rfl rfl (vp_in_iff.mpr ⟨by omega, by omega⟩) dX9_page_62 ?_
                refine lv_goto (tgt := 72) hx hb dX9_page_63 (by decide) ?_
                exact rI (v := co (x).toNatClampNeg) hx hb hr hlocks rfl hK hP hD hS [0, 1, 2, 3, 4, 5, 6, 7, 8, 9, 10, 11, 12, 13] (nI 0) rfl (by decide) trivial dX9_page_72
            · skip
              refine lv_aload_n hx hb dX9_page_43 rfl (lv_at hl 0 rfl) ?_
              refine va_get (D := G) (ci := 8) (v := .ref (q 7)) (C := RX9) (T := TX9) (N := 30) hx hb hts hi_X9 hown hK hP 0 rfl rfl 15 (by decide) f_33 (fun _ h9 => h9) rfl dX9_page_44 ?_
              refine lv_iload_n hx hb dX9_page_47 rfl (lv_at hl 1 rfl) ?_
              refine va_iald hx hb hK hP 7 0 rfl rfl (vp_in_iff.mpr ⟨by omega, by omega⟩) dX9_page_48 ?_
              refine lv_goto (tgt := 72) hx hb dX9_page_49 (by decide) ?_
              exact rI (v := nu (x).toNatClampNeg) hx hb hr hlocks rfl hK hP hD hS [0, 1, 2, 3, 4, 5, 6, 7, 8, 9, 10, 11, 12, 13] (nI 0) rfl (by decide) trivial dX9_page_72
          · skip
            have z_9 := mt (i_le y (nI 2)).mpr c_9
            rw [nI_toInt (n := 2) (by omega)] at z_9
            refine lv_aload_n hx hb dX9_page_33 rfl (lv_at hl 0 rfl) ?_
            refine lv_iconst (v := nI 1) hx hb dX9_page_34 (by decide) ?_
            refine jI (va_runV (As := [.int (nI 1)]) (rest := []) ⟨hx, hb, hml, hown, hts⟩ (c_X9_refuse l G ci cz cl q H.size (nI 1) (nI 0) n num den mag fac who fnd pc ic a sta lb la fo dee kc fl wd df ag mk sc nu co fi ad it sp stk ) (cwV 1 hts gX9_page_X9_refuse rfl rfl rfl (by decide +kernel) ⟨(Nat.le_of_ble_eq_true rfl), (Nat.le_of_ble_eq_true rfl)⟩) (pV (wc := [oM q (nI 0) n num den mag fac who fnd pc ic a sta lb la fo dee kc, aI ci (q 1) 600 fl, aI ci (q 2) 1024 wd, aI cz (q 3) 8 df, aI cz (q 4) 8 ag, aI ci (q 5) 8 mk, aI ci (q 6) 8 sc, aI ci (q 7) 12 nu, aI ci (q 8) 12 co, aI ci (q 9) 12 fi, aI ci (q 10) 12 ad, aI ci (q 11) 1800 it, aI ci (q 12) 8 sp, aI ci (q 13) 160 stk]) ok hK hP hD hS hA hO [0, 1, 2, 3, 4, 5, 6, 7, 8, 9, 10, 11, 12, 13] rfl (by decide) 0 rfl rfl) rfl rfl hl.1 rfl (lv_room (Nat.le_of_ble_eq_true rfl)) dX9_page_35 ⟨(Nat.le_of_ble_eq_true rfl), (Nat.le_of_ble_eq_true rfl)⟩) (wr := []) hP hD hS hA [0, 1, 2, 3, 4, 5, 6, 7, 8, 9, 10, 11, 12, 13] [] rfl rfl (by decide) (by decide) (fun r_12 u H locs hw_12 hP hD hS => ?_)
            try dsimp only at hw_12
            subst r_12
            have hP : va_P G vwCl [oM q (nI 1) n num den mag fac who fnd pc ic a sta lb la fo dee kc, aI ci (q 1) 600 fl, aI ci (q 2) 1024 wd, aI cz (q 3) 8 df, aI cz (q 4) 8 ag, aI ci (q 5) 8 mk, aI ci (q 6) 8 sc, aI ci (q 7) 12 nu, aI ci (q 8) 12 co, aI ci (q 9) 12 fi, aI ci (q 10) 12 ad, aI ci (q 11) 1800 it, aI ci (q 12) 8 sp, aI ci (q 13) 160 stk] H := hP
            have hD : va_D A [oM q (nI 1) n num den mag fac who fnd pc ic a sta lb la fo dee kc, aI ci (q 1) 600 fl, aI ci (q 2) 1024 wd, aI cz (q 3) 8 df, aI cz (q 4) 8 ag, aI ci (q 5) 8 mk, aI ci (q 6) 8 sc, aI ci (q 7) 12 nu, aI ci (q 8) 12 co, aI ci (q 9) 12 fi, aI ci (q 10) 12 ad, aI ci (q 11) 1800 it, aI ci (q 12) 8 sp, aI ci (q 13) 160 stk] := hD
            exact rI (v := nI 0) hx hb hr hlocks rfl hK hP hD hS [0, 1, 2, 3, 4, 5, 6, 7, 8, 9, 10, 11, 12, 13] (nI 1) rfl (by decide) trivial dX9_page_38
set_option maxHeartbeats 4000000 in
set_option maxRecDepth 100000 in
theorem c_X9_item (l : Launch) (G : va_G) (ci cz cl : ClassId) (q : Nat → Nat) (sz : Nat) (x : Int32) (y : Int32) (z : Int32) (ref : Int32) (n : Nat) (num : Int32) (den : Int32) (mag : Int32) (fac : UInt64) (who : Int32) (fnd : Int32) (pc : Nat) (ic : Nat) (a : Nat) (sta : Nat) (lb : Int32) (la : Int32) (fo : Int32) (dee : Int32) (kc : Nat) (fl : Nat → Int32) (wd : Nat → Int32) (df : Nat → Int32) (ag : Nat → Int32) (mk : Nat → Int32) (sc : Nat → Int32) (nu : Nat → Int32) (co : Nat → Int32) (fi : Nat → Int32) (ad : Nat → Int32) (it : Nat → Int32) (sp : Nat → Int32) (stk : Nat → Int32) (hpc : pc ≤ 12) (hic : ic ≤ 200) (hPI : PI pc ic fi co) : CtI l yX9_item wsX9_item ({ frames := 1, cells := 0, slots := 0, locals := 21 }) G (TY ci cz cl) O0 [.ref (q 0), .int x, .int y, .int z] [oM q ref n num den mag fac who fnd pc ic a sta lb la fo dee kc, aI ci (q 1) 600 fl, aI ci (q 2) 1024 wd, aI cz (q 3) 8 df, aI cz (q 4) 8 ag, aI ci (q 5) 8 mk, aI ci (q 6) 8 sc, aI ci (q 7) 12 nu, aI ci (q 8) 12 co, aI ci (q 9) 12 fi, aI ci (q 10) 12 ad, aI ci (q 11) 1800 it, aI ci (q 12) 8 sp, aI ci (q 13) 160 stk] sz (fun (r : Int32) (u : Int32) => True) (fun u : Int32 => [oM q u n num den mag fac who fnd pc ic a sta lb la fo dee kc, aI ci (q 1) 600 fl, aI ci (q 2) 1024 wd, aI cz (q 3) 8 df, aI cz (q 4) 8 ag, aI ci (q 5) 8 mk, aI ci (q 6) 8 sc, aI ci (q 7) 12 nu, aI ci (q 8) 12 co, aI ci (q 9) 12 fi, aI ci (q 10) 12 ad, aI ci (q 11) 1800 it, aI ci (q 12) 8 sp, aI ci (q 13) 160 stk]) 0 0 := by
  refine Met.ofW (cc := cX9_item) (maxL := 4) (ret := (some .int)) (by decide) rfl ?_
  intro p e s m args below meth c s₁ B hml hv
  obtain ⟨rfl, ⟨hsz, hP, hK, hD0⟩, hO⟩ := hv
  have hx := B.exec
  have hb := B.bytes
  have hr := B.returns
  have hts := atoms_spec (ws := wsX9_item) B.pre
  have hown : s.vm.findClass RX9 = some m.cls := findClass_of_methodNamed B.named
  have hlocks := B.notSynchronized
  subst hsz
  have hD := hD0.self (sz := s.heap.size)
  generalize hAe : va_A [oM q ref n num den mag fac who fnd pc ic a sta lb la fo dee kc, aI ci (q 1) 600 fl, aI ci (q 2) 1024 wd, aI cz (q 3) 8 df, aI cz (q 4) 8 ag, aI ci (q 5) 8 mk, aI ci (q 6) 8 sc, aI ci (q 7) 12 nu, aI ci (q 8) 12 co, aI ci (q 9) 12 fi, aI ci (q 10) 12 ad, aI ci (q 11) 1800 it, aI ci (q 12) 8 sp, aI ci (q 13) 160 stk] s.heap.size = A at hD hO ⊢
  have hA : ∀ q : Nat, s.heap.size ≤ q → A q := fun q h => by rw [← hAe]; exact Or.inr h
  have ok := ok0
  refine startH (A := A) (fun H locs hP hS => ?_) hP
  have hi_X9 := (by decide +kernel : ∀ w ∈ wsX90, w ∈ wsX9_item)
  have f_54 := hts (.fieldLink RX9 54 "PageReaderModel" "refusal" "I") (by decide +kernel)
  have f_191 := hts (.fieldLink RX9 191 "PageReaderModel" "whole" "Z") (by decide +kernel)
  have f_95 := hts (.fieldLink RX9 95 "PageReaderModel" "pages" "I") (by decide +kernel)
  have f_36 := hts (.fieldLink RX9 36 "PageReaderModel" "counts" "[I") (by decide +kernel)
  have f_45 := hts (.fieldLink RX9 45 "PageReaderModel" "item" "[I") (by decide +kernel)
  have f_39 := hts (.fieldLink RX9 39 "PageReaderModel" "firsts" "[I") (by decide +kernel)
  have hl := lv_entry ([.ref (q 0), .int x, .int y, .int z]) (n := 4) (Nat.le_of_ble_eq_true rfl)
  rw [lg_entry_eq]
  generalize (lg_sl ([.ref (q 0), .int x, .int y, .int z]) ++ List.replicate (4 - (lg_sl ([.ref (q 0), .int x, .int y, .int z])).length) Slot.unset).toArray = ls at hl ⊢
  have hl : lv_has ls 4 [(0, .ref (q 0)), (1, .int x), (2, .int y), (3, .int z)] := hl
  refine lv_aload_n hx hb dX9_item_0 rfl (lv_at hl 0 rfl) ?_
  refine lv_iconst (v := nI 0) hx hb dX9_item_1 (by decide) ?_
  refine va_put (D := G) (ci := 8) (v := .int (nI 0)) (ty := .int) (C := RX9) (T := TX9) (N := 30) hx hb hts hi_X9 tyX9 tyX9_ok nmX9 hown hK hP hD hS 0 rfl rfl 0 (by decide) f_54 (fun _ h9 => h9) rfl (by decide +kernel) rfl rfl (Nat.le_of_ble_eq_true rfl) dX9_item_2 (fun H locs hP hD hS => ?_)
  have hP : va_P G vwCl [oM q (nI 0) n num den mag fac who fnd pc ic a sta lb la fo dee kc, aI ci (q 1) 600 fl, aI ci (q 2) 1024 wd, aI cz (q 3) 8 df, aI cz (q 4) 8 ag, aI ci (q 5) 8 mk, aI ci (q 6) 8 sc, aI ci (q 7) 12 nu, aI ci (q 8) 12 co, aI ci (q 9) 12 fi, aI ci (q 10) 12 ad, aI ci (q 11) 1800 it, aI ci (q 12) 8 sp, aI ci (q 13) 160 stk] H := hP
  have hD : va_D A [oM q (nI 0) n num den mag fac who fnd pc ic a sta lb la fo dee kc, aI ci (q 1) 600 fl, aI ci (q 2) 1024 wd, aI cz (q 3) 8 df, aI cz (q 4) 8 ag, aI ci (q 5) 8 mk, aI ci (q 6) 8 sc, aI ci (q 7) 12 nu, aI ci (q 8) 12 co, aI ci (q 9) 12 fi, aI ci (q 10) 12 ad, aI ci (q 11) 1800 it, aI ci (q 12) 8 sp, aI ci (q 13) 160 stk] := hD
  refine lv_aload_n hx hb dX9_item_5 rfl (lv_at hl 0 rfl) ?_
  refine va_get (D := G) (ci := 8) (v := .int who) (C := RX9) (T := TX9) (N := 30) hx hb hts hi_X9 hown hK hP 0 rfl rfl 12 (by decide) f_191 (fun _ h9 => h9) rfl dX9_item_6 ?_
  refine lv_if_eq (tgt := 48) hx hb dX9_item_9 (by decide) (fun c_1 => ?_) (fun c_1 => ?_)
  · skip
    refine lv_aload_n hx hb dX9_item_48 rfl (lv_at hl 0 rfl) ?_
    refine lv_iconst (v := nI 1) hx hb dX9_item_49 (by decide) ?_
    refine jI (va_runV (As := [.int (nI 1)]) (rest := []) ⟨hx, hb, hml, hown, hts⟩ (c_X9_refuse l G ci cz cl q H.size (nI 1) (nI 0) n num den mag fac who fnd pc ic a sta lb la fo dee kc fl wd df ag mk sc nu co fi ad it sp stk ) (cwV 1 hts gX9_item_X9_refuse rfl rfl rfl (by decide +kernel) ⟨(Nat.le_of_ble_eq_true rfl), (Nat.le_of_ble_eq_true rfl)⟩) (pV (wc := [oM q (nI 0) n num den mag fac who fnd pc ic a sta lb la fo dee kc, aI ci (q 1) 600 fl, aI ci (q 2) 1024 wd, aI cz (q 3) 8 df, aI cz (q 4) 8 ag, aI ci (q 5) 8 mk, aI ci (q 6) 8 sc, aI ci (q 7) 12 nu, aI ci (q 8) 12 co, aI ci (q 9) 12 fi, aI ci (q 10) 12 ad, aI ci (q 11) 1800 it, aI ci (q 12) 8 sp, aI ci (q 13) 160 stk]) ok hK hP hD hS hA hO [0, 1, 2, 3, 4, 5, 6, 7, 8, 9, 10, 11, 12, 13] rfl (by decide) 0 rfl rfl) rfl rfl hl.1 rfl (lv_room (Nat.le_of_ble_eq_true rfl)) dX9_item_50 ⟨(Nat.le_of_ble_eq_true rfl), (Nat.le_of_ble_eq_true rfl)⟩) (wr := []) hP hD hS hA [0, 1, 2, 3, 4, 5, 6, 7, 8, 9, 10, 11, 12, 13] [] rfl rfl (by decide) (by decide) (fun r_2 u H locs hw_2 hP hD hS => ?_)
    try dsimp only at hw_2
    subst r_2
    have hP : va_P G vwCl [oM q (nI 1) n num den mag fac who fnd pc ic a sta lb la fo dee kc, aI ci (q 1) 600 fl, aI ci (q 2) 1024 wd, aI cz (q 3) 8 df, aI cz (q 4) 8 ag, aI ci (q 5) 8 mk, aI ci (q 6) 8 sc, aI ci (q 7) 12 nu, aI ci (q 8) 12 co, aI ci (q 9) 12 fi, aI ci (q 10) 12 ad, aI ci (q 11) 1800 it, aI ci (q 12) 8 sp, aI ci (q 13) 160 stk] H := hP
    have hD : va_D A [oM q (nI 1) n num den mag fac who fnd pc ic a sta lb la fo dee kc, aI ci (q 1) 600 fl, aI ci (q 2) 1024 wd, aI cz (q 3) 8 df, aI cz (q 4) 8 ag, aI ci (q 5) 8 mk, aI ci (q 6) 8 sc, aI ci (q 7) 12 nu, aI ci (q 8) 12 co, aI ci (q 9) 12 fi, aI ci (q 10) 12 ad, aI ci (q 11) 1800 it, aI ci (q 12) 8 sp, aI ci (q 13) 160 stk] := hD
    exact rI (v := nI 0) hx hb hr hlocks rfl hK hP hD hS [0, 1, 2, 3, 4, 5, 6, 7, 8, 9, 10, 11, 12, 13] (nI 1) rfl (by decide) trivial dX9_item_53
  · skip
    refine lv_iload_n hx hb dX9_item_12 rfl (lv_at hl 1 rfl) ?_
    refine lv_if_lt (tgt := 48) hx hb dX9_item_13 (by decide) (fun c_3 => ?_) (fun c_3 => ?_)
    · skip
      have z_3 := (i_lt x (nI 0)).mp c_3
      rw [nI_toInt (n := 0) (by omega)] at z_3
      refine lv_aload_n hx hb dX9_item_48 rfl (lv_at hl 0 rfl) ?_
      refine lv_iconst (v := nI 1) hx hb dX9_item_49 (by decide) ?_
      refine jI (va_runV (As := [.int (nI 1)]) (rest := []) ⟨hx, hb, hml, hown, hts⟩ (c_X9_refuse l G ci cz cl q H.size (nI 1) (nI 0) n num den mag fac who fnd pc ic a sta lb la fo dee kc fl wd df ag mk sc nu co fi ad it sp stk ) (cwV 1 hts gX9_item_X9_refuse rfl rfl rfl (by decide +kernel) ⟨(Nat.le_of_ble_eq_true rfl), (Nat.le_of_ble_eq_true rfl)⟩) (pV (wc := [oM q (nI 0) n num den mag fac who fnd pc ic a sta lb la fo dee kc, aI ci (q 1) 600 fl, aI ci (q 2) 1024 wd, aI cz (q 3) 8 df, aI cz (q 4) 8 ag, aI ci (q 5) 8 mk, aI ci (q 6) 8 sc, aI ci (q 7) 12 nu, aI ci (q 8) 12 co, aI ci (q 9) 12 fi, aI ci (q 10) 12 ad, aI ci (q 11) 1800 it, aI ci (q 12) 8 sp, aI ci (q 13) 160 stk]) ok hK hP hD hS hA hO [0, 1, 2, 3, 4, 5, 6, 7, 8, 9, 10, 11, 12, 13] rfl (by decide) 0 rfl rfl) rfl rfl hl.1 rfl (lv_room (Nat.le_of_ble_eq_true rfl)) dX9_item_50 ⟨(Nat.le_of_ble_eq_true rfl), (Nat.le_of_ble_eq_true rfl)⟩) (wr := []) hP hD hS hA [0, 1, 2, 3, 4, 5, 6, 7, 8, 9, 10, 11, 12, 13] [] rfl rfl (by decide) (by decide) (fun r_4 u H locs hw_4 hP hD hS => ?_)
      try dsimp only at hw_4
      subst r_4
      have hP : va_P G vwCl [oM q (nI 1) n num den mag fac who fnd pc ic a sta lb la fo dee kc, aI ci (q 1) 600 fl, aI ci (q 2) 1024 wd, aI cz (q 3) 8 df, aI cz (q 4) 8 ag, aI ci (q 5) 8 mk, aI ci (q 6) 8 sc, aI ci (q 7) 12 nu, aI ci (q 8) 12 co, aI ci (q 9) 12 fi, aI ci (q 10) 12 ad, aI ci (q 11) 1800 it, aI ci (q 12) 8 sp, aI ci (q 13) 160 stk] H := hP
      have hD : va_D A [oM q (nI 1) n num den mag fac who fnd pc ic a sta lb la fo dee kc, aI ci (q 1) 600 fl, aI ci (q 2) 1024 wd, aI cz (q 3) 8 df, aI cz (q 4) 8 ag, aI ci (q 5) 8 mk, aI ci (q 6) 8 sc, aI ci (q 7) 12 nu, aI ci (q 8) 12 co, aI ci (q 9) 12 fi, aI ci (q 10) 12 ad, aI ci (q 11) 1800 it, aI ci (q 12) 8 sp, aI ci (q 13) 160 stk] := hD
      exact rI (v := nI 0) hx hb hr hlocks rfl hK hP hD hS [0, 1, 2, 3, 4, 5, 6, 7, 8, 9, 10, 11, 12, 13] (nI 1) rfl (by decide) trivial dX9_item_53
    · skip
      have z_3 := mt (i_lt x (nI 0)).mpr c_3
      rw [nI_toInt (n := 0) (by omega)] at z_3
      refine lv_iload_n hx hb dX9_item_16 rfl (lv_at hl 1 rfl) ?_
      refine lv_aload_n hx hb dX9_item_17 rfl (lv_at hl 0 rfl) ?_
      refine va_get (D := G) (ci := 8) (v := .int (nI pc)) (C := RX9) (T := TX9) (N := 30) hx hb hts hi_X9 hown hK hP 0 rfl rfl 14 (by decide) f_95 (fun _ h9 => h9) rfl dX9_item_18 ?_
      refine lv_icmp_ge (tgt := 48) hx hb dX9_item_21 (by decide) (fun c_5 => ?_) (fun c_5 => ?_)
      · skip
        have z_5 := (i_le (nI pc) x).mp c_5
        rw [nI_toInt (n := pc) (by omega)] at z_5
        refine lv_aload_n hx hb dX9_item_48 rfl (lv_at hl 0 rfl) ?_
        refine lv_iconst (v := nI 1) hx hb dX9_item_49 (by decide) ?_
        refine jI (va_runV (As := [.int (nI 1)]) (rest := []) ⟨hx, hb, hml, hown, hts⟩ (c_X9_refuse l G ci cz cl q H.size (nI 1) (nI 0) n num den mag fac who fnd pc ic a sta lb la fo dee kc fl wd df ag mk sc nu co fi ad it sp stk ) (cwV 1 hts gX9_item_X9_refuse rfl rfl rfl (by decide +kernel) ⟨(Nat.le_of_ble_eq_true rfl), (Nat.le_of_ble_eq_true rfl)⟩) (pV (wc := [oM q (nI 0) n num den mag fac who fnd pc ic a sta lb la fo dee kc, aI ci (q 1) 600 fl, aI ci (q 2) 1024 wd, aI cz (q 3) 8 df, aI cz (q 4) 8 ag, aI ci (q 5) 8 mk, aI ci (q 6) 8 sc, aI ci (q 7) 12 nu, aI ci (q 8) 12 co, aI ci (q 9) 12 fi, aI ci (q 10) 12 ad, aI ci (q 11) 1800 it, aI ci (q 12) 8 sp, aI ci (q 13) 160 stk]) ok hK hP hD hS hA hO [0, 1, 2, 3, 4, 5, 6, 7, 8, 9, 10, 11, 12, 13] rfl (by decide) 0 rfl rfl) rfl rfl hl.1 rfl (lv_room (Nat.le_of_ble_eq_true rfl)) dX9_item_50 ⟨(Nat.le_of_ble_eq_true rfl), (Nat.le_of_ble_eq_true rfl)⟩) (wr := []) hP hD hS hA [0, 1, 2, 3, 4, 5, 6, 7, 8, 9, 10, 11, 12, 13] [] rfl rfl (by decide) (by decide) (fun r_6 u H locs hw_6 hP hD hS => ?_)
        try dsimp only at hw_6
        subst r_6
        have hP : va_P G vwCl [oM q (nI 1) n num den mag fac who fnd pc ic a sta lb la fo dee kc, aI ci (q 1) 600 fl, aI ci (q 2) 1024 wd, aI cz (q 3) 8 df, aI cz (q 4) 8 ag, aI ci (q 5) 8 mk, aI ci (q 6) 8 sc, aI ci (q 7) 12 nu, aI ci (q 8) 12 co, aI ci (q 9) 12 fi, aI ci (q 10) 12 ad, aI ci (q 11) 1800 it, aI ci (q 12) 8 sp, aI ci (q 13) 160 stk] H := hP
        have hD : va_D A [oM q (nI 1) n num den mag fac who fnd pc ic a sta lb la fo dee kc, aI ci (q 1) 600 fl, aI ci (q 2) 1024 wd, aI cz (q 3) 8 df, aI cz (q 4) 8 ag, aI ci (q 5) 8 mk, aI ci (q 6) 8 sc, aI ci (q 7) 12 nu, aI ci (q 8) 12 co, aI ci (q 9) 12 fi, aI ci (q 10) 12 ad, aI ci (q 11) 1800 it, aI ci (q 12) 8 sp, aI ci (q 13) 160 stk] := hD
        exact rI (v := nI 0) hx hb hr hlocks rfl hK hP hD hS [0, 1, 2, 3, 4, 5, 6, 7, 8, 9, 10, 11, 12, 13] (nI 1) rfl (by decide) trivial dX9_item_53
      · skip
        have z_5 := mt (i_le (nI pc) x).mpr c_5
        rw [nI_toInt (n := pc) (by omega)] at z_5
        refine lv_iload_n hx hb dX9_item_24 rfl (lv_at hl 2 rfl) ?_
        refine lv_if_lt (tgt := 48) hx hb dX9_item_25 (by decide) (fun c_7 => ?_) (fun c_7 => ?_)
        · skip
          have z_7 := (i_lt y (nI 0)).mp c_7
          rw [nI_toInt (n := 0) (by omega)] at z_7
          refine lv_aload_n hx hb dX9_item_48 rfl (lv_at hl 0 rfl) ?_
          refine lv_iconst (v := nI 1) hx hb dX9_item_49 (by decide) ?_
          refine jI (va_runV (As := [.int (nI 1)]) (rest := []) ⟨hx, hb, hml, hown, hts⟩ (c_X9_refuse l G ci cz cl q H.size (nI 1) (nI 0) n num den mag fac who fnd pc ic a sta lb la fo dee kc fl wd df ag mk sc nu co fi ad it sp stk ) (cwV 1 hts gX9_item_X9_refuse rfl rfl rfl (by decide +kernel) ⟨(Nat.le_of_ble_eq_true rfl), (Nat.le_of_ble_eq_true rfl)⟩) (pV (wc := [oM q (nI 0) n num den mag fac who fnd pc ic a sta lb la fo dee kc, aI ci (q 1) 600 fl, aI ci (q 2) 1024 wd, aI cz (q 3) 8 df, aI cz (q 4) 8 ag, aI ci (q 5) 8 mk, aI ci (q 6) 8 sc, aI ci (q 7) 12 nu, aI ci (q 8) 12 co, aI ci (q 9) 12 fi, aI ci (q 10) 12 ad, aI ci (q 11) 1800 it, aI ci (q 12) 8 sp, aI ci (q 13) 160 stk]) ok hK hP hD hS hA hO [0, 1, 2, 3, 4, 5, 6, 7, 8, 9, 10, 11, 12, 13] rfl (by decide) 0 rfl rfl) rfl rfl hl.1 rfl (lv_room (Nat.le_of_ble_eq_true rfl)) dX9_item_50 ⟨(Nat.le_of_ble_eq_true rfl), (Nat.le_of_ble_eq_true rfl)⟩) (wr := []) hP hD hS hA [0, 1, 2, 3, 4, 5, 6, 7, 8, 9, 10, 11, 12, 13] [] rfl rfl (by decide) (by decide) (fun r_8 u H locs hw_8 hP hD hS => ?_)
          try dsimp only at hw_8
          subst r_8
          have hP : va_P G vwCl [oM q (nI 1) n num den mag fac who fnd pc ic a sta lb la fo dee kc, aI ci (q 1) 600 fl, aI ci (q 2) 1024 wd, aI cz (q 3) 8 df, aI cz (q 4) 8 ag, aI ci (q 5) 8 mk, aI ci (q 6) 8 sc, aI ci (q 7) 12 nu, aI ci (q 8) 12 co, aI ci (q 9) 12 fi, aI ci (q 10) 12 ad, aI ci (q 11) 1800 it, aI ci (q 12) 8 sp, aI ci (q 13) 160 stk] H := hP
          have hD : va_D A [oM q (nI 1) n num den mag fac who fnd pc ic a sta lb la fo dee kc, aI ci (q 1) 600 fl, aI ci (q 2) 1024 wd, aI cz (q 3) 8 df, aI cz (q 4) 8 ag, aI ci (q 5) 8 mk, aI ci (q 6) 8 sc, aI ci (q 7) 12 nu, aI ci (q 8) 12 co, aI ci (q 9) 12 fi, aI ci (q 10) 12 ad, aI ci (q 11) 1800 it, aI ci (q 12) 8 sp, aI ci (q 13) 160 stk] := hD
          exact rI (v := nI 0) hx hb hr hlocks rfl hK hP hD hS [0, 1, 2, 3, 4, 5, 6, 7, 8, 9, 10, 11, 12, 13] (nI 1) rfl (by decide) trivial dX9_item_53
        · skip
          have z_7 := mt (i_lt y (nI 0)).mpr c_7
          rw [nI_toInt (n := 0) (by omega)] at z_7
          refine lv_iload_n hx hb dX9_item_28 rfl (lv_at hl 2 rfl) ?_
          refine lv_aload_n hx hb dX9_item_29 rfl (lv_at hl 0 rfl) ?_
          refine va_get (D := G) (ci := 8) (v := .ref (q 8)) (C := RX9) (T := TX9) (N := 30) hx hb hts hi_X9 hown hK hP 0 rfl rfl 16 (by decide) f_36 (fun _ h9 => h9) rfl dX9_item_30 ?_
          refine lv_iload_n hx hb dX9_item_33 rfl (lv_at hl 1 rfl) ?_
          obtain ⟨x9, hx3, hx2, hx4⟩ := i_nonneg (x := x) (by omega)
          obtain ⟨aa, bb, ha1, hb1, hab⟩ := hPI x9 (by omega)
          refine tp (y := nI x9) hx2 ?_
          refine va_iald hx hb hK hP 8 0 rfl rfl (vp_in_nI (by omega) (by omega)) dX9_item_34 ?_
          refine tp (y := co x9) (congrArg co (nI_clamp (by omega))) ?_
          refine tp (y := nI bb) hb1 ?_
          refine lv_icmp_ge (tgt := 48) hx hb dX9_item_35 (by decide) (fun c_9 => ?_) (fun c_9 => ?_)
          · skip
            have z_9 := (i_le (nI bb) y).mp c_9
            rw [nI_toInt (n := bb) (by omega)] at z_9
            refine lv_aload_n hx hb dX9_item_48 rfl (lv_at hl 0 rfl) ?_
            refine lv_iconst (v := nI 1) hx hb dX9_item_49 (by decide) ?_
            refine jI (va_runV (As := [.int (nI 1)]) (rest := []) ⟨hx, hb, hml, hown, hts⟩ (c_X9_refuse l G ci cz cl q H.size (nI 1) (nI 0) n num den mag fac who fnd pc ic a sta lb la fo dee kc fl wd df ag mk sc nu co fi ad it sp stk ) (cwV 1 hts gX9_item_X9_refuse rfl rfl rfl (by decide +kernel) ⟨(Nat.le_of_ble_eq_true rfl), (Nat.le_of_ble_eq_true rfl)⟩) (pV (wc := [oM q (nI 0) n num den mag fac who fnd pc ic a sta lb la fo dee kc, aI ci (q 1) 600 fl, aI ci (q 2) 1024 wd, aI cz (q 3) 8 df, aI cz (q 4) 8 ag, aI ci (q 5) 8 mk, aI ci (q 6) 8 sc, aI ci (q 7) 12 nu, aI ci (q 8) 12 co, aI ci (q 9) 12 fi, aI ci (q 10) 12 ad, aI ci (q 11) 1800 it, aI ci (q 12) 8 sp, aI ci (q 13) 160 stk]) ok hK hP hD hS hA hO [0, 1, 2, 3, 4, 5, 6, 7, 8, 9, 10, 11, 12, 13] rfl (by decide) 0 rfl rfl) rfl rfl hl.1 rfl (lv_room (Nat.le_of_ble_eq_true rfl)) dX9_item_50 ⟨(Nat.le_of_ble_eq_true rfl), (Nat.le_of_ble_eq_true rfl)⟩) (wr := []) hP hD hS hA [0, 1, 2, 3, 4, 5, 6, 7, 8, 9, 10, 11, 12, 13] [] rfl rfl (by decide) (by decide) (fun r_10 u H locs hw_10 hP hD hS => ?_)
            try dsimp only at hw_10
            subst r_10
            have hP : va_P G vwCl [oM q (nI 1) n num den mag fac who fnd pc ic a sta lb la fo dee kc, aI ci (q 1) 600 fl, aI ci (q 2) 1024 wd, aI cz (q 3) 8 df, aI cz (q 4) 8 ag, aI ci (q 5) 8 mk, aI ci (q 6) 8 sc, aI ci (q 7) 12 nu, aI ci (q 8) 12 co, aI ci (q 9) 12 fi, aI ci (q 10) 12 ad, aI ci (q 11) 1800 it, aI ci (q 12) 8 sp, aI ci (q 13) 160 stk] H := hP
            have hD : va_D A [oM q (nI 1) n num den mag fac who fnd pc ic a sta lb la fo dee kc, aI ci (q 1) 600 fl, aI ci (q 2) 1024 wd, aI cz (q 3) 8 df, aI cz (q 4) 8 ag, aI ci (q 5) 8 mk, aI ci (q 6) 8 sc, aI ci (q 7) 12 nu, aI ci (q 8) 12 co, aI ci (q 9) 12 fi, aI ci (q 10) 12 ad, aI ci (q 11) 1800 it, aI ci (q 12) 8 sp, aI ci (q 13) 160 stk] := hD
            exact rI (v := nI 0) hx hb hr hlocks rfl hK hP hD hS [0, 1, 2, 3, 4, 5, 6, 7, 8, 9, 10, 11, 12, 13] (nI 1) rfl (by decide) trivial dX9_item_53
          · skip
            have z_9 := mt (i_le (nI bb) y).mpr c_9
            rw [nI_toInt (n := bb) (by omega)] at z_9
            refine lv_iload_n hx hb dX9_item_38 rfl (lv_at hl 3 rfl) ?_
            refine lv_if_lt (tgt := 48) hx hb dX9_item_39 (by decide) (fun c_11 => ?_) (fun c_11 => ?_)
            · skip
              have z_11 := (i_lt z (nI 0)).mp c_11
              rw [nI_toInt (n := 0) (by omega)] at z_11
              refine lv_aload_n hx hb dX9_item_48 rfl (lv_at hl 0 rfl) ?_
              refine lv_iconst (v := nI 1) hx hb dX9_item_49 (by decide) ?_
              refine jI (va_runV (As := [.int (nI 1)]) (rest := []) ⟨hx, hb, hml, hown, hts⟩ (c_X9_refuse l G ci cz cl q H.size (nI 1) (nI 0) n num den mag fac who fnd pc ic a sta lb la fo dee kc fl wd df ag mk sc nu co fi ad it sp stk ) (cwV 1 hts gX9_item_X9_refuse rfl rfl rfl (by decide +kernel) ⟨(Nat.le_of_ble_eq_true rfl), (Nat.le_of_ble_eq_true rfl)⟩) (pV (wc := [oM q (nI 0) n num den mag fac who fnd pc ic a sta lb la fo dee kc, aI ci (q 1) 600 fl, aI ci (q 2) 1024 wd, aI cz (q 3) 8 df, aI cz (q 4) 8 ag, aI ci (q 5) 8 mk, aI ci (q 6) 8 sc, aI ci (q 7) 12 nu, aI ci (q 8) 12 co, aI ci (q 9) 12 fi, aI ci (q 10) 12 ad, aI ci (q 11) 1800 it, aI ci (q 12) 8 sp, aI ci (q 13) 160 stk]) ok hK hP hD hS hA hO [0, 1, 2, 3, 4, 5, 6, 7, 8, 9, 10, 11, 12, 13] rfl (by decide) 0 rfl rfl) rfl rfl hl.1 rfl (lv_room (Nat.le_of_ble_eq_true rfl)) dX9_item_50 ⟨(Nat.le_of_ble_eq_true rfl), (Nat.le_of_ble_eq_true rfl)⟩) (wr := []) hP hD hS hA [0, 1, 2, 3, 4, 5, 6, 7, 8, 9, 10, 11, 12, 13] [] rfl rfl (by decide) (by decide) (fun r_12 u H locs hw_12 hP hD hS => ?_)
              try dsimp only at hw_12
              subst r_12
              have hP : va_P G vwCl [oM q (nI 1) n num den mag fac who fnd pc ic a sta lb la fo dee kc, aI ci (q 1) 600 fl, aI ci (q 2) 1024 wd, aI cz (q 3) 8 df, aI cz (q 4) 8 ag, aI ci (q 5) 8 mk, aI ci (q 6) 8 sc, aI ci (q 7) 12 nu, aI ci (q 8) 12 co, aI ci (q 9) 12 fi, aI ci (q 10) 12 ad, aI ci (q 11) 1800 it, aI ci (q 12) 8 sp, aI ci (q 13) 160 stk] H := hP
              have hD : va_D A [oM q (nI 1) n num den mag fac who fnd pc ic a sta lb la fo dee kc, aI ci (q 1) 600 fl, aI ci (q 2) 1024 wd, aI cz (q 3) 8 df, aI cz (q 4) 8 ag, aI ci (q 5) 8 mk, aI ci (q 6) 8 sc, aI ci (q 7) 12 nu, aI ci (q 8) 12 co, aI ci (q 9) 12 fi, aI ci (q 10) 12 ad, aI ci (q 11) 1800 it, aI ci (q 12) 8 sp, aI ci (q 13) 160 stk] := hD
              exact rI (v := nI 0) hx hb hr hlocks rfl hK hP hD hS [0, 1, 2, 3, 4, 5, 6, 7, 8, 9, 10, 11, 12, 13] (nI 1) rfl (by decide) trivial dX9_item_53
            · skip
              have z_11 := mt (i_lt z (nI 0)).mpr c_11
              rw [nI_toInt (n := 0) (by omega)] at z_11
              refine lv_iload_n hx hb dX9_item_42 rfl (lv_at hl 3 rfl) ?_
              refine lv_bipush (v := nI 8) hx hb dX9_item_43 (by decide) ?_
              refine lv_icmp_le (tgt := 54) hx hb dX9_item_45 (by decide) (fun c_13 => ?_) (fun c_13 => ?_)
              · skip
                have z_13 := (i_le z (nI 8)).mp c_13
                rw [nI_toInt (n := 8) (by omega)] at z_13
                obtain ⟨y9, hy3, hy2, hy4⟩ := i_nonneg (x := y) (by omega)
                obtain ⟨z9, hz3, hz2, hz4⟩ := i_nonneg (x := z) (by omega)
                refine lv_aload_n hx hb dX9_item_54 rfl (lv_at hl 0 rfl) ?_
                refine va_get (D := G) (ci := 8) (v := .ref (q 11)) (C := RX9) (T := TX9) (N := 30) hx hb hts hi_X9 hown hK hP 0 rfl rfl 20 (by decide) f_45 (fun _ h9 => h9) rfl dX9_item_55 ?_
                refine lv_bipush (v := nI 9) hx hb dX9_item_58 (by decide) ?_
                refine lv_aload_n hx hb dX9_item_60 rfl (lv_at hl 0 rfl) ?_
                refine va_get (D := G) (ci := 8) (v := .ref (q 9)) (C := RX9) (T := TX9) (N := 30) hx hb hts hi_X9 hown hK hP 0 rfl rfl 17 (by decide) f_39 (fun _ h9 => h9) rfl dX9_item_61 ?_
                refine lv_iload_n hx hb dX9_item_64 rfl (lv_at hl 1 rfl) ?_
                refine tp (y := nI x9) hx2 ?_
                refine va_iald hx hb hK hP 9 0 rfl rfl (vp_in_nI (by omega) (by omega)) dX9_item_65 ?_
                refine tp (y := fi x9) (congrArg fi (nI_clamp (by omega))) ?_
                refine tp (y := nI aa) ha1 ?_
                refine lv_iload_n hx hb dX9_item_66 rfl (lv_at hl 2 rfl) ?_
                refine tp (y := nI y9) hy2 ?_
                refine lv_iadd hx hb dX9_item_67 ?_
                refine tp (nI_add _ _) ?_
                refine lv_imul hx hb dX9_item_68 ?_
                refine tp (pk_mul _ _) ?_
                refine lv_iload_n hx hb dX9_item_69 rfl (lv_at hl 3 rfl) ?_
                refine tp (y := nI z9) hz2 ?_
                refine lv_iadd hx hb dX9_item_70 ?_
                refine tp (nI_add _ _) ?_
                refine va_iald hx hb hK hP 11 0 rfl rfl (vp_in_nI (by omega) (by omega)) dX9_item_71 ?_
                refine tp (y := it ((9 * (aa + y9)) + z9)) (congrArg it (nI_clamp (by omega))) ?_
                exact rI (v := it ((9 * (aa + y9)) + z9)) hx hb hr hlocks rfl hK hP hD hS [0, 1, 2, 3, 4, 5, 6, 7, 8, 9, 10, 11, 12, 13] (nI 0) rfl (by decide) trivial dX9_item_72
              · skip
                have z_13 := mt (i_le z (nI 8)).mpr c_13
                rw [nI_toInt (n := 8) (by omega)] at z_13
                refine lv_aload_n hx hb dX9_item_48 rfl (lv_at hl 0 rfl) ?_
                refine lv_iconst (v := nI 1) hx hb dX9_item_49 (by decide) ?_
                refine jI (va_runV (As := [.int (nI 1)]) (rest := []) ⟨hx, hb, hml, hown, hts⟩ (c_X9_refuse l G ci cz cl q H.size (nI 1) (nI 0) n num den mag fac who fnd pc ic a sta lb la fo dee kc fl wd df ag mk sc nu co fi ad it sp stk ) (cwV 1 hts gX9_item_X9_refuse rfl rfl rfl (by decide +kernel) ⟨(Nat.le_of_ble_eq_true rfl), (Nat.le_of_ble_eq_true rfl)⟩) (pV (wc := [oM q (nI 0) n num den mag fac who fnd pc ic a sta lb la fo dee kc, aI ci (q 1) 600 fl, aI ci (q 2) 1024 wd, aI cz (q 3) 8 df, aI cz (q 4) 8 ag, aI ci (q 5) 8 mk, aI ci (q 6) 8 sc, aI ci (q 7) 12 nu, aI ci (q 8) 12 co, aI ci (q 9) 12 fi, aI ci (q 10) 12 ad, aI ci (q 11) 1800 it, aI ci (q 12) 8 sp, aI ci (q 13) 160 stk]) ok hK hP hD hS hA hO [0, 1, 2, 3, 4, 5, 6, 7, 8, 9, 10, 11, 12, 13] rfl (by decide) 0 rfl rfl) rfl rfl hl.1 rfl (lv_room (Nat.le_of_ble_eq_true rfl)) dX9_item_50 ⟨(Nat.le_of_ble_eq_true rfl), (Nat.le_of_ble_eq_true rfl)⟩) (wr := []) hP hD hS hA [0, 1, 2, 3, 4, 5, 6, 7, 8, 9, 10, 11, 12, 13] [] rfl rfl (by decide) (by decide) (fun r_14 u H locs hw_14 hP hD hS => ?_)
                try dsimp only at hw_14
                subst r_14
                have hP : va_P G vwCl [oM q (nI 1) n num den mag fac who fnd pc ic a sta lb la fo dee kc, aI ci (q 1) 600 fl, aI ci (q 2) 1024 wd, aI cz (q 3) 8 df, aI cz (q 4) 8 ag, aI ci (q 5) 8 mk, aI ci (q 6) 8 sc, aI ci (q 7) 12 nu, aI ci (q 8) 12 co, aI ci (q 9) 12 fi, aI ci (q 10) 12 ad, aI ci (q 11) 1800 it, aI ci (q 12) 8 sp, aI ci (q 13) 160 stk] H := hP
                have hD : va_D A [oM q (nI 1) n num den mag fac who fnd pc ic a sta lb la fo dee kc, aI ci (q 1) 600 fl, aI ci (q 2) 1024 wd, aI cz (q 3) 8 df, aI cz (q 4) 8 ag, aI ci (q 5) 8 mk, aI ci (q 6) 8 sc, aI ci (q 7) 12 nu, aI ci (q 8) 12 co, aI ci (q 9) 12 fi, aI ci (q 10) 12 ad, aI ci (q 11) 1800 it, aI ci (q 12) 8 sp, aI ci (q 13) 160 stk] := hD
                exact rI (v := nI 0) hx hb hr hlocks rfl hK hP hD hS [0, 1, 2, 3, 4, 5, 6, 7, 8, 9, 10, 11, 12, 13] (nI 1) rfl (by decide) trivial dX9_item_53
set_option maxHeartbeats 4000000 in
set_option maxRecDepth 100000 in
theorem c_X9_most (l : Launch) (G : va_G) (ci cz cl : ClassId) (q : Nat → Nat) (sz : Nat) (x : Int32) (ref : Int32) (n : Nat) (num : Int32) (den : Int32) (mag : Int32) (fac : UInt64) (who : Int32) (fnd : Int32) (pc : Nat) (ic : Nat) (a : Nat) (sta : Nat) (lb : Int32) (la : Int32) (fo : Int32) (dee : Int32) (kc : Nat) (fl : Nat → Int32) (wd : Nat → Int32) (df : Nat → Int32) (ag : Nat → Int32) (mk : Nat → Int32) (sc : Nat → Int32) (nu : Nat → Int32) (co : Nat → Int32) (fi : Nat → Int32) (ad : Nat → Int32) (it : Nat → Int32) (sp : Nat → Int32) (stk : Nat → Int32) (hic : ic ≤ 200) : CtI l yX9_most wsX9_most ({ frames := 0, cells := 0, slots := 0, locals := 0 }) G (TY ci cz cl) O0 [.ref (q 0), .int x] [oM q ref n num den mag fac who fnd pc ic a sta lb la fo dee kc, aI ci (q 1) 600 fl, aI ci (q 2) 1024 wd, aI cz (q 3) 8 df, aI cz (q 4) 8 ag, aI ci (q 5) 8 mk, aI ci (q 6) 8 sc, aI ci (q 7) 12 nu, aI ci (q 8) 12 co, aI ci (q 9) 12 fi, aI ci (q 10) 12 ad, aI ci (q 11) 1800 it, aI ci (q 12) 8 sp, aI ci (q 13) 160 stk] sz (fun (r : Int32) (u : Unit) => True) (fun u : Unit => [oM q (nI 0) n num den mag fac who fnd pc ic a sta lb la fo dee kc, aI ci (q 1) 600 fl, aI ci (q 2) 1024 wd, aI cz (q 3) 8 df, aI cz (q 4) 8 ag, aI ci (q 5) 8 mk, aI ci (q 6) 8 sc, aI ci (q 7) 12 nu, aI ci (q 8) 12 co, aI ci (q 9) 12 fi, aI ci (q 10) 12 ad, aI ci (q 11) 1800 it, aI ci (q 12) 8 sp, aI ci (q 13) 160 stk]) 0 0 := by
  refine Met.ofW (cc := cX9_most) (maxL := 5) (ret := (some .int)) (by decide) rfl ?_
  intro p e s m args below meth c s₁ B hml hv
  obtain ⟨rfl, ⟨hsz, hP, hK, hD0⟩, hO⟩ := hv
  have hx := B.exec
  have hb := B.bytes
  have hr := B.returns
  have hts := atoms_spec (ws := wsX9_most) B.pre
  have hown : s.vm.findClass RX9 = some m.cls := findClass_of_methodNamed B.named
  have hlocks := B.notSynchronized
  subst hsz
  have hD := hD0.self (sz := s.heap.size)
  generalize hAe : va_A [oM q ref n num den mag fac who fnd pc ic a sta lb la fo dee kc, aI ci (q 1) 600 fl, aI ci (q 2) 1024 wd, aI cz (q 3) 8 df, aI cz (q 4) 8 ag, aI ci (q 5) 8 mk, aI ci (q 6) 8 sc, aI ci (q 7) 12 nu, aI ci (q 8) 12 co, aI ci (q 9) 12 fi, aI ci (q 10) 12 ad, aI ci (q 11) 1800 it, aI ci (q 12) 8 sp, aI ci (q 13) 160 stk] s.heap.size = A at hD hO ⊢
  have hA : ∀ q : Nat, s.heap.size ≤ q → A q := fun q h => by rw [← hAe]; exact Or.inr h
  have ok := ok0
  refine startH (A := A) (fun H locs hP hS => ?_) hP
  have hi_X9 := (by decide +kernel : ∀ w ∈ wsX90, w ∈ wsX9_most)
  have f_54 := hts (.fieldLink RX9 54 "PageReaderModel" "refusal" "I") (by decide +kernel)
  have f_191 := hts (.fieldLink RX9 191 "PageReaderModel" "whole" "Z") (by decide +kernel)
  have f_89 := hts (.fieldLink RX9 89 "PageReaderModel" "items" "I") (by decide +kernel)
  have f_45 := hts (.fieldLink RX9 45 "PageReaderModel" "item" "[I") (by decide +kernel)
  have hl := lv_entry ([.ref (q 0), .int x]) (n := 5) (Nat.le_of_ble_eq_true rfl)
  rw [lg_entry_eq]
  generalize (lg_sl ([.ref (q 0), .int x]) ++ List.replicate (5 - (lg_sl ([.ref (q 0), .int x])).length) Slot.unset).toArray = ls at hl ⊢
  have hl : lv_has ls 5 [(0, .ref (q 0)), (1, .int x)] := hl
  refine lv_aload_n hx hb dX9_most_0 rfl (lv_at hl 0 rfl) ?_
  refine lv_iconst (v := nI 0) hx hb dX9_most_1 (by decide) ?_
  refine va_put (D := G) (ci := 8) (v := .int (nI 0)) (ty := .int) (C := RX9) (T := TX9) (N := 30) hx hb hts hi_X9 tyX9 tyX9_ok nmX9 hown hK hP hD hS 0 rfl rfl 0 (by decide) f_54 (fun _ h9 => h9) rfl (by decide +kernel) rfl rfl (Nat.le_of_ble_eq_true rfl) dX9_most_2 (fun H locs hP hD hS => ?_)
  have hP : va_P G vwCl [oM q (nI 0) n num den mag fac who fnd pc ic a sta lb la fo dee kc, aI ci (q 1) 600 fl, aI ci (q 2) 1024 wd, aI cz (q 3) 8 df, aI cz (q 4) 8 ag, aI ci (q 5) 8 mk, aI ci (q 6) 8 sc, aI ci (q 7) 12 nu, aI ci (q 8) 12 co, aI ci (q 9) 12 fi, aI ci (q 10) 12 ad, aI ci (q 11) 1800 it, aI ci (q 12) 8 sp, aI ci (q 13) 160 stk] H := hP
  have hD : va_D A [oM q (nI 0) n num den mag fac who fnd pc ic a sta lb la fo dee kc, aI ci (q 1) 600 fl, aI ci (q 2) 1024 wd, aI cz (q 3) 8 df, aI cz (q 4) 8 ag, aI ci (q 5) 8 mk, aI ci (q 6) 8 sc, aI ci (q 7) 12 nu, aI ci (q 8) 12 co, aI ci (q 9) 12 fi, aI ci (q 10) 12 ad, aI ci (q 11) 1800 it, aI ci (q 12) 8 sp, aI ci (q 13) 160 stk] := hD
  refine lv_aload_n hx hb dX9_most_5 rfl (lv_at hl 0 rfl) ?_
  refine va_get (D := G) (ci := 8) (v := .int who) (C := RX9) (T := TX9) (N := 30) hx hb hts hi_X9 hown hK hP 0 rfl rfl 12 (by decide) f_191 (fun _ h9 => h9) rfl dX9_most_6 ?_
  refine lv_if_eq (tgt := 28) hx hb dX9_most_9 (by decide) (fun c_1 => ?_) (fun c_1 => ?_)
  · skip
    refine lv_iconst (v := nI 0) hx hb dX9_most_28 (by decide) ?_
    exact rI (v := nI 0) hx hb hr hlocks rfl hK hP hD hS [0, 1, 2, 3, 4, 5, 6, 7, 8, 9, 10, 11, 12, 13] () rfl (by decide) trivial dX9_most_29
  · skip
    refine lv_aload_n hx hb dX9_most_12 rfl (lv_at hl 0 rfl) ?_
    refine va_get (D := G) (ci := 8) (v := .int (nI ic)) (C := RX9) (T := TX9) (N := 30) hx hb hts hi_X9 hown hK hP 0 rfl rfl 19 (by decide) f_89 (fun _ h9 => h9) rfl dX9_most_13 ?_
    refine lv_if_eq (tgt := 28) hx hb dX9_most_16 (by decide) (fun c_2 => ?_) (fun c_2 => ?_)
    · skip
      have z_2 := (nI_eq (a := ic) (b := 0) (by omega) (by omega)).mp c_2
      refine lv_iconst (v := nI 0) hx hb dX9_most_28 (by decide) ?_
      exact rI (v := nI 0) hx hb hr hlocks rfl hK hP hD hS [0, 1, 2, 3, 4, 5, 6, 7, 8, 9, 10, 11, 12, 13] () rfl (by decide) trivial dX9_most_29
    · skip
      have z_2 := mt (nI_eq (a := ic) (b := 0) (by omega) (by omega)).mpr c_2
      refine lv_iload_n hx hb dX9_most_19 rfl (lv_at hl 1 rfl) ?_
      refine lv_if_lt (tgt := 28) hx hb dX9_most_20 (by decide) (fun c_3 => ?_) (fun c_3 => ?_)
      · skip
        have z_3 := (i_lt x (nI 0)).mp c_3
        rw [nI_toInt (n := 0) (by omega)] at z_3
        refine lv_iconst (v := nI 0) hx hb dX9_most_28 (by decide) ?_
        exact rI (v := nI 0) hx hb hr hlocks rfl hK hP hD hS [0, 1, 2, 3, 4, 5, 6, 7, 8, 9, 10, 11, 12, 13] () rfl (by decide) trivial dX9_most_29
      · skip
        have z_3 := mt (i_lt x (nI 0)).mpr c_3
        rw [nI_toInt (n := 0) (by omega)] at z_3
        refine lv_iload_n hx hb dX9_most_23 rfl (lv_at hl 1 rfl) ?_
        refine lv_iconst (v := nI 3) hx hb dX9_most_24 (by decide) ?_
        refine lv_icmp_le (tgt := 30) hx hb dX9_most_25 (by decide) (fun c_4 => ?_) (fun c_4 => ?_)
        · skip
          have z_4 := (i_le x (nI 3)).mp c_4
          rw [nI_toInt (n := 3) (by omega)] at z_4
          obtain ⟨x9, hx1, hx2, hx3⟩ := i_nonneg (x := x) (by omega)
          refine lv_aload_n hx hb dX9_most_30 rfl (lv_at hl 0 rfl) ?_
          refine va_get (D := G) (ci := 8) (v := .ref (q 11)) (C := RX9) (T := TX9) (N := 30) hx hb hts hi_X9 hown hK hP 0 rfl rfl 20 (by decide) f_45 (fun _ h9 => h9) rfl dX9_most_31 ?_
          refine lv_iconst (v := nI 2) hx hb dX9_most_34 (by decide) ?_
          refine lv_iload_n hx hb dX9_most_35 rfl (lv_at hl 1 rfl) ?_
          refine tp (y := nI x9) hx2 ?_
          refine lv_iconst (v := nI 2) hx hb dX9_most_36 (by decide) ?_
          refine lv_irem hx hb dX9_most_37 (by decide) ?_
          refine tp (pk_rem (by omega) (by omega) (by omega)) ?_
          refine lv_iadd hx hb dX9_most_38 ?_
          refine tp (nI_add _ _) ?_
          refine va_iald hx hb hK hP 11 0 rfl rfl (vp_in_nI (by omega) (by omega)) dX9_most_39 ?_
          refine tp (y := it (2 + (x9 % 2))) (congrArg it (nI_clamp (by omega))) ?_
          refine lv_istore_n (lv' := [(2, .int (it (2 + (x9 % 2)))), (0, .ref (q 0)), (1, .int x)]) hx hb dX9_most_40 rfl hl (by decide) rfl (fun ls hl => ?_)
          refine lv_iconst (v := nI 0) hx hb dX9_most_41 (by decide) ?_
          refine lv_istore_n (lv' := [(3, .int (nI 0)), (2, .int (it (2 + (x9 % 2)))), (0, .ref (q 0)), (1, .int x)]) hx hb dX9_most_42 rfl hl (by decide) rfl (fun ls hl => ?_)
          have loop_43 : ∀ (fuel : Nat) (i : Nat) (v : Int32) (H : Heap) (locs : List Loc), ic - i < fuel → (i ≤ 201) → va_P G vwCl [oM q (nI 0) n num den mag fac who fnd pc ic a sta lb la fo dee kc, aI ci (q 1) 600 fl, aI ci (q 2) 1024 wd, aI cz (q 3) 8 df, aI cz (q 4) 8 ag, aI ci (q 5) 8 mk, aI ci (q 6) 8 sc, aI ci (q 7) 12 nu, aI ci (q 8) 12 co, aI ci (q 9) 12 fi, aI ci (q 10) 12 ad, aI ci (q 11) 1800 it, aI ci (q 12) 8 sp, aI ci (q 13) 160 stk] H → va_D A [oM q (nI 0) n num den mag fac who fnd pc ic a sta lb la fo dee kc, aI ci (q 1) 600 fl, aI ci (q 2) 1024 wd, aI cz (q 3) 8 df, aI cz (q 4) 8 ag, aI ci (q 5) 8 mk, aI ci (q 6) 8 sc, aI ci (q 7) 12 nu, aI ci (q 8) 12 co, aI ci (q 9) 12 fi, aI ci (q 10) 12 ad, aI ci (q 11) 1800 it, aI ci (q 12) 8 sp, aI ci (q 13) 160 stk] → va_S A s.heap H locs → ∀ ls : Array Slot, lv_has ls 5 [(0, .ref (q 0)), (1, .int x), (2, .int v), (3, .int (nI i))] → W p l e (headSpec wsX9_most ({ frames := 0, cells := 0, slots := 0, locals := 0 })).room s m ([.ref (q 0), .int x] : List Value).toArray below meth c H locs 0 0 (MQ below (va_Qi (fun (r : Int32) (u : Unit) => True) (fun u t => PQ G (TY ci cz cl) A [oM q (nI 0) n num den mag fac who fnd pc ic a sta lb la fo dee kc, aI ci (q 1) 600 fl, aI ci (q 2) 1024 wd, aI cz (q 3) 8 df, aI cz (q 4) 8 ag, aI ci (q 5) 8 mk, aI ci (q 6) 8 sc, aI ci (q 7) 12 nu, aI ci (q 8) 12 co, aI ci (q 9) 12 fi, aI ci (q 10) 12 ad, aI ci (q 11) 1800 it, aI ci (q 12) 8 sp, aI ci (q 13) 160 stk] t) A) ([.ref (q 0), .int x] : List Value).toArray s 0 0 A) (F0 m 43 ls []) := by
            intro fuel
            induction fuel with
            | zero => intro i v H locs hf; exact absurd hf (by omega)
            | succ fuel ih =>
              intro i v H locs hf hi hP hD hS ls hl
              refine lv_iload_n hx hb dX9_most_43 rfl (lv_at hl 3 rfl) ?_
              refine lv_aload_n hx hb dX9_most_44 rfl (lv_at hl 0 rfl) ?_
              refine va_get (D := G) (ci := 8) (v := .int (nI ic)) (C := RX9) (T := TX9) (N := 30) hx hb hts hi_X9 hown hK hP 0 rfl rfl 19 (by decide) f_89 (fun _ h9 => h9) rfl dX9_most_45 ?_
              refine lv_icmp_ge (tgt := 107) hx hb dX9_most_48 (by decide) (fun c_5 => ?_) (fun c_5 => ?_)
              · skip
                have z_5 := (nI_leI (a := ic) (b := i) (by omega) (by omega)).mp c_5
                refine lv_iload_n hx hb dX9_most_107 rfl (lv_at hl 2 rfl) ?_
                exact rI (v := v) hx hb hr hlocks rfl hK hP hD hS [0, 1, 2, 3, 4, 5, 6, 7, 8, 9, 10, 11, 12, 13] () rfl (by decide) trivial dX9_most_108
              · skip
                have z_5 := mt (nI_leI (a := ic) (b := i) (by omega) (by omega)).mpr c_5
                refine lv_aload_n hx hb dX9_most_51 rfl (lv_at hl 0 rfl) ?_
                refine va_get (D := G) (ci := 8) (v := .ref (q 11)) (C := RX9) (T := TX9) (N := 30) hx hb hts hi_X9 hown hK hP 0 rfl rfl 20 (by decide) f_45 (fun _ h9 => h9) rfl dX9_most_52 ?_
                refine lv_bipush (v := nI 9) hx hb dX9_most_55 (by decide) ?_
                refine lv_iload_n hx hb dX9_most_57 rfl (lv_at hl 3 rfl) ?_
                refine lv_imul hx hb dX9_most_58 ?_
                refine tp (pk_mul _ _) ?_
                refine lv_iconst (v := nI 2) hx hb dX9_most_59 (by decide) ?_
                refine lv_iadd hx hb dX9_most_60 ?_
                refine tp (nI_add _ _) ?_
                refine lv_iload_n hx hb dX9_most_61 rfl (lv_at hl 1 rfl) ?_
                refine tp (y := nI x9) hx2 ?_
                refine lv_iconst (v := nI 2) hx hb dX9_most_62 (by decide) ?_
                refine lv_irem hx hb dX9_most_63 (by decide) ?_
                refine tp (pk_rem (by omega) (by omega) (by omega)) ?_
                refine lv_iadd hx hb dX9_most_64 ?_
                refine tp (nI_add _ _) ?_
                refine va_iald hx hb hK hP 11 0 rfl rfl (vp_in_nI (by omega) (by omega)) dX9_most_65 ?_
                refine tp (y := it (((9 * i) + 2) + (x9 % 2))) (congrArg it (nI_clamp (by omega))) ?_
                refine lv_istore (lv' := [(4, .int (it (((9 * i) + 2) + (x9 % 2)))), (0, .ref (q 0)), (1, .int x), (2, .int v), (3, .int (nI i))]) hx hb dX9_most_66 hl (by decide) rfl (fun ls hl => ?_)
                refine lv_iload_n hx hb dX9_most_68 rfl (lv_at hl 2 rfl) ?_
                refine lv_iconst (v := nI 2) hx hb dX9_most_69 (by decide) ?_
                refine lv_icmp_ge (tgt := 88) hx hb dX9_most_70 (by decide) (fun c_6 => ?_) (fun c_6 => ?_)
                · skip
                  refine lv_iload hx hb dX9_most_88 (lv_at hl 0 rfl) ?_
                  refine lv_iload_n hx hb dX9_most_90 rfl (lv_at hl 3 rfl) ?_
                  refine lv_icmp_ge (tgt := 99) hx hb dX9_most_91 (by decide) (fun c_7 => ?_) (fun c_7 => ?_)
                  · skip
                    refine lv_iload_n hx hb dX9_most_99 rfl (lv_at hl 3 rfl) ?_
                    refine lv_istore_n (lv' := [(2, .int v), (4, .int (it (((9 * i) + 2) + (x9 % 2)))), (0, .ref (q 0)), (1, .int x), (3, .int (nI i))]) hx hb dX9_most_100 rfl hl (by decide) rfl (fun ls hl => ?_)
                    refine lv_iinc (v := nI (i + 1)) (lv' := [(3, .int (nI (i + 1))), (2, .int v), (4, .int (it (((9 * i) + 2) + (x9 % 2)))), (0, .ref (q 0)), (1, .int x)]) hx hb dX9_most_101 hl (k := 4) rfl (nI_add _ _) (by decide) rfl (fun ls hl => ?_)
                    refine lv_goto (tgt := 43) hx hb dX9_most_104 (by decide) ?_
                    exact ih (i + 1) v H locs (by omega) (by omega) (hP.sub [0, 1, 2, 3, 4, 5, 6, 7, 8, 9, 10, 11, 12, 13] rfl) (hD.sub [0, 1, 2, 3, 4, 5, 6, 7, 8, 9, 10, 11, 12, 13] (by decide) rfl) hS ls (lv_sub hl [3, 4, 1, 0] rfl)
                  · skip
                    refine lv_iload hx hb dX9_most_94 (lv_at hl 0 rfl) ?_
                    refine lv_goto (tgt := 100) hx hb dX9_most_96 (by decide) ?_
                    refine lv_istore_n (lv' := [(2, .int (it (((9 * i) + 2) + (x9 % 2)))), (4, .int (it (((9 * i) + 2) + (x9 % 2)))), (0, .ref (q 0)), (1, .int x), (3, .int (nI i))]) hx hb dX9_most_100 rfl hl (by decide) rfl (fun ls hl => ?_)
                    refine lv_iinc (v := nI (i + 1)) (lv' := [(3, .int (nI (i + 1))), (2, .int (it (((9 * i) + 2) + (x9 % 2)))), (4, .int (it (((9 * i) + 2) + (x9 % 2)))), (0, .ref (q 0)), (1, .int x)]) hx hb dX9_most_101 hl (k := 4) rfl (nI_add _ _) (by decide) rfl (fun ls hl => ?_)
                    refine lv_goto (tgt := 43) hx hb dX9_most_104 (by decide) ?_
                    exact ih (i + 1) (it (((9 * i) + 2) + (x9 % 2))) H locs (by omega) (by omega) (hP.sub [0, 1, 2, 3, 4, 5, 6, 7, 8, 9, 10, 11, 12, 13] rfl) (hD.sub [0, 1, 2, 3, 4, 5, 6, 7, 8, 9, 10, 11, 12, 13] (by decide) rfl) hS ls (lv_sub hl [3, 4, 1, 0] rfl)
                · skip
                  refine lv_iload hx hb dX9_most_73 (lv_at hl 0 rfl) ?_
                  refine lv_iload_n hx hb dX9_most_75 rfl (lv_at hl 3 rfl) ?_
                  refine lv_icmp_le (tgt := 84) hx hb dX9_most_76 (by decide) (fun c_8 => ?_) (fun c_8 => ?_)
                  · skip
                    refine lv_iload_n hx hb dX9_most_84 rfl (lv_at hl 3 rfl) ?_
                    refine lv_goto (tgt := 100) hx hb dX9_most_85 (by decide) ?_
                    refine lv_istore_n (lv' := [(2, .int v), (4, .int (it (((9 * i) + 2) + (x9 % 2)))), (0, .ref (q 0)), (1, .int x), (3, .int (nI i))]) hx hb dX9_most_100 rfl hl (by decide) rfl (fun ls hl => ?_)
                    refine lv_iinc (v := nI (i + 1)) (lv' := [(3, .int (nI (i + 1))), (2, .int v), (4, .int (it (((9 * i) + 2) + (x9 % 2)))), (0, .ref (q 0)), (1, .int x)]) hx hb dX9_most_101 hl (k := 4) rfl (nI_add _ _) (by decide) rfl (fun ls hl => ?_)
                    refine lv_goto (tgt := 43) hx hb dX9_most_104 (by decide) ?_
                    exact ih (i + 1) v H locs (by omega) (by omega) (hP.sub [0, 1, 2, 3, 4, 5, 6, 7, 8, 9, 10, 11, 12, 13] rfl) (hD.sub [0, 1, 2, 3, 4, 5, 6, 7, 8, 9, 10, 11, 12, 13] (by decide) rfl) hS ls (lv_sub hl [3, 4, 1, 0] rfl)
                  · skip
                    refine lv_iload hx hb dX9_most_79 (lv_at hl 0 rfl) ?_
                    refine lv_goto (tgt := 100) hx hb dX9_most_81 (by decide) ?_
                    refine lv_istore_n (lv' := [(2, .int (it (((9 * i) + 2) + (x9 % 2)))), (4, .int (it (((9 * i) + 2) + (x9 % 2)))), (0, .ref (q 0)), (1, .int x), (3, .int (nI i))]) hx hb dX9_most_100 rfl hl (by decide) rfl (fun ls hl => ?_)
                    refine lv_iinc (v := nI (i + 1)) (lv' := [(3, .int (nI (i + 1))), (2, .int (it (((9 * i) + 2) + (x9 % 2)))), (4, .int (it (((9 * i) + 2) + (x9 % 2)))), (0, .ref (q 0)), (1, .int x)]) hx hb dX9_most_101 hl (k := 4) rfl (nI_add _ _) (by decide) rfl (fun ls hl => ?_)
                    refine lv_goto (tgt := 43) hx hb dX9_most_104 (by decide) ?_
                    exact ih (i + 1) (it (((9 * i) + 2) + (x9 % 2))) H locs (by omega) (by omega) (hP.sub [0, 1, 2, 3, 4, 5, 6, 7, 8, 9, 10, 11, 12, 13] rfl) (hD.sub [0, 1, 2, 3, 4, 5, 6, 7, 8, 9, 10, 11, 12, 13] (by decide) rfl) hS ls (lv_sub hl [3, 4, 1, 0] rfl)
          exact loop_43 (ic - 0 + 1) 0 (it (2 + (x9 % 2))) H locs (Nat.lt_succ_self _) (by omega) (hP.sub [0, 1, 2, 3, 4, 5, 6, 7, 8, 9, 10, 11, 12, 13] rfl) (hD.sub [0, 1, 2, 3, 4, 5, 6, 7, 8, 9, 10, 11, 12, 13] (by decide) rfl) hS ls (lv_sub hl [2, 3, 1, 0] rfl)
        · skip
          have z_4 := mt (i_le x (nI 3)).mpr c_4
          rw [nI_toInt (n := 3) (by omega)] at z_4
          refine lv_iconst (v := nI 0) hx hb dX9_most_28 (by decide) ?_
          exact rI (v := nI 0) hx hb hr hlocks rfl hK hP hD hS [0, 1, 2, 3, 4, 5, 6, 7, 8, 9, 10, 11, 12, 13] () rfl (by decide) trivial dX9_most_29
