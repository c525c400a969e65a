/-! ===== the two readers, exactly: the numbers of the file ===== -/
abbrev FT : Type := Nat → Int32
def byt (row : FT) (j : Nat) : Nat := (row j).toInt.toNat
theorem byt_v {row : FT} (hB : FB row) (j : Nat) : row j = nI (byt row j) ∧ byt row j ≤ 255 := by
  obtain ⟨b, h1, h2⟩ := hB j
  have e : byt row j = b := by
    unfold byt
    rw [h1, nI_toInt (by omega)]
    omega
  rw [e]
  exact ⟨h1, h2⟩
def rdB (row : FT) (n a : Nat) : Nat := if a < n then byt row a else 0
theorem rdB_lo {row : FT} {n a : Nat} (h : a < n) : rdB row n a = byt row a := if_pos h
theorem rdB_hi {row : FT} {n a : Nat} (h : n ≤ a) : rdB row n a = 0 := if_neg (by omega)
theorem rdB_le {row : FT} (hB : FB row) (n a : Nat) : rdB row n a ≤ 255 := by
  unfold rdB
  split
  · exact (byt_v hB a).2
  · omega
theorem rdB_row {row : FT} (hB : FB row) {n a : Nat} (h : a < n) : row a = nI (rdB row n a) := by
  rw [rdB_lo h]
  exact (byt_v hB a).1
def rdN (row : FT) (n a : Nat) : Nat → Nat
  | 0 => 0
  | i + 1 => rdN row n a i * 256 + rdB row n (a + i)
theorem rdN_b {row : FT} (hB : FB row) (n a : Nat) : rdN row n a 0 = 0 ∧ rdN row n a 1 ≤ 255 ∧ rdN row n a 2 ≤ 65535 ∧ rdN row n a 3 ≤ 16777215 := by
  have h0 := rdB_le hB n (a + 0)
  have h1 := rdB_le hB n (a + 1)
  have h2 := rdB_le hB n (a + 2)
  have e0 : rdN row n a 0 = 0 := rfl
  have e1 : rdN row n a 1 = rdN row n a 0 * 256 + rdB row n (a + 0) := rfl
  have e2 : rdN row n a 2 = rdN row n a 1 * 256 + rdB row n (a + 1) := rfl
  have e3 : rdN row n a 3 = rdN row n a 2 * 256 + rdB row n (a + 2) := rfl
  omega
theorem rdN_1 (row : FT) (n a : Nat) : rdN row n a 1 = rdB row n a := by
  show 0 * 256 + rdB row n a = _
  omega
theorem rdN_2 (row : FT) (n a : Nat) : rdN row n a 2 = rdB row n a * 256 + rdB row n (a + 1) := by
  show (0 * 256 + rdB row n a) * 256 + rdB row n (a + 1) = _
  omega
theorem rdN_3 {row : FT} (hB : FB row) (n a : Nat) {k : Nat} (hk : k ≤ 3) : rdN row n a k ≤ 16777215 := by
  have := rdN_b hB n a
  rcases (show k = 0 ∨ k = 1 ∨ k = 2 ∨ k = 3 by omega) with rfl | rfl | rfl | rfl <;> omega
theorem rdN_le2 {row : FT} (hB : FB row) (n a : Nat) {k : Nat} (hk : k ≤ 2) : rdN row n a k ≤ 65535 := by
  have := rdN_b hB n a
  rcases (show k = 0 ∨ k = 1 ∨ k = 2 by omega) with rfl | rfl | rfl <;> omega
theorem or_nI {v b : Nat} (hv : v ≤ 65535) (hb : b ≤ 255) : nI (v * 256) ||| nI b = nI (v * 256 + b) := by
  have h : v * 256 ||| b = v * 256 + b := by
    have := Nat.shiftLeft_add_eq_or_of_lt (i := 8) (b := b) (by omega) v
    rw [Nat.shiftLeft_eq] at this
    exact this.symm
  apply Int32.toBitVec_inj.mp
  rw [Int32.toBitVec_or]
  apply BitVec.eq_of_toNat_eq
  rw [BitVec.toNat_or, pk_tn (by omega), pk_tn (by omega), pk_tn (by omega)]
  exact h
theorem rdN_or {v b : Nat} (hv : v ≤ 65535) (hb : b ≤ 255) : (nI v <<< (nI 8 &&& 31)) ||| nI b = nI (v * 256 + b) := by
  rw [pk_shlN (nI 8 &&& 31) 8 (by decide) (by omega)]
  exact or_nI hv hb
theorem nI_big {m : Nat} (h1 : 2147483648 ≤ m) (h2 : m < 4294967296) : (nI m).toInt = (m : Int) - 4294967296 := by
  show ((nI m).toBitVec).toInt = _
  rw [BitVec.toInt_eq_toNat_cond, pk_tn (by omega)]
  split <;> omega
def hlf (k : Nat) : Nat := 128 * 256 ^ (k - 1)
theorem hlf_v : hlf 1 = 128 ∧ hlf 2 = 32768 ∧ hlf 3 = 8388608 := by decide
theorem hlf_s {i : Nat} (h : 1 ≤ i) : hlf (i + 1) = hlf i * 256 := by
  unfold hlf
  obtain ⟨j, rfl⟩ : ∃ j, i = j + 1 := ⟨i - 1, by omega⟩
  rw [show j + 1 + 1 - 1 = (j + 1 - 1) + 1 by omega, Nat.pow_succ]
  omega
theorem hlf_le {i : Nat} (h : i ≤ 3) : hlf i ≤ 8388608 := by
  rcases (show i = 0 ∨ i = 1 ∨ i = 2 ∨ i = 3 by omega) with rfl | rfl | rfl | rfl <;> decide
def rdS (row : FT) (n a k : Nat) : Int32 := if rdN row n a k < hlf k then nI (rdN row n a k) else nI (rdN row n a k) - nI (2 * hlf k)
theorem sx_1 {v : Nat} (hv : v < 256) : (nI v <<< ((nI 32 - nI (8 * 1)) &&& 31)) >>> ((nI 32 - nI (8 * 1)) &&& 31) = if v < 128 then nI v else nI v - nI 256 := by
  apply Int32.toInt_inj.mp
  rw [pk_shr _ _ 24 (by decide), pk_shlN _ 24 (by decide) (by omega), Int.shiftRight_eq_div_pow]
  by_cases h : v < 128
  · rw [if_pos h, nI_toInt (by omega), nI_toInt (by omega)]
    omega
  · rw [if_neg h, nI_big (by omega) (by omega), pk_sub_toInt (by omega) (by omega)]
    omega
theorem sx_2 {v : Nat} (hv : v < 65536) : (nI v <<< ((nI 32 - nI (8 * 2)) &&& 31)) >>> ((nI 32 - nI (8 * 2)) &&& 31) = if v < 32768 then nI v else nI v - nI 65536 := by
  apply Int32.toInt_inj.mp
  rw [pk_shr _ _ 16 (by decide), pk_shlN _ 16 (by decide) (by omega), Int.shiftRight_eq_div_pow]
  by_cases h : v < 32768
  · rw [if_pos h, nI_toInt (by omega), nI_toInt (by omega)]
    omega
  · rw [if_neg h, nI_big (by omega) (by omega), pk_sub_toInt (by omega) (by omega)]
    omega
theorem sx_3 {v : Nat} (hv : v < 16777216) : (nI v <<< ((nI 32 - nI (8 * 3)) &&& 31)) >>> ((nI 32 - nI (8 * 3)) &&& 31) = if v < 8388608 then nI v else nI v - nI 16777216 := by
  apply Int32.toInt_inj.mp
  rw [pk_shr _ _ 8 (by decide), pk_shlN _ 8 (by decide) (by omega), Int.shiftRight_eq_div_pow]
  by_cases h : v < 8388608
  · rw [if_pos h, nI_toInt (by omega), nI_toInt (by omega)]
    omega
  · rw [if_neg h, nI_big (by omega) (by omega), pk_sub_toInt (by omega) (by omega)]
    omega
theorem rdS_ext {row : FT} (hB : FB row) (n a : Nat) {k : Nat} (hk : k ≤ 3) : (nI (rdN row n a k) <<< ((nI 32 - nI (8 * k)) &&& 31)) >>> ((nI 32 - nI (8 * k)) &&& 31) = rdS row n a k := by
  have hb := rdN_b hB n a
  rcases (show k = 0 ∨ k = 1 ∨ k = 2 ∨ k = 3 by omega) with rfl | rfl | rfl | rfl
  · unfold rdS
    rw [hb.1]
    decide
  · exact sx_1 (by omega)
  · exact sx_2 (by omega)
  · exact sx_3 (by omega)
/-- the length of the command at a, 0 where none is, or it isn't whole -/
def rdL (row : FT) (n a : Nat) : Nat := if rdB row n a ≤ 169 then (if a + (1 + tbk (rdB row n a)) ≤ n then 1 + tbk (rdB row n a) else 0) else 0
theorem rdL_in {row : FT} {n a : Nat} : rdL row n a ≤ 12 ∧ (rdL row n a = 0 ∨ (rdB row n a ≤ 169 ∧ rdL row n a = 1 + tbk (rdB row n a) ∧ a + rdL row n a ≤ n)) := by
  have := (tbk_in (rdB row n a)).1
  unfold rdL
  split
  · split <;> omega
  · omega
theorem rdL_no {row : FT} {n a : Nat} (h : rdL row n a = 0) : 169 < rdB row n a ∨ n ≤ a + tbk (rdB row n a) := by
  unfold rdL at h
  split at h
  · split at h <;> omega
  · omega
def EW (row : FT) (n a : Nat) : Prop := a + 4 ≤ n ∧ n % 4 = 0 ∧ ∀ j, a ≤ j → j < n → byt row j = 223
def cnv (x y z : Nat) : UInt64 := FP.dmul (FP.ddiv (FP.i2d (nI x)) (FP.i2d (nI y))) (FP.ddiv (FP.i2d (nI z)) 4652007308841189376)
def FO (fo : Int32) : Prop := fo = -1 ∨ ∃ f : Nat, f ≤ 7 ∧ fo = nI f
theorem FO_m : FO (-1) := Or.inl rfl
theorem FO_n {f : Nat} (h : f ≤ 7) : FO (nI f) := Or.inr ⟨f, h, rfl⟩
theorem FO_of {fo : Int32} (h : FO fo) (h1 : fo ≠ -1) : ∃ f : Nat, f ≤ 7 ∧ fo = nI f := h.resolve_left h1
theorem FO_int {fo : Int32} (h : FO fo) : -1 ≤ fo.toInt ∧ fo.toInt ≤ 7 := by
  rcases h with h | ⟨f, h1, h2⟩
  · subst h; decide
  · subst h2; rw [nI_toInt (by omega)]; omega
theorem FO_neg {fo : Int32} (h : FO fo) (h1 : fo.toInt < 0) : fo = -1 := by
  rcases h with h | ⟨f, h3, h2⟩
  · exact h
  · subst h2; rw [nI_toInt (by omega)] at h1; omega
theorem FO_pos {fo : Int32} (h : FO fo) (h1 : 0 ≤ fo.toInt) : ∃ f : Nat, f ≤ 7 ∧ fo = nI f := by
  refine FO_of h (fun e => ?_)
  rw [e] at h1
  exact absurd h1 (by decide)
theorem nI_m1 {f : Nat} (h : f ≤ 7) : nI f ≠ -1 := by
  rcases (show f = 0 ∨ f = 1 ∨ f = 2 ∨ f = 3 ∨ f = 4 ∨ f = 5 ∨ f = 6 ∨ f = 7 by omega) with rfl | rfl | rfl | rfl | rfl | rfl | rfl | rfl <;> decide
def Zr (i : Nat) (f : FT) : Prop := ∀ j, j < i → f j = nI 0
theorem Zr_0 {f : FT} : Zr 0 f := fun j h => absurd h (by omega)
theorem Zr_s {i : Nat} {f : FT} (h : Zr i f) : Zr (i + 1) (upd f i (nI 0)) := by
  intro j hj
  by_cases e : j = i
  · subst e; rw [upd_s]
  · rw [upd_n e]; exact h j (by omega)
/-! ===== what a command does, as the class keeps it ===== -/
def QPut (ic : Nat) (now it it2 : FT) : Prop := (∀ j, j < ic * 7 → it2 j = it j) ∧ it2 (ic * 7 + 2) = now 0 ∧ it2 (ic * 7 + 3) = now 1
theorem QPut_u {ic : Nat} {now it : FT} {x y z u v : Int32} : QPut ic now it (upd (upd (upd (upd (upd (upd (upd it (ic * 7 + 0) x) (ic * 7 + 1) y) (ic * 7 + 2) (now 0)) (ic * 7 + 3) (now 1)) (ic * 7 + 4) u) (ic * 7 + 5) v) (ic * 7 + 6) z) := by
  refine ⟨fun j h => ?_, ?_, ?_⟩
  · rw [upd_n (by omega), upd_n (by omega), upd_n (by omega), upd_n (by omega), upd_n (by omega), upd_n (by omega), upd_n (by omega)]
  · rw [upd_n (by omega), upd_n (by omega), upd_n (by omega), upd_n (by omega), upd_s]
  · rw [upd_n (by omega), upd_n (by omega), upd_n (by omega), upd_s]
def QMh (now now2 : FT) (x : Int32) : Prop := now2 0 = now 0 + x ∧ ∀ j, j ≠ 0 → j ≠ 2 → now2 j = now j
def QMv (now now2 : FT) (x : Int32) : Prop := now2 1 = now 1 + x ∧ ∀ j, j ≠ 1 → j ≠ 3 → now2 j = now j
theorem QMh_u {now : FT} {x y : Int32} : QMh now (upd (upd now 0 (now 0 + x)) 2 y) x := ⟨by rw [upd_n (by decide), upd_s], fun j h0 h2 => by rw [upd_n h2, upd_n h0]⟩
theorem QMv_u {now : FT} {x y : Int32} : QMv now (upd (upd now 1 (now 1 + x)) 3 y) x := ⟨by rw [upd_n (by decide), upd_s], fun j h0 h2 => by rw [upd_n h2, upd_n h0]⟩
def QPush (kc dp : Nat) (now kept : FT) (bo kc2 dp2 : Nat) (kept2 : FT) : Prop :=
  (bo = 1 ∧ kc < 20 ∧ kc2 = kc + 1 ∧ dp2 = max dp (kc + 1) ∧ (∀ j, j < kc * 8 → kept2 j = kept j) ∧ ∀ j, j < 8 → kept2 (kc * 8 + j) = now j) ∨ (bo = 0 ∧ 20 ≤ kc)
theorem QPush_1 {kc dp : Nat} {now kept : FT} (h : kc < 20) : QPush kc dp now kept 1 (kc + 1) (max dp (kc + 1)) (va_cpy now kept 0 (kc * 8) 8) := by
  refine Or.inl ⟨rfl, h, rfl, rfl, fun j hj => pk_cpy_out (Or.inl hj), fun j hj => ?_⟩
  rw [pk_cpy_in (by omega) (by omega)]
  exact congrArg now (by omega)
def QPop (kc : Nat) (now kept : FT) (bo kc2 : Nat) (now2 : FT) : Prop :=
  (bo = 1 ∧ 0 < kc ∧ kc2 = kc - 1 ∧ ∀ j, j < 8 → now2 j = kept ((kc - 1) * 8 + j)) ∨ (bo = 0 ∧ kc = 0)
theorem QPop_1 {kc : Nat} {now kept : FT} (h : 0 < kc) : QPop kc now kept 1 (kc - 1) (va_cpy kept now ((kc - 1) * 8) 0 8) := by
  refine Or.inl ⟨rfl, h, rfl, fun j hj => ?_⟩
  rw [pk_cpy_in (by omega) (by omega)]
  exact congrArg kept (by omega)
def QChar (wid : FT) (pc ic : Nat) (co it : FT) (fo : Int32) (now : FT) (ch mv bo ic2 : Nat) (co2 it2 now2 : FT) : Prop :=
  (bo = 1 ∧ ch ≤ 127 ∧ 0 < pc ∧ ic < 200 ∧ (∃ f : Nat, f ≤ 7 ∧ fo = nI f ∧ ((mv = 0 ∧ now2 = now) ∨ (mv = 1 ∧ QMh now now2 (wid (f * 128 + ch))))) ∧ ic2 = ic + 1 ∧ co2 = upd co (pc - 1) (co (pc - 1) + nI 1) ∧ QPut ic now it it2) ∨
  (bo = 0 ∧ (127 < ch ∨ pc = 0 ∨ 200 ≤ ic ∨ fo = -1))
def QRule (row : FT) (n a pc ic : Nat) (co it now : FT) (mv bo ic2 : Nat) (co2 it2 now2 : FT) : Prop :=
  (bo = 1 ∧ ((mv = 0 ∧ now2 = now) ∨ (mv = 1 ∧ QMh now now2 (rdS row n (a + 3) 2))) ∧
    ((0 < (rdS row n (a + 1) 2).toInt ∧ 0 < (rdS row n (a + 3) 2).toInt ∧ 0 < pc ∧ ic < 200 ∧ ic2 = ic + 1 ∧ co2 = upd co (pc - 1) (co (pc - 1) + nI 1) ∧ QPut ic now it it2) ∨
     (¬ (0 < (rdS row n (a + 1) 2).toInt ∧ 0 < (rdS row n (a + 3) 2).toInt) ∧ ic2 = ic ∧ co2 = co ∧ it2 = it))) ∨
  (bo = 0 ∧ 0 < (rdS row n (a + 1) 2).toInt ∧ 0 < (rdS row n (a + 3) 2).toInt ∧ (pc = 0 ∨ 200 ≤ ic))
/-- W, X, Y, Z: the part p of the place, and the move by it -/
def QKh (p : Nat) (nw : Bool) (x : Int32) (now now2 : FT) : Prop := ∃ now1 : FT, now1 = (if nw then upd now p x else now) ∧ QMh now1 now2 (now1 p)
def QKv (p : Nat) (nw : Bool) (x : Int32) (now now2 : FT) : Prop := ∃ now1 : FT, now1 = (if nw then upd now p x else now) ∧ QMv now1 now2 (now1 p)
def QMove (row : FT) (n a op : Nat) (now now2 : FT) : Prop :=
  (136 ≤ op ∧ op ≤ 138 ∧ QMh now now2 (rdS row n (a + 1) (tbk op))) ∨
  (op = 139 ∧ QKh 4 false 0 now now2) ∨ (140 ≤ op ∧ op ≤ 142 ∧ QKh 4 true (rdS row n (a + 1) (tbk op)) now now2) ∨
  (op = 143 ∧ QKh 5 false 0 now now2) ∨ (144 ≤ op ∧ op ≤ 146 ∧ QKh 5 true (rdS row n (a + 1) (tbk op)) now now2) ∨
  (147 ≤ op ∧ op ≤ 149 ∧ QMv now now2 (rdS row n (a + 1) (tbk op))) ∨
  (op = 150 ∧ QKv 6 false 0 now now2) ∨ (151 ≤ op ∧ op ≤ 153 ∧ QKv 6 true (rdS row n (a + 1) (tbk op)) now now2) ∨
  (op = 154 ∧ QKv 7 false 0 now now2) ∨ (155 ≤ op ∧ op ≤ 157 ∧ QKv 7 true (rdS row n (a + 1) (tbk op)) now now2)
def QBehind (f mark scale : Nat) (st mk sc : FT) (bo : Nat) (st2 : FT) : Prop :=
  (bo = 1 ∧ f < 8 ∧ st f = nI 1 ∧ mk f = nI mark ∧ sc f = nI scale ∧ st2 = upd st f (nI 2)) ∨ (bo = 0 ∧ (8 ≤ f ∨ ¬ st f = nI 1 ∨ ¬ mk f = nI mark ∨ ¬ sc f = nI scale))
def QAhead (f mark scale : Nat) (st mk sc : FT) (bo : Nat) (st2 mk2 sc2 : FT) : Prop :=
  (bo = 1 ∧ f < 8 ∧ st f = nI 0 ∧ st2 = upd st f (nI 1) ∧ mk2 = upd mk f (nI mark) ∧ sc2 = upd sc f (nI scale)) ∨ (bo = 0 ∧ (8 ≤ f ∨ ¬ st f = nI 0))
def QDef (row : FT) (n a ph : Nat) (st mk sc : FT) (bo : Nat) (st2 mk2 sc2 : FT) : Prop :=
  (ph = 3 ∧ QBehind (rdN row n (a + 1) 1) (rdN row n (a + 2) 2) (rdN row n (a + 4) 2) st mk sc bo st2 ∧ mk2 = mk ∧ sc2 = sc) ∨
  (ph ≠ 3 ∧ QAhead (rdN row n (a + 1) 1) (rdN row n (a + 2) 2) (rdN row n (a + 4) 2) st mk sc bo st2 mk2 sc2)
def QChoose (st : FT) (f bo : Nat) (fo2 : Int32) : Prop := (bo = 1 ∧ ¬ st f = nI 0 ∧ fo2 = nI f) ∨ (bo = 0 ∧ st f = nI 0)
def QStart (row : FT) (n a : Nat) (bo : Nat) (fac2 : UInt64) : Prop :=
  (bo = 1 ∧ rdN row n (a + 1) 1 = 2 ∧ 1 ≤ rdN row n (a + 2) 2 ∧ 1 ≤ rdN row n (a + 4) 2 ∧ 1 ≤ rdN row n (a + 6) 2 ∧ fac2 = cnv (rdN row n (a + 2) 2) (rdN row n (a + 4) 2) (rdN row n (a + 6) 2)) ∨
  (bo = 0 ∧ (¬ rdN row n (a + 1) 1 = 2 ∨ rdN row n (a + 2) 2 < 1 ∨ rdN row n (a + 4) 2 < 1 ∨ rdN row n (a + 6) 2 < 1))
def QBegin (row : FT) (n a bA pc ic : Nat) (nu ad co : FT) (bo pc2 : Nat) (nu2 ad2 co2 now2 : FT) : Prop :=
  (bo = 1 ∧ rdN row n (a + 3) 2 = bA ∧ pc < 12 ∧ pc2 = pc + 1 ∧ nu2 = upd nu pc (rdS row n (a + 1) 2) ∧ ad2 = upd ad pc (nI a) ∧ co2 = upd co pc (nI 0) ∧ ∀ j, j < 8 → now2 j = nI 0) ∨
  (bo = 0 ∧ (¬ rdN row n (a + 3) 2 = bA ∨ 12 ≤ pc))
def QUnits (row : FT) (n a : Nat) : Prop := ∀ i, i < 6 → rdB row n (a + 3 + i) = rdB row n (2 + i)
def QLast (row : FT) (n a bA dp pc bo : Nat) : Prop :=
  (bo = 1 ∧ rdN row n (a + 1) 2 = bA ∧ QUnits row n a ∧ rdN row n (a + 9) 1 = dp ∧ rdN row n (a + 10) 2 = pc) ∨
  (bo = 0 ∧ (¬ rdN row n (a + 1) 2 = bA ∨ ¬ QUnits row n a ∨ ¬ rdN row n (a + 9) 1 = dp ∨ ¬ rdN row n (a + 10) 2 = pc))
def QAll (st : FT) : Prop := ∀ j, j < 8 → ¬ st j = nI 1
def QClose (row : FT) (n a lA : Nat) (st : FT) (bo : Nat) : Prop :=
  (bo = 1 ∧ rdN row n (a + 1) 2 = lA ∧ rdN row n (a + 3) 1 = 2 ∧ QAll st ∧ EW row n (a + 4)) ∨
  (bo = 0 ∧ (¬ rdN row n (a + 1) 2 = lA ∨ ¬ rdN row n (a + 3) 1 = 2 ∨ ¬ QAll st ∨ ¬ EW row n (a + 4)))
def QEnd (kc bo : Nat) : Prop := (bo = 1 ∧ kc = 0) ∨ (bo = 0 ∧ 0 < kc)
/-- what the class keeps: phase, beginAddress, lastAddress, factor, pages, items, numbers, addresses, counts, items, fonts' states, marks, scales, kept, depth, font, now, kept places -/
abbrev TC : Type := Nat × Nat × Nat × UInt64 × Nat × Nat × FT × FT × FT × FT × FT × FT × FT × Nat × Nat × Int32 × FT × FT
/-- a command in a page -/
def SI (row wid : FT) (n a ph bA lA : Nat) (fac : UInt64) (pc ic : Nat) (nu ad co it st mk sc : FT) (kc dp : Nat) (fo : Int32) (now kept : FT) (bo : Nat) (d : TC) : Prop :=
  (rdB row n a < 128 ∧ ∃ ic2 co2 it2 now2, QChar wid pc ic co it fo now (rdB row n a) 1 bo ic2 co2 it2 now2 ∧ d = (ph, bA, lA, fac, pc, ic2, nu, ad, co2, it2, st, mk, sc, kc, dp, fo, now2, kept)) ∨
  (rdB row n a = 128 ∧ ∃ ic2 co2 it2 now2, QChar wid pc ic co it fo now (rdN row n (a + 1) 1) 0 bo ic2 co2 it2 now2 ∧ d = (ph, bA, lA, fac, pc, ic2, nu, ad, co2, it2, st, mk, sc, kc, dp, fo, now2, kept)) ∨
  (rdB row n a = 129 ∧ ∃ ic2 co2 it2 now2, QRule row n a pc ic co it now 1 bo ic2 co2 it2 now2 ∧ d = (ph, bA, lA, fac, pc, ic2, nu, ad, co2, it2, st, mk, sc, kc, dp, fo, now2, kept)) ∨
  (rdB row n a = 130 ∧ ∃ ic2 co2 it2 now2, QRule row n a pc ic co it now 0 bo ic2 co2 it2 now2 ∧ d = (ph, bA, lA, fac, pc, ic2, nu, ad, co2, it2, st, mk, sc, kc, dp, fo, now2, kept)) ∨
  (rdB row n a = 131 ∧ bo = 1 ∧ d = (ph, bA, lA, fac, pc, ic, nu, ad, co, it, st, mk, sc, kc, dp, fo, now, kept)) ∨
  (rdB row n a = 133 ∧ QEnd kc bo ∧ d = (1, bA, lA, fac, pc, ic, nu, ad, co, it, st, mk, sc, kc, dp, fo, now, kept)) ∨
  (rdB row n a = 134 ∧ ∃ kc2 dp2 kept2, QPush kc dp now kept bo kc2 dp2 kept2 ∧ d = (ph, bA, lA, fac, pc, ic, nu, ad, co, it, st, mk, sc, kc2, dp2, fo, now, kept2)) ∨
  (rdB row n a = 135 ∧ ∃ kc2 now2, QPop kc now kept bo kc2 now2 ∧ d = (ph, bA, lA, fac, pc, ic, nu, ad, co, it, st, mk, sc, kc2, dp, fo, now2, kept)) ∨
  (136 ≤ rdB row n a ∧ rdB row n a ≤ 157 ∧ bo = 1 ∧ ∃ now2, QMove row n a (rdB row n a) now now2 ∧ d = (ph, bA, lA, fac, pc, ic, nu, ad, co, it, st, mk, sc, kc, dp, fo, now2, kept)) ∨
  (158 ≤ rdB row n a ∧ rdB row n a ≤ 165 ∧ ∃ fo2, QChoose st (rdB row n a - 158) bo fo2 ∧ d = (ph, bA, lA, fac, pc, ic, nu, ad, co, it, st, mk, sc, kc, dp, fo2, now, kept)) ∨
  (rdB row n a = 166 ∧ ∃ st2 mk2 sc2, QDef row n a ph st mk sc bo st2 mk2 sc2 ∧ d = (ph, bA, lA, fac, pc, ic, nu, ad, co, it, st2, mk2, sc2, kc, dp, fo, now, kept)) ∨
  ((rdB row n a = 132 ∨ 167 ≤ rdB row n a) ∧ bo = 0)
/-- a command outside of pages -/
def SO (row wid : FT) (n a ph bA lA : Nat) (fac : UInt64) (pc ic : Nat) (nu ad co it st mk sc : FT) (kc dp : Nat) (fo : Int32) (now kept : FT) (bo : Nat) (d : TC) : Prop :=
  (ph = 0 ∧ rdB row n a = 167 ∧ ∃ fac2, QStart row n a bo fac2 ∧ d = (1, bA, lA, fac2, pc, ic, nu, ad, co, it, st, mk, sc, kc, dp, fo, now, kept)) ∨
  (ph = 0 ∧ rdB row n a ≠ 167 ∧ bo = 0) ∨
  (ph ≠ 0 ∧ rdB row n a = 131 ∧ bo = 1 ∧ d = (ph, bA, lA, fac, pc, ic, nu, ad, co, it, st, mk, sc, kc, dp, fo, now, kept)) ∨
  (ph ≠ 0 ∧ rdB row n a = 166 ∧ ∃ st2 mk2 sc2, QDef row n a ph st mk sc bo st2 mk2 sc2 ∧ d = (ph, bA, lA, fac, pc, ic, nu, ad, co, it, st2, mk2, sc2, kc, dp, fo, now, kept)) ∨
  (ph = 3 ∧ rdB row n a = 169 ∧ QClose row n a lA st bo ∧ d = (4, bA, lA, fac, pc, ic, nu, ad, co, it, st, mk, sc, kc, dp, fo, now, kept)) ∨
  (ph = 3 ∧ rdB row n a ≠ 131 ∧ rdB row n a ≠ 166 ∧ rdB row n a ≠ 169 ∧ bo = 0) ∨
  (ph ≠ 0 ∧ ph ≠ 3 ∧ rdB row n a = 132 ∧ ∃ pc2 nu2 ad2 co2 now2, QBegin row n a bA pc ic nu ad co bo pc2 nu2 ad2 co2 now2 ∧ (bo = 1 → d = (2, a, lA, fac, pc2, ic, nu2, ad2, co2, it, st, mk, sc, 0, dp, -1, now2, kept))) ∨
  (ph ≠ 0 ∧ ph ≠ 3 ∧ rdB row n a = 168 ∧ QLast row n a bA dp pc bo ∧ d = (3, bA, a, fac, pc, ic, nu, ad, co, it, st, mk, sc, kc, dp, fo, now, kept)) ∨
  (ph ≠ 0 ∧ ph ≠ 3 ∧ rdB row n a ≠ 131 ∧ rdB row n a ≠ 166 ∧ rdB row n a ≠ 132 ∧ rdB row n a ≠ 168 ∧ bo = 0)
def StC (row wid : FT) (n a : Nat) : TC → Nat → TC → Prop := fun (ph, bA, lA, fac, pc, ic, nu, ad, co, it, st, mrk, sc, kc, dp, fo, now, kept) bo d =>
  (ph = 2 ∧ SI row wid n a ph bA lA fac pc ic nu ad co it st mrk sc kc dp fo now kept bo d) ∨ (ph ≠ 2 ∧ SO row wid n a ph bA lA fac pc ic nu ad co it st mrk sc kc dp fo now kept bo d)
def TC0 : TC → Prop := fun (ph, bA, lA, fac, pc, ic, nu, ad, co, it, st, mrk, sc, kc, dp, fo, now, kept) => ph = 0 ∧ bA = 65535 ∧ pc = 0 ∧ ic = 0 ∧ (∀ j, j < 8 → st j = nI 0) ∧ dp = 0
def Ch (row wid : FT) (n : Nat) (F : Nat → TC) (Ad : Nat → Nat) (i : Nat) : Prop :=
  Ad 0 = 0 ∧ TC0 (F 0) ∧ ∀ j, j < i → (Ad j < n ∧ (F j).1 ≠ 4 ∧ rdL row n (Ad j) ≠ 0 ∧ StC row wid n (Ad j) (F j) 1 (F (j + 1)) ∧ Ad (j + 1) = Ad j + rdL row n (Ad j))
def Rch (row wid : FT) (n i a : Nat) (c : TC) : Prop := ∃ (F : Nat → TC) (Ad : Nat → Nat), Ch row wid n F Ad i ∧ F i = c ∧ Ad i = a
theorem Rch_0 {row wid : FT} {n : Nat} {c : TC} (h : TC0 c) : Rch row wid n 0 0 c := ⟨fun _ => c, fun _ => 0, ⟨rfl, h, fun j hj => absurd hj (by omega)⟩, rfl, rfl⟩
theorem Rch_s {row wid : FT} {n i a a2 : Nat} {c d : TC} (h : Rch row wid n i a c) (ha : a < n) (hp : c.1 ≠ 4) (hl : rdL row n a ≠ 0) (hs : StC row wid n a c 1 d) (ha2 : a2 = a + rdL row n a) : Rch row wid n (i + 1) a2 d := by
  obtain ⟨F, Ad, ⟨h1, h2, h3⟩, e1, e2⟩ := h
  subst e1 e2 ha2
  refine ⟨fun j => if j = i + 1 then d else F j, fun j => if j = i + 1 then Ad i + rdL row n (Ad i) else Ad j, ⟨?_, ?_, ?_⟩, if_pos rfl, if_pos rfl⟩
  · dsimp only; rw [if_neg (by omega)]; exact h1
  · dsimp only; rw [if_neg (by omega)]; exact h2
  · intro j hj
    dsimp only
    by_cases e : j = i
    · subst e
      rw [if_neg (by omega), if_neg (by omega), if_pos rfl, if_pos rfl]
      exact ⟨ha, hp, hl, hs, rfl⟩
    · rw [if_neg (by omega), if_neg (by omega), if_neg (by omega), if_neg (by omega)]
      exact h3 j (by omega)
/-- how the reading ends: closed, or at a wrong command, or at the end of the file -/
def Fin3 (row wid : FT) (n a : Nat) (c : TC) : Prop := c.1 ≠ 4 ∧ (n ≤ a ∨ (a < n ∧ (rdL row n a = 0 ∨ ∃ d, StC row wid n a c 0 d)))
def FW (row wid : FT) (n : Nat) (r : Int32) (c : TC) : Prop := (r = -1 ∧ c.1 = 4 ∧ ∃ i a, Rch row wid n i a c) ∨ (∃ i a c0, Rch row wid n i a c0 ∧ Fin3 row wid n a c0 ∧ a ≤ n ∧ r = nI a)
def GR (row wid : FT) (n : Nat) (c : TC) : Prop := c.1 = 4 ∧ ∃ i a, Rch row wid n i a c
def BR (row wid : FT) (n : Nat) (wr : Int32) : Prop := ∃ i a c0, Rch row wid n i a c0 ∧ Fin3 row wid n a c0 ∧ wr = nI a
