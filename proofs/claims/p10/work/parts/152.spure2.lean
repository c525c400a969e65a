/-! ===== what a command does, as the reference keeps it ===== -/
theorem rdN_row {row : FT} (hB : FB row) {n a : Nat} (h : a < n) : row a = nI (rdN row n a 1) := by
  rw [rdN_1]
  exact rdB_row hB h
def RPut (ic : Nat) (sp it it2 : FT) : Prop := (∀ j, j < 9 * ic → it2 j = it j) ∧ it2 (9 * ic + 2) = sp 0 ∧ it2 (9 * ic + 3) = sp 1
theorem RPut_u {ic : Nat} {sp it : FT} {x y z t u v w : Int32} : RPut ic sp it (upd (upd (upd (upd (upd (upd (upd (upd (upd it (9 * ic) x) (9 * ic + 1) y) (9 * ic + 2) (sp 0)) (9 * ic + 3) (sp 1)) (9 * ic + 4) z) (9 * ic + 5) t) (9 * ic + 6) u) (9 * ic + 7) v) (9 * ic + 8) w) := by
  refine ⟨fun j h => ?_, ?_, ?_⟩
  · rw [upd_n (by omega), upd_n (by omega), upd_n (by omega), upd_n (by omega), upd_n (by omega), upd_n (by omega), upd_n (by omega), upd_n (by omega), upd_n (by omega)]
  · rw [upd_n (by omega), upd_n (by omega), upd_n (by omega), upd_n (by omega), upd_n (by omega), upd_n (by omega), upd_s]
  · rw [upd_n (by omega), upd_n (by omega), upd_n (by omega), upd_n (by omega), upd_n (by omega), upd_s]
def Hld (k : Nat) (sp sp2 : FT) : Prop := ∀ j, j ≠ k → sp2 j = sp j
theorem Hld_r {k : Nat} {sp : FT} : Hld k sp sp := fun _ _ => rfl
theorem Hld_u {k : Nat} {sp : FT} {x : Int32} : Hld k sp (upd sp k x) := fun _ h => upd_n h
def RMh (sp sp2 : FT) (x : Int32) : Prop := sp2 0 = sp 0 + x ∧ ∀ j, j ≠ 0 → j ≠ 6 → sp2 j = sp j
def RMv (sp sp2 : FT) (x : Int32) : Prop := sp2 1 = sp 1 + x ∧ ∀ j, j ≠ 1 → j ≠ 7 → sp2 j = sp j
theorem RMh_u {sp sp2 : FT} {x y : Int32} (h : Hld 6 (upd (upd sp 6 y) 0 (upd sp 6 y 0 + x)) sp2) : RMh sp sp2 x := by
  refine ⟨?_, fun j h0 h6 => ?_⟩
  · rw [h 0 (by decide), upd_s, upd_n (by decide)]
  · rw [h j h6, upd_n h0, upd_n h6]
theorem RMv_u {sp sp2 : FT} {x y : Int32} (h : Hld 7 (upd (upd sp 7 y) 1 (upd sp 7 y 1 + x)) sp2) : RMv sp sp2 x := by
  refine ⟨?_, fun j h0 h6 => ?_⟩
  · rw [h 1 (by decide), upd_s, upd_n (by decide)]
  · rw [h j h6, upd_n h0, upd_n h6]
def RPl (kc : Nat) (sp stk : FT) (i : Nat) (stk1 : FT) : Prop := (∀ j, j < 8 * kc → stk1 j = stk j) ∧ ∀ j, j < i → stk1 (8 * kc + j) = sp j
theorem RPl_0 {kc : Nat} {sp stk : FT} : RPl kc sp stk 0 stk := ⟨fun _ _ => rfl, fun j h => absurd h (by omega)⟩
theorem RPl_s {kc i : Nat} {sp stk stk1 : FT} (h : RPl kc sp stk i stk1) : RPl kc sp stk (i + 1) (upd stk1 (8 * kc + i) (sp i)) := by
  refine ⟨fun j hj => ?_, fun j hj => ?_⟩
  · rw [upd_n (by omega)]; exact h.1 j hj
  · by_cases e : j = i
    · subst e; rw [upd_s]
    · rw [upd_n (by omega)]; exact h.2 j (by omega)
def RPush (kc dee : Nat) (sp stk : FT) (bo kc2 dee2 : Nat) (stk2 : FT) : Prop :=
  (bo = 1 ∧ kc < 20 ∧ kc2 = kc + 1 ∧ dee2 = max dee (kc + 1) ∧ RPl kc sp stk 8 stk2) ∨ (bo = 0 ∧ 20 ≤ kc)
def RQl (kc : Nat) (stk : FT) (i : Nat) (sp1 : FT) : Prop := ∀ j, j < i → sp1 j = stk (8 * (kc - 1) + j)
theorem RQl_0 {kc : Nat} {stk sp : FT} : RQl kc stk 0 sp := fun j h => absurd h (by omega)
theorem RQl_s {kc i : Nat} {stk sp1 : FT} (h : RQl kc stk i sp1) : RQl kc stk (i + 1) (upd sp1 i (stk (8 * (kc - 1) + i))) := by
  intro j hj
  by_cases e : j = i
  · subst e; rw [upd_s]
  · rw [upd_n e]; exact h j (by omega)
def RPop (kc : Nat) (stk : FT) (bo kc2 : Nat) (sp2 : FT) : Prop := (bo = 1 ∧ 0 < kc ∧ kc2 = kc - 1 ∧ RQl kc stk 8 sp2) ∨ (bo = 0 ∧ kc = 0)
def RChar (wd : FT) (pc ic : Nat) (co it : FT) (fo : Int32) (sp : FT) (ch mv bo ic2 : Nat) (co2 it2 sp2 : FT) : Prop :=
  (bo = 1 ∧ ch ≤ 127 ∧ ic < 200 ∧ (∃ f : Nat, f ≤ 7 ∧ fo = nI f ∧ ((mv = 0 ∧ sp2 = sp) ∨ (mv = 1 ∧ RMh sp sp2 (wd (128 * f + ch))))) ∧ ic2 = ic + 1 ∧ co2 = upd co (pc - 1) (co (pc - 1) + nI 1) ∧ RPut ic sp it it2) ∨
  (bo = 0 ∧ (127 < ch ∨ 200 ≤ ic ∨ fo = -1))
def RRule (row : FT) (n a pc ic : Nat) (co it sp : FT) (mv bo ic2 : Nat) (co2 it2 sp2 : FT) : Prop :=
  (bo = 1 ∧ ((mv = 0 ∧ sp2 = sp) ∨ (mv = 1 ∧ RMh sp sp2 (rdS row n (a + 3) 2))) ∧
    ((0 < (rdS row n (a + 1) 2).toInt ∧ 0 < (rdS row n (a + 3) 2).toInt ∧ ic < 200 ∧ ic2 = ic + 1 ∧ co2 = upd co (pc - 1) (co (pc - 1) + nI 1) ∧ RPut ic sp it it2) ∨
     (¬ (0 < (rdS row n (a + 1) 2).toInt ∧ 0 < (rdS row n (a + 3) 2).toInt) ∧ ic2 = ic ∧ co2 = co ∧ it2 = it))) ∨
  (bo = 0 ∧ 0 < (rdS row n (a + 1) 2).toInt ∧ 0 < (rdS row n (a + 3) 2).toInt ∧ 200 ≤ ic)
def RKh (p : Nat) (nw : Bool) (x : Int32) (sp sp2 : FT) : Prop := ∃ sp1 : FT, sp1 = (if nw then upd sp p x else sp) ∧ RMh sp1 sp2 (sp1 p)
def RKv (p : Nat) (nw : Bool) (x : Int32) (sp sp2 : FT) : Prop := ∃ sp1 : FT, sp1 = (if nw then upd sp p x else sp) ∧ RMv sp1 sp2 (sp1 p)
/-- kept(p, k): k bytes, no new one where k is 0 -/
def RKept (row : FT) (n a p k : Nat) (sp sp2 : FT) : Prop := ∃ sp1 : FT, ((0 < k ∧ sp1 = upd sp p (rdS row n (a + 1) k)) ∨ (k = 0 ∧ sp1 = sp)) ∧ ((p < 4 ∧ RMh sp1 sp2 (sp1 p)) ∨ (4 ≤ p ∧ RMv sp1 sp2 (sp1 p)))
def RMove (row : FT) (n a op : Nat) (sp sp2 : FT) : Prop :=
  (136 ≤ op ∧ op ≤ 138 ∧ RMh sp sp2 (rdS row n (a + 1) (tbk op))) ∨ (147 ≤ op ∧ op ≤ 149 ∧ RMv sp sp2 (rdS row n (a + 1) (tbk op))) ∨
  (139 ≤ op ∧ op ≤ 142 ∧ RKept row n a 2 (tbk op) sp sp2) ∨ (143 ≤ op ∧ op ≤ 146 ∧ RKept row n a 3 (tbk op) sp sp2) ∨
  (150 ≤ op ∧ op ≤ 153 ∧ RKept row n a 4 (tbk op) sp sp2) ∨ (154 ≤ op ∧ op ≤ 157 ∧ RKept row n a 5 (tbk op) sp sp2)
def RDef (row : FT) (n a sta : Nat) (df ag mk sc : FT) (bo : Nat) (df2 ag2 mk2 sc2 : FT) : Prop :=
  (bo = 1 ∧ sta = 3 ∧ rdN row n (a + 1) 1 < 8 ∧ ¬ df (rdN row n (a + 1) 1) = nI 0 ∧ ag (rdN row n (a + 1) 1) = nI 0 ∧ mk (rdN row n (a + 1) 1) = nI (rdN row n (a + 2) 2) ∧ sc (rdN row n (a + 1) 1) = nI (rdN row n (a + 4) 2) ∧ df2 = df ∧ ag2 = upd ag (rdN row n (a + 1) 1) (nI 1) ∧ mk2 = mk ∧ sc2 = sc) ∨
  (bo = 1 ∧ sta ≠ 3 ∧ rdN row n (a + 1) 1 < 8 ∧ df (rdN row n (a + 1) 1) = nI 0 ∧ df2 = upd df (rdN row n (a + 1) 1) (nI 1) ∧ ag2 = ag ∧ mk2 = upd mk (rdN row n (a + 1) 1) (nI (rdN row n (a + 2) 2)) ∧ sc2 = upd sc (rdN row n (a + 1) 1) (nI (rdN row n (a + 4) 2))) ∨
  (bo = 0 ∧ (8 ≤ rdN row n (a + 1) 1 ∨ (sta ≠ 3 ∧ ¬ df (rdN row n (a + 1) 1) = nI 0) ∨ (sta = 3 ∧ (df (rdN row n (a + 1) 1) = nI 0 ∨ ¬ ag (rdN row n (a + 1) 1) = nI 0 ∨ ¬ mk (rdN row n (a + 1) 1) = nI (rdN row n (a + 2) 2) ∨ ¬ sc (rdN row n (a + 1) 1) = nI (rdN row n (a + 4) 2)))))
def RChoose (df : FT) (f bo : Nat) (fo2 : Int32) : Prop := (bo = 1 ∧ ¬ df f = nI 0 ∧ fo2 = nI f) ∨ (bo = 0 ∧ df f = nI 0)
def RStart (row : FT) (n a : Nat) (bo num2 den2 mag2 : Nat) (fac2 : UInt64) (sta2 : Nat) : Prop :=
  (bo = 1 ∧ rdN row n (a + 1) 1 = 2 ∧ 1 ≤ rdN row n (a + 2) 2 ∧ 1 ≤ rdN row n (a + 4) 2 ∧ 1 ≤ rdN row n (a + 6) 2 ∧ num2 = rdN row n (a + 2) 2 ∧ den2 = rdN row n (a + 4) 2 ∧ mag2 = rdN row n (a + 6) 2 ∧ fac2 = cnv (rdN row n (a + 2) 2) (rdN row n (a + 4) 2) (rdN row n (a + 6) 2) ∧ sta2 = 1) ∨
  (bo = 0 ∧ (¬ rdN row n (a + 1) 1 = 2 ∨ rdN row n (a + 2) 2 < 1 ∨ rdN row n (a + 4) 2 < 1 ∨ rdN row n (a + 6) 2 < 1))
def RBegin (row : FT) (n a lb pc : Nat) (nu ad co : FT) (bo pc2 : Nat) (nu2 ad2 co2 sp2 : FT) : Prop :=
  (bo = 1 ∧ rdN row n (a + 3) 2 = lb ∧ pc < 12 ∧ pc2 = pc + 1 ∧ nu2 = upd nu pc (rdS row n (a + 1) 2) ∧ ad2 = upd ad pc (nI a) ∧ co2 = upd co pc (nI 0) ∧ Zr 8 sp2) ∨
  (bo = 0 ∧ (¬ rdN row n (a + 3) 2 = lb ∨ 12 ≤ pc))
def RLast (row : FT) (n a lb num den mag dee pc bo : Nat) : Prop :=
  (bo = 1 ∧ rdN row n (a + 1) 2 = lb ∧ rdN row n (a + 3) 2 = num ∧ rdN row n (a + 5) 2 = den ∧ rdN row n (a + 7) 2 = mag ∧ rdN row n (a + 9) 1 = dee ∧ rdN row n (a + 10) 2 = pc) ∨
  (bo = 0 ∧ (¬ rdN row n (a + 1) 2 = lb ∨ ¬ rdN row n (a + 3) 2 = num ∨ ¬ rdN row n (a + 5) 2 = den ∨ ¬ rdN row n (a + 7) 2 = mag ∨ ¬ rdN row n (a + 9) 1 = dee ∨ ¬ rdN row n (a + 10) 2 = pc))
/-- close: the four conditions, then the bytes up to i, then the fonts up to i -/
def RC0 (row : FT) (n a la : Nat) : Prop := rdN row n (a + 1) 2 = la ∧ rdN row n (a + 3) 1 = 2 ∧ a + 4 + 4 ≤ n ∧ n % 4 = 0
def RC1 (row : FT) (n a la k i : Nat) : Prop := (k = 1 ∧ RC0 row n a la ∧ ∀ j, a + 4 ≤ j → j < i → byt row j = 223) ∨ (k = 0 ∧ ¬ (RC0 row n a la ∧ ∀ j, a + 4 ≤ j → j < n → byt row j = 223))
theorem RC1_0 {row : FT} {n a la : Nat} (h : RC0 row n a la) : RC1 row n a la 1 (a + 4) := Or.inl ⟨rfl, h, fun j h1 h2 => absurd h1 (by omega)⟩
theorem RC1_n {row : FT} {n a la i : Nat} (h : ¬ RC0 row n a la) : RC1 row n a la 0 i := Or.inr ⟨rfl, fun q => h q.1⟩
theorem RC1_s {row : FT} {n a la i : Nat} (h : RC1 row n a la 1 i) (e : byt row i = 223) : RC1 row n a la 1 (i + 1) := by
  rcases h with ⟨-, h1, h2⟩ | ⟨h, -⟩
  · refine Or.inl ⟨rfl, h1, fun j h3 h4 => ?_⟩
    by_cases q : j = i
    · subst q; exact e
    · exact h2 j h3 (by omega)
  · exact absurd h (by decide)
theorem RC1_f {row : FT} {n a la i k : Nat} (h : a + 4 ≤ i) (h2 : i < n) (e : ¬ byt row i = 223) : RC1 row n a la 0 k := Or.inr ⟨rfl, fun q => e (q.2 i h h2)⟩
theorem RC1_k {row : FT} {n a la i i2 : Nat} (h : RC1 row n a la 0 i) : RC1 row n a la 0 i2 := by
  rcases h with ⟨h, -⟩ | ⟨-, h⟩
  · exact absurd h (by decide)
  · exact Or.inr ⟨rfl, h⟩
def RC2 (row : FT) (n a la : Nat) (df ag : FT) (k i : Nat) : Prop := (k = 1 ∧ (RC0 row n a la ∧ ∀ j, a + 4 ≤ j → j < n → byt row j = 223) ∧ ∀ j, j < i → df j = ag j) ∨ (k = 0 ∧ ¬ ((RC0 row n a la ∧ ∀ j, a + 4 ≤ j → j < n → byt row j = 223) ∧ ∀ j, j < 8 → df j = ag j))
theorem RC2_0 {row : FT} {n a la k i : Nat} {df ag : FT} (h : RC1 row n a la k i) (hi : n ≤ i) : RC2 row n a la df ag k 0 := by
  rcases h with ⟨h, h1, h2⟩ | ⟨h, h1⟩
  · exact Or.inl ⟨h, ⟨h1, fun j a b => h2 j a (by omega)⟩, fun j q => absurd q (by omega)⟩
  · exact Or.inr ⟨h, fun q => h1 q.1⟩
theorem RC2_s {row : FT} {n a la i : Nat} {df ag : FT} (h : RC2 row n a la df ag 1 i) (e : df i = ag i) : RC2 row n a la df ag 1 (i + 1) := by
  rcases h with ⟨-, h1, h2⟩ | ⟨h, -⟩
  · refine Or.inl ⟨rfl, h1, fun j h4 => ?_⟩
    by_cases q : j = i
    · subst q; exact e
    · exact h2 j (by omega)
  · exact absurd h (by decide)
theorem RC2_f {row : FT} {n a la i k : Nat} {df ag : FT} (h : i < 8) (e : ¬ df i = ag i) : RC2 row n a la df ag 0 k := Or.inr ⟨rfl, fun q => e (q.2 i h)⟩
theorem RC2_k {row : FT} {n a la i i2 : Nat} {df ag : FT} (h : RC2 row n a la df ag 0 i) : RC2 row n a la df ag 0 i2 := by
  rcases h with ⟨h, -⟩ | ⟨-, h⟩
  · exact absurd h (by decide)
  · exact Or.inr ⟨rfl, h⟩
def RClose (row : FT) (n a la : Nat) (df ag : FT) (bo : Nat) : Prop := RC2 row n a la df ag bo 8
/-- what the reference keeps: state, lastBegin, lastAt, num, den, mag, factor, pages, items, numbers, addresses, counts, item, defined, again, marks, scales, font, deepest, depth, spot, stack -/
abbrev TM : Type := Nat × Nat × Nat × Nat × Nat × Nat × UInt64 × Nat × Nat × FT × FT × FT × FT × FT × FT × FT × FT × Int32 × Nat × Nat × FT × FT
def SMI (row wd : FT) (n a k sta lb la num den mag : Nat) (fac : UInt64) (pc ic : Nat) (nu ad co it df ag mk sc : FT) (fo : Int32) (dee kc : Nat) (sp stk : FT) (bo : Nat) (d : TM) : Prop :=
  (k < 128 ∧ ∃ ic2 co2 it2 sp2, RChar wd pc ic co it fo sp k 1 bo ic2 co2 it2 sp2 ∧ d = (sta, lb, la, num, den, mag, fac, pc, ic2, nu, ad, co2, it2, df, ag, mk, sc, fo, dee, kc, sp2, stk)) ∨
  (k = 128 ∧ ∃ ic2 co2 it2 sp2, RChar wd pc ic co it fo sp (rdN row n (a + 1) 1) 0 bo ic2 co2 it2 sp2 ∧ d = (sta, lb, la, num, den, mag, fac, pc, ic2, nu, ad, co2, it2, df, ag, mk, sc, fo, dee, kc, sp2, stk)) ∨
  (k = 129 ∧ ∃ ic2 co2 it2 sp2, RRule row n a pc ic co it sp 1 bo ic2 co2 it2 sp2 ∧ d = (sta, lb, la, num, den, mag, fac, pc, ic2, nu, ad, co2, it2, df, ag, mk, sc, fo, dee, kc, sp2, stk)) ∨
  (k = 130 ∧ ∃ ic2 co2 it2 sp2, RRule row n a pc ic co it sp 0 bo ic2 co2 it2 sp2 ∧ d = (sta, lb, la, num, den, mag, fac, pc, ic2, nu, ad, co2, it2, df, ag, mk, sc, fo, dee, kc, sp2, stk)) ∨
  (k = 133 ∧ QEnd kc bo ∧ d = (1, lb, la, num, den, mag, fac, pc, ic, nu, ad, co, it, df, ag, mk, sc, fo, dee, kc, sp, stk)) ∨
  (k = 134 ∧ ∃ kc2 dee2 stk2, RPush kc dee sp stk bo kc2 dee2 stk2 ∧ d = (sta, lb, la, num, den, mag, fac, pc, ic, nu, ad, co, it, df, ag, mk, sc, fo, dee2, kc2, sp, stk2)) ∨
  (k = 135 ∧ ∃ kc2 sp2, RPop kc stk bo kc2 sp2 ∧ d = (sta, lb, la, num, den, mag, fac, pc, ic, nu, ad, co, it, df, ag, mk, sc, fo, dee, kc2, sp2, stk)) ∨
  (136 ≤ k ∧ k ≤ 157 ∧ bo = 1 ∧ ∃ sp2, RMove row n a k sp sp2 ∧ d = (sta, lb, la, num, den, mag, fac, pc, ic, nu, ad, co, it, df, ag, mk, sc, fo, dee, kc, sp2, stk)) ∨
  (158 ≤ k ∧ k ≤ 165 ∧ ∃ fo2, RChoose df (k - 158) bo fo2 ∧ d = (sta, lb, la, num, den, mag, fac, pc, ic, nu, ad, co, it, df, ag, mk, sc, fo2, dee, kc, sp, stk)) ∨
  ((k = 131 ∨ k = 132 ∨ 166 ≤ k) ∧ bo = 0)
def SM (row wd : FT) (n a sta lb la num den mag : Nat) (fac : UInt64) (pc ic : Nat) (nu ad co it df ag mk sc : FT) (fo : Int32) (dee kc : Nat) (sp stk : FT) (bo : Nat) (d : TM) : Prop :=
  ((169 < rdB row n a ∨ n ≤ a + tbk (rdB row n a)) ∧ bo = 0) ∨
  (rdB row n a ≤ 169 ∧ a + tbk (rdB row n a) < n ∧
   ((sta = 0 ∧ rdB row n a = 167 ∧ ∃ num2 den2 mag2 fac2 sta2, RStart row n a bo num2 den2 mag2 fac2 sta2 ∧ d = (sta2, lb, la, num2, den2, mag2, fac2, pc, ic, nu, ad, co, it, df, ag, mk, sc, fo, dee, kc, sp, stk)) ∨
    (sta = 0 ∧ rdB row n a ≠ 167 ∧ bo = 0) ∨
    (sta ≠ 0 ∧ rdB row n a = 131 ∧ bo = 1 ∧ d = (sta, lb, la, num, den, mag, fac, pc, ic, nu, ad, co, it, df, ag, mk, sc, fo, dee, kc, sp, stk)) ∨
    (sta ≠ 0 ∧ rdB row n a = 166 ∧ ∃ df2 ag2 mk2 sc2, RDef row n a sta df ag mk sc bo df2 ag2 mk2 sc2 ∧ d = (sta, lb, la, num, den, mag, fac, pc, ic, nu, ad, co, it, df2, ag2, mk2, sc2, fo, dee, kc, sp, stk)) ∨
    (sta = 2 ∧ rdB row n a ≠ 131 ∧ rdB row n a ≠ 166 ∧ SMI row wd n a (rdB row n a) sta lb la num den mag fac pc ic nu ad co it df ag mk sc fo dee kc sp stk bo d) ∨
    (sta = 1 ∧ rdB row n a = 132 ∧ ∃ pc2 nu2 ad2 co2 sp2, RBegin row n a lb pc nu ad co bo pc2 nu2 ad2 co2 sp2 ∧ (bo = 1 → d = (2, a, la, num, den, mag, fac, pc2, ic, nu2, ad2, co2, it, df, ag, mk, sc, -1, dee, 0, sp2, stk))) ∨
    (sta = 1 ∧ rdB row n a = 168 ∧ RLast row n a lb num den mag dee pc bo ∧ d = (3, lb, a, num, den, mag, fac, pc, ic, nu, ad, co, it, df, ag, mk, sc, fo, dee, kc, sp, stk)) ∨
    (sta = 1 ∧ rdB row n a ≠ 131 ∧ rdB row n a ≠ 166 ∧ rdB row n a ≠ 132 ∧ rdB row n a ≠ 168 ∧ bo = 0) ∨
    (3 ≤ sta ∧ rdB row n a = 169 ∧ RClose row n a la df ag bo ∧ d = (4, lb, la, num, den, mag, fac, pc, ic, nu, ad, co, it, df, ag, mk, sc, fo, dee, kc, sp, stk)) ∨
    (3 ≤ sta ∧ rdB row n a ≠ 131 ∧ rdB row n a ≠ 166 ∧ rdB row n a ≠ 169 ∧ bo = 0)))
abbrev MK (kc pc ic : Nat) (fi co : FT) (fac : UInt64) (fo : Int32) (sta lb la dee num den mag : Nat) : Prop := kc ≤ 20 ∧ pc ≤ 12 ∧ ic ≤ 200 ∧ PI pc ic fi co ∧ Fn fac ∧ FO fo ∧ ((sta = 2 → 1 ≤ pc) ∧ sta ≤ 4) ∧ (lb ≤ 65535 ∧ la ≤ 65535 ∧ dee ≤ 20 ∧ num ≤ 16777215 ∧ den ≤ 16777215 ∧ mag ≤ 16777215)
