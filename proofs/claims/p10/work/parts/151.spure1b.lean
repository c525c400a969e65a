/-! ===== rows for the class's walk ===== -/
theorem EW_mk {row : FT} {n a : Nat} (h1 : a + 4 ≤ n) (h2 : n % 4 = 0) (h3 : ∀ j, a ≤ j → j < n → byt row j = 223) : EW row n a := And.intro h1 (And.intro h2 h3)
def EWl (row : FT) (a i : Nat) : Prop := ∀ j, a ≤ j → j < i → byt row j = 223
theorem EWl_0 {row : FT} {a : Nat} : EWl row a a := fun j h1 h2 => absurd h1 (by omega)
theorem EWl_s {row : FT} {n a i : Nat} (h : EWl row a i) (hi : i < n) (e : rdB row n i = 223) : EWl row a (i + 1) := by
  intro j h1 h2
  by_cases q : j = i
  · subst q; rw [← rdB_lo hi]; exact e
  · exact h j h1 (by omega)
theorem EW_no {row : FT} {n a i : Nat} (h1 : a ≤ i) (hi : i < n) (e : ¬ rdB row n i = 223) : ¬ EW row n a := by
  intro h
  apply e
  rw [rdB_lo hi]
  exact h.2.2 i h1 hi
theorem Zr_c {i : Nat} {f : FT} (h : Zr i f) (e : 8 ≤ i) : Zr 8 f := fun j hj => h j (by omega)
def QAl (st : FT) (i : Nat) : Prop := ∀ j, j < i → ¬ st j = nI 1
theorem QAl_0 {st : FT} : QAl st 0 := fun j h => absurd h (by omega)
theorem QAl_s {st : FT} {i : Nat} (h : QAl st i) (e : ¬ st i = nI 1) : QAl st (i + 1) := by
  intro j hj
  by_cases q : j = i
  · subst q; exact e
  · exact h j (by omega)
theorem QAl_c {st : FT} {i : Nat} (h : QAl st i) (e : 8 ≤ i) : QAll st := fun j hj => h j (by omega)
theorem QAl_n {st : FT} {i : Nat} (hi : i < 8) (e : st i = nI 1) : ¬ QAll st := fun h => h i hi e
def QUl (row : FT) (n a i : Nat) : Prop := ∀ j, j < i → rdB row n (a + j) = rdB row n (2 + j)
theorem QUl_0 {row : FT} {n a : Nat} : QUl row n a 0 := fun j h => absurd h (by omega)
theorem QUl_s {row : FT} {n a i : Nat} (h : QUl row n a i) (e : rdB row n (a + i) = rdB row n (2 + i)) : QUl row n a (i + 1) := by
  intro j hj
  by_cases q : j = i
  · subst q; exact e
  · exact h j (by omega)
def QUn (row : FT) (n a : Nat) : Prop := ∀ i, i < 6 → rdB row n (a + i) = rdB row n (2 + i)
theorem QUl_c {row : FT} {n a i : Nat} (h : QUl row n a i) (e : 6 ≤ i) : QUn row n a := fun j hj => h j (by omega)
theorem QUl_n {row : FT} {n a i : Nat} (hi : i < 6) (e : ¬ rdB row n (a + i) = rdB row n (2 + i)) : ¬ QUn row n a := fun h => e (h i hi)
theorem QUn_u {row : FT} {n a : Nat} : QUn row n (a + 3) ↔ QUnits row n a := Iff.rfl
theorem mx_nI {a b : Nat} (ha : a < 1000) (hb : b < 1000) : (if nI a < nI b then nI b else nI a) = nI (max a b) := by
  by_cases h : a < b
  · rw [if_pos ((nI_ltI (by omega) (by omega)).mpr h), show max a b = b by omega]
  · rw [if_neg (fun q => h ((nI_ltI (by omega) (by omega)).mp q)), show max a b = a by omega]
def QSt (k p : Nat) (x : Int32) (now now1 : FT) : Prop := (k = 1 ∧ now1 = upd now p x) ∨ (k = 0 ∧ now1 = now)
theorem QKh_1 {p : Nat} {x : Int32} {now now1 now2 : FT} (h : QSt 1 p x now now1) (h2 : QMh now1 now2 (now1 p)) : QKh p true x now now2 := by
  rcases h with ⟨-, h⟩ | ⟨h, -⟩
  · exact ⟨now1, by rw [if_pos rfl]; exact h, h2⟩
  · exact absurd h (by decide)
theorem QKh_0 {p : Nat} {x : Int32} {now now1 now2 : FT} (h : QSt 0 p x now now1) (h2 : QMh now1 now2 (now1 p)) : QKh p false 0 now now2 := by
  rcases h with ⟨h, -⟩ | ⟨-, h⟩
  · exact absurd h (by decide)
  · exact ⟨now1, by rw [if_neg (by decide)]; exact h, h2⟩
theorem QKv_1 {p : Nat} {x : Int32} {now now1 now2 : FT} (h : QSt 1 p x now now1) (h2 : QMv now1 now2 (now1 p)) : QKv p true x now now2 := by
  rcases h with ⟨-, h⟩ | ⟨h, -⟩
  · exact ⟨now1, by rw [if_pos rfl]; exact h, h2⟩
  · exact absurd h (by decide)
theorem QKv_0 {p : Nat} {x : Int32} {now now1 now2 : FT} (h : QSt 0 p x now now1) (h2 : QMv now1 now2 (now1 p)) : QKv p false 0 now now2 := by
  rcases h with ⟨h, -⟩ | ⟨-, h⟩
  · exact absurd h (by decide)
  · exact ⟨now1, by rw [if_neg (by decide)]; exact h, h2⟩
section QM
variable {row : FT} {n a op : Nat} {now now1 now2 : FT} {x : Int32}
theorem qm_0 (h1 : 136 ≤ op) (h2 : op ≤ 138) (h : QMh now now2 (rdS row n (a + 1) (tbk op))) : QMove row n a op now now2 := Or.inl ⟨h1, h2, h⟩
theorem qm_1 (h1 : op = 139) (hs : QSt 0 4 x now now1) (h : QMh now1 now2 (now1 4)) : QMove row n a op now now2 := Or.inr (Or.inl ⟨h1, QKh_0 hs h⟩)
theorem qm_2 (h1 : 140 ≤ op) (h2 : op ≤ 142) (hs : QSt 1 4 (rdS row n (a + 1) (tbk op)) now now1) (h : QMh now1 now2 (now1 4)) : QMove row n a op now now2 := Or.inr (Or.inr (Or.inl ⟨h1, h2, QKh_1 hs h⟩))
theorem qm_3 (h1 : op = 143) (hs : QSt 0 5 x now now1) (h : QMh now1 now2 (now1 5)) : QMove row n a op now now2 := Or.inr (Or.inr (Or.inr (Or.inl ⟨h1, QKh_0 hs h⟩)))
theorem qm_4 (h1 : 144 ≤ op) (h2 : op ≤ 146) (hs : QSt 1 5 (rdS row n (a + 1) (tbk op)) now now1) (h : QMh now1 now2 (now1 5)) : QMove row n a op now now2 := Or.inr (Or.inr (Or.inr (Or.inr (Or.inl ⟨h1, h2, QKh_1 hs h⟩))))
theorem qm_5 (h1 : 147 ≤ op) (h2 : op ≤ 149) (h : QMv now now2 (rdS row n (a + 1) (tbk op))) : QMove row n a op now now2 := Or.inr (Or.inr (Or.inr (Or.inr (Or.inr (Or.inl ⟨h1, h2, h⟩)))))
theorem qm_6 (h1 : op = 150) (hs : QSt 0 6 x now now1) (h : QMv now1 now2 (now1 6)) : QMove row n a op now now2 := Or.inr (Or.inr (Or.inr (Or.inr (Or.inr (Or.inr (Or.inl ⟨h1, QKv_0 hs h⟩))))))
theorem qm_7 (h1 : 151 ≤ op) (h2 : op ≤ 153) (hs : QSt 1 6 (rdS row n (a + 1) (tbk op)) now now1) (h : QMv now1 now2 (now1 6)) : QMove row n a op now now2 := Or.inr (Or.inr (Or.inr (Or.inr (Or.inr (Or.inr (Or.inr (Or.inl ⟨h1, h2, QKv_1 hs h⟩)))))))
theorem qm_8 (h1 : op = 154) (hs : QSt 0 7 x now now1) (h : QMv now1 now2 (now1 7)) : QMove row n a op now now2 := Or.inr (Or.inr (Or.inr (Or.inr (Or.inr (Or.inr (Or.inr (Or.inr (Or.inl ⟨h1, QKv_0 hs h⟩))))))))
theorem qm_9 (h1 : 155 ≤ op) (h2 : op ≤ 157) (hs : QSt 1 7 (rdS row n (a + 1) (tbk op)) now now1) (h : QMv now1 now2 (now1 7)) : QMove row n a op now now2 := Or.inr (Or.inr (Or.inr (Or.inr (Or.inr (Or.inr (Or.inr (Or.inr (Or.inr ⟨h1, h2, QKv_1 hs h⟩))))))))
end QM
abbrev RJ (kc pc ic : Nat) (fi co : FT) (fac : UInt64) (fo : Int32) (ph bA lA dp : Nat) : Prop := kc ≤ 20 ∧ pc ≤ 12 ∧ ic ≤ 200 ∧ (ph ≤ 4 ∧ bA ≤ 65535 ∧ lA ≤ 65535 ∧ dp ≤ 20) ∧ PI pc ic fi co ∧ Fn fac ∧ FO fo
theorem TC0_mk {lA : Nat} {fac : UInt64} {nu ad co it st mk sc : FT} {kc : Nat} {fo : Int32} {now kept : FT} (h : Zr 8 st) : TC0 (0, 65535, lA, fac, 0, 0, nu, ad, co, it, st, mk, sc, kc, 0, fo, now, kept) := And.intro rfl (And.intro rfl (And.intro rfl (And.intro rfl (And.intro h rfl))))
section STC
variable {row wid : FT} {n a ph bA lA : Nat} {fac : UInt64} {pc ic : Nat} {nu ad co it st mk sc : FT} {kc dp : Nat} {fo : Int32} {now kept : FT} {bo bp i : Nat} {d c2 : TC}
theorem StC_in (h2 : ph = 2) (e : bo = bp) (h : SI row wid n a ph bA lA fac pc ic nu ad co it st mk sc kc dp fo now kept bo d) : StC row wid n a (ph, bA, lA, fac, pc, ic, nu, ad, co, it, st, mk, sc, kc, dp, fo, now, kept) bp d := by
  subst e
  exact Or.inl ⟨h2, h⟩
theorem StC_out (h2 : ph ≠ 2) (e : bo = bp) (h : SO row wid n a ph bA lA fac pc ic nu ad co it st mk sc kc dp fo now kept bo d) : StC row wid n a (ph, bA, lA, fac, pc, ic, nu, ad, co, it, st, mk, sc, kc, dp, fo, now, kept) bp d := by
  subst e
  exact Or.inr ⟨h2, h⟩
end STC
section FWR
variable {row wid : FT} {n a i : Nat} {c d c2 : TC}
theorem FW_cl (hR : Rch row wid n i a c) (h4 : c.1 = 4) : FW row wid n (-1) c := Or.inl ⟨rfl, h4, i, a, hR⟩
theorem FW_end (hR : Rch row wid n i a c) (h4 : c.1 ≠ 4) (h1 : n ≤ a) (h2 : a ≤ n) : FW row wid n (nI n) c2 := Or.inr ⟨i, a, c, hR, ⟨h4, Or.inl h1⟩, h2, congrArg nI (by omega)⟩
theorem FW_len (hR : Rch row wid n i a c) (h4 : c.1 ≠ 4) (h1 : a < n) (h2 : rdL row n a = 0) : FW row wid n (nI a) c2 := Or.inr ⟨i, a, c, hR, ⟨h4, Or.inr ⟨h1, Or.inl h2⟩⟩, by omega, rfl⟩
theorem FW_no (hR : Rch row wid n i a c) (h4 : c.1 ≠ 4) (h1 : a < n) (h2 : StC row wid n a c 0 d) : FW row wid n (nI a) c2 := Or.inr ⟨i, a, c, hR, ⟨h4, Or.inr ⟨h1, Or.inr ⟨d, h2⟩⟩⟩, by omega, rfl⟩
end FWR
/-- the greatest (k = 1) or least (k = 0) part p of the items 0 .. i -/
def xC (it : FT) (p k : Nat) : Nat → Int32
  | 0 => it p
  | i + 1 => if k = 0 then (if it ((i + 1) * 7 + p) < xC it p k i then it ((i + 1) * 7 + p) else xC it p k i) else (if xC it p k i < it ((i + 1) * 7 + p) then it ((i + 1) * 7 + p) else xC it p k i)
theorem xC_s {it : FT} {p k j : Nat} : xC it p k (j + 1) = if k = 0 then (if it ((j + 1) * 7 + p) < xC it p k j then it ((j + 1) * 7 + p) else xC it p k j) else (if xC it p k j < it ((j + 1) * 7 + p) then it ((j + 1) * 7 + p) else xC it p k j) := rfl
theorem xC_1 {it : FT} {p k i : Nat} (hk : k ≠ 0) (hi : 1 ≤ i) : (if xC it p k (i - 1) < it (i * 7 + p) then it (i * 7 + p) else xC it p k (i - 1)) = xC it p k (i + 1 - 1) := by
  obtain ⟨j, rfl⟩ : ∃ j, i = j + 1 := ⟨i - 1, by omega⟩
  rw [show j + 1 + 1 - 1 = j + 1 by omega, show j + 1 - 1 = j by omega, xC_s, if_neg hk]
theorem xC_0 {it : FT} {p k i : Nat} (hk : k = 0) (hi : 1 ≤ i) : (if it (i * 7 + p) < xC it p k (i - 1) then it (i * 7 + p) else xC it p k (i - 1)) = xC it p k (i + 1 - 1) := by
  obtain ⟨j, rfl⟩ : ∃ j, i = j + 1 := ⟨i - 1, by omega⟩
  rw [show j + 1 + 1 - 1 = j + 1 by omega, show j + 1 - 1 = j by omega, xC_s, if_pos hk]
