/-! ===== what the class's leaves answer ===== -/
theorem nbn {k : Nat} (h : k ≤ 1) : narrow .boolean (.int (nI k)) = .int (nI k) := by
  rcases (show k = 0 ∨ k = 1 by omega) with rfl | rfl
  · exact nb0
  · exact nb1
def bAt (row : Nat → Int32) (n a : Nat) : Int32 := if a < n then row a else nI 0
theorem bAt_lo {row : Nat → Int32} {n a : Nat} (h : a < n) : bAt row n a = row a := if_pos h
theorem bAt_hi {row : Nat → Int32} {n a : Nat} (h : n ≤ a) : bAt row n a = nI 0 := if_neg (by omega)
def bNum (row : Nat → Int32) (n a : Nat) : Nat → Int32
  | 0 => nI 0
  | i + 1 => (bNum row n a i <<< (nI 8 &&& 31)) ||| bAt row n (a + i)
def bSig (row : Nat → Int32) (n a k : Nat) : Int32 := (bNum row n a k <<< ((nI 32 - nI (8 * k)) &&& 31)) >>> ((nI 32 - nI (8 * k)) &&& 31)
def tbl (j : Nat) : Nat := [1, 4, 4, 0, 4, 0, 0, 0, 1, 2, 3, 0, 1, 2, 3, 0, 1, 2, 3, 1, 2, 3, 0, 1, 2, 3, 0, 1, 2, 3, 0, 0, 0, 0, 0, 0, 0, 0, 5, 7, 11, 3].getD j 0
theorem tbl_le (j : Nat) : tbl j ≤ 11 := by
  rcases Nat.lt_or_ge j 42 with h | h
  · exact (by decide : ∀ j, j < 42 → tbl j ≤ 11) j h
  · unfold tbl
    rw [List.getD_eq_getElem?_getD, List.getElem?_eq_none (by simpa using h)]
    exact Nat.zero_le _
def bbl (x : Int32) : Nat := if 128 ≤ x.toInt ∧ x.toInt ≤ 169 then tbl (x.toInt.toNat - 128) else 0
theorem bbl_le (x : Int32) : bbl x ≤ 11 := by
  unfold bbl
  split
  · exact tbl_le _
  · omega
theorem bbl_in {x : Int32} {j : Nat} (h : x.toInt = ((128 + j : Nat) : Int)) (hj : j < 42) : bbl x = tbl j := by
  unfold bbl
  rw [if_pos (by omega), show x.toInt.toNat - 128 = j by omega]
def bLen (row : Nat → Int32) (n a : Nat) : Nat := if (bAt row n a).toInt ≤ 169 then (if a + (1 + bbl (bAt row n a)) ≤ n then 1 + bbl (bAt row n a) else 0) else 0
theorem bLen_le {row : Nat → Int32} {n a : Nat} : bLen row n a ≤ 12 ∧ (bLen row n a = 0 ∨ a + bLen row n a ≤ n) := by
  have := bbl_le (bAt row n a)
  unfold bLen
  split
  · split <;> omega
  · omega
/-- the table of the static field -/
def OB (tb : Nat) : OT := fun A U H => va_Z "PageReader$Op" "BYTES_BEHIND" "[I" (.ref tb) A U H ∧ va_T .int tb 42 (fun j => .int (nI (tbl j))) A U H
theorem okB (tb : Nat) : Ok (OB tb) := ⟨fun _ _ _ _ hW h => ⟨va_Z.moved hW.alike h.1, va_T.moved hW.alike h.2⟩, fun _ _ _ _ h hq => ⟨va_Z.kept h.1 hq, va_T.kept h.2 hq⟩, fun _ _ _ _ h hAB => ⟨va_Z.narrow h.1 hAB, va_T.narrow h.2 hAB⟩⟩
/-- what the pages keep of their items -/
def PI (pc ic : Nat) (fi co : Nat → Int32) : Prop := ∀ j, j < pc → ∃ a b : Nat, fi j = nI a ∧ co j = nI b ∧ a + b ≤ ic
abbrev RI (kc pc ic : Nat) (fi co : Nat → Int32) (fac : UInt64) : Prop := kc ≤ 20 ∧ pc ≤ 12 ∧ ic ≤ 200 ∧ PI pc ic fi co ∧ Fn fac
theorem PI_0 {ic : Nat} {fi co : Nat → Int32} : PI 0 ic fi co := fun j h => absurd h (by omega)
theorem upd_s {f : Nat → Int32} {k : Nat} {x : Int32} : upd f k x k = x := pk_us
theorem upd_n {f : Nat → Int32} {k j : Nat} {x : Int32} (h : j ≠ k) : upd f k x j = f j := pk_un h
theorem PI_begin {pc ic : Nat} {fi co : Nat → Int32} (h : PI pc ic fi co) : PI (pc + 1) ic (upd fi pc (nI ic)) (upd co pc (nI 0)) := by
  intro j hj
  by_cases e : j = pc
  · subst e
    exact ⟨ic, 0, upd_s, upd_s, by omega⟩
  · rw [upd_n e, upd_n e]
    exact h j (by omega)
theorem PI_place {pc ic : Nat} {fi co : Nat → Int32} (h : PI pc ic fi co) (hp : 0 < pc) : PI pc (ic + 1) fi (upd co (pc - 1) (co (pc - 1) + nI 1)) := by
  intro j hj
  by_cases e : j = pc - 1
  · subst e
    obtain ⟨a, b, h1, h2, h3⟩ := h (pc - 1) (by omega)
    exact ⟨a, b + 1, h1, by rw [upd_s, h2]; exact nI_add b 1, by omega⟩
  · rw [upd_n e]
    obtain ⟨a, b, h1, h2, h3⟩ := h j hj
    exact ⟨a, b, h1, h2, by omega⟩
/-- the row of bytes with k bytes of a long put behind its first n -/
def bApp (row : Nat → Int32) (n : Nat) (x : Int64) : Nat → (Nat → Int32)
  | 0 => row
  | i + 1 => upd (bApp row n x i) (n + i) (((x.toUInt64 >>> ((nI (8 * i)).toInt64.toUInt64 &&& Int64.toUInt64 63)).toInt64).toInt32 &&& nI 255)
/-! ===== what the reference's leaves answer ===== -/
def mApp (fl : Nat → Int32) (n : Nat) (x : Int64) : Nat → (Nat → Int32)
  | 0 => fl
  | i + 1 => upd (mApp fl n x i) (n + i) (((x >>> ((nI (8 * i)).toInt64 &&& 63)) &&& 255).toInt32)
def mNum (fl : Nat → Int32) (a : Nat) : Nat → Int32
  | 0 => nI 0
  | i + 1 => mNum fl a i * nI 256 + fl (a + i)
def FB (fl : Nat → Int32) : Prop := ∀ j, ∃ b : Nat, fl j = nI b ∧ b ≤ 255
theorem mNum_2 {fl : Nat → Int32} (h : FB fl) (a : Nat) : ∃ v : Nat, mNum fl a 2 = nI v ∧ v ≤ 65535 := by
  obtain ⟨u, h1, h2⟩ := h a
  obtain ⟨w, h3, h4⟩ := h (a + 1)
  refine ⟨u * 256 + w, ?_, by omega⟩
  show (nI 0 * nI 256 + fl (a + 0)) * nI 256 + fl (a + 1) = _
  rw [Nat.add_zero, h1, h3, pk_mul, nI_add, pk_mul, nI_add]
  exact congrArg nI (by omega)
def tbk (k : Nat) : Nat := if 128 ≤ k ∧ k ≤ 169 then tbl (k - 128) else 0
theorem tbk_v {k : Nat} (h1 : 128 ≤ k) (h2 : k ≤ 169) : tbk k = tbl (k - 128) := if_pos ⟨h1, h2⟩
theorem tbk_0 {k : Nat} (h : k < 128 ∨ k = 131 ∨ (133 ≤ k ∧ k ≤ 135) ∨ (158 ≤ k ∧ k ≤ 165)) : tbk k = 0 := by
  rcases h with h | h | h | h
  · exact if_neg (by omega)
  · subst h; rfl
  · rcases (show k = 133 ∨ k = 134 ∨ k = 135 by omega) with rfl | rfl | rfl <;> rfl
  · rcases (show k = 158 ∨ k = 159 ∨ k = 160 ∨ k = 161 ∨ k = 162 ∨ k = 163 ∨ k = 164 ∨ k = 165 by omega) with rfl | rfl | rfl | rfl | rfl | rfl | rfl | rfl <;> rfl
theorem tbl_mv (k : Nat) (h : 136 ≤ k ∧ k ≤ 157) : (k ≤ 138 → k - 135 = tbl (k - 128)) ∧ (138 < k → k ≤ 142 → k - 139 = tbl (k - 128)) ∧ (142 < k → k ≤ 146 → k - 143 = tbl (k - 128)) ∧ (146 < k → k ≤ 149 → k - 146 = tbl (k - 128)) ∧ (149 < k → k ≤ 153 → k - 150 = tbl (k - 128)) ∧ (153 < k → k - 154 = tbl (k - 128)) := by
  rcases (show k = 136 ∨ k = 137 ∨ k = 138 ∨ k = 139 ∨ k = 140 ∨ k = 141 ∨ k = 142 ∨ k = 143 ∨ k = 144 ∨ k = 145 ∨ k = 146 ∨ k = 147 ∨ k = 148 ∨ k = 149 ∨ k = 150 ∨ k = 151 ∨ k = 152 ∨ k = 153 ∨ k = 154 ∨ k = 155 ∨ k = 156 ∨ k = 157 by omega) with rfl | rfl | rfl | rfl | rfl | rfl | rfl | rfl | rfl | rfl | rfl | rfl | rfl | rfl | rfl | rfl | rfl | rfl | rfl | rfl | rfl | rfl <;> (refine ⟨?_, ?_, ?_, ?_, ?_, ?_⟩ <;> intros <;> first | rfl | omega)
theorem tbl_3 (k : Nat) (h : 136 ≤ k ∧ k ≤ 157) : tbl (k - 128) ≤ 3 :=
  (by decide : ∀ k, k < 158 → 136 ≤ k → tbl (k - 128) ≤ 3) k (by omega) h.1
theorem tbk_in (k : Nat) : tbk k ≤ 11 ∧ (k = 128 → tbk k = 1) ∧ (129 ≤ k → k ≤ 130 → tbk k = 4) ∧ (k = 132 → tbk k = 4) ∧ (k = 166 → tbk k = 5) ∧ (k = 167 → tbk k = 7) ∧ (k = 168 → tbk k = 11) ∧ (k = 169 → tbk k = 3) ∧ (136 ≤ k → k ≤ 157 → tbk k = tbl (k - 128)) := by
  refine ⟨?_, ?_, ?_, ?_, ?_, ?_, ?_, ?_, ?_⟩
  · unfold tbk; split; exact tbl_le _; omega
  · rintro rfl; rfl
  · intro h1 h2; rcases (show k = 129 ∨ k = 130 by omega) with rfl | rfl <;> rfl
  · rintro rfl; rfl
  · rintro rfl; rfl
  · rintro rfl; rfl
  · rintro rfl; rfl
  · rintro rfl; rfl
  · intro h1 h2; exact tbk_v (by omega) (by omega)
theorem bh_ok {k v : Nat} (h : k ≤ 169) (e : v = tbk k) : ((k ≤ 169 ∧ nI v = nI (tbk k) ∧ (nI v).toInt = tbk k) ∨ (169 < k ∧ nI v = -1 ∧ (nI v).toInt = -1)) := by
  subst e
  have := (tbk_in k).1
  exact Or.inl ⟨h, rfl, nI_toInt (by omega)⟩
abbrev MJ (kc pc ic : Nat) (fi co : Nat → Int32) (fac : UInt64) (fo : Int32) (sta : Nat) : Prop := kc ≤ 20 ∧ pc ≤ 12 ∧ ic ≤ 200 ∧ PI pc ic fi co ∧ Fn fac ∧ (-1 ≤ fo.toInt ∧ fo.toInt ≤ 7) ∧ ((sta = 2 → 1 ≤ pc) ∧ sta ≤ 4)
abbrev oM (q : Nat → Nat) (ref : Int32) (n num den mag : Nat) (fac : UInt64) (who : Nat) (fnd : Int32) (pc ic a sta lb la : Nat) (fo : Int32) (dee kc : Nat) : Nat × va_E := (q 0, .inr (8, [.int ref, .ref (q 1), .int (nI n), .ref (q 2), .ref (q 3), .ref (q 4), .ref (q 5), .ref (q 6), .int (nI num), .int (nI den), .int (nI mag), .double fac, .int (nI who), .int fnd, .int (nI pc), .ref (q 7), .ref (q 8), .ref (q 9), .ref (q 10), .int (nI ic), .ref (q 11), .int (nI a), .int (nI sta), .int (nI lb), .int (nI la), .int fo, .int (nI dee), .int (nI kc), .ref (q 12), .ref (q 13)]))
