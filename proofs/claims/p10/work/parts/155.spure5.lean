/-! ===== rows for the reference's walk ===== -/
theorem rdN_add {row : FT} (hB : FB row) {n a i : Nat} (h : a + i < n) : nI (rdN row n a i * 256) + row (a + i) = nI (rdN row n a (i + 1)) := by
  rw [rdB_row hB h]
  exact nI_add _ _
theorem tbk_1 (k : Nat) (h : 136 ≤ k ∧ k ≤ 138 ∨ 147 ≤ k ∧ k ≤ 149) : 1 ≤ tbk k := by
  rcases (show k = 136 ∨ k = 137 ∨ k = 138 ∨ k = 147 ∨ k = 148 ∨ k = 149 by omega) with rfl | rfl | rfl | rfl | rfl | rfl <;> decide
theorem i_two {y : Int32} (h0 : 0 ≤ y.toInt) (h2 : y.toInt ≤ 2) (n0 : ¬ y = nI 0) (n1 : ¬ y = nI 1) : y = nI 2 := by
  obtain ⟨k, hk, e, ek⟩ := i_nonneg (x := y) (by omega)
  rcases (show k = 0 ∨ k = 1 ∨ k = 2 by omega) with rfl | rfl | rfl
  · exact absurd e n0
  · exact absurd e n1
  · exact e
theorem RC0_mk {row : FT} {n a la : Nat} (h1 : rdN row n (a + 1) 2 = la) (h2 : rdN row n (a + 3) 1 = 2) (h3 : a + 4 + 4 ≤ n) (h4 : n % 4 = 0) : RC0 row n a la := And.intro h1 (And.intro h2 (And.intro h3 h4))
theorem RC1_1 {row : FT} {n a la k i : Nat} (e : k = 1) (h : RC1 row n a la k i) : RC1 row n a la 1 i := by
  subst e
  exact h
theorem RC1_e {row : FT} {n a la k i i2 : Nat} (e : k = 0) (h : RC1 row n a la k i) : RC1 row n a la 0 i2 := by
  subst e
  exact RC1_k h
theorem RC2_1 {row : FT} {n a la k i : Nat} {df ag : FT} (e : k = 1) (h : RC2 row n a la df ag k i) : RC2 row n a la df ag 1 i := by
  subst e
  exact h
theorem RC2_e {row : FT} {n a la k i i2 : Nat} {df ag : FT} (e : k = 0) (h : RC2 row n a la df ag k i) : RC2 row n a la df ag 0 i2 := by
  subst e
  exact RC2_k h
theorem RC2_c {row : FT} {n a la k i : Nat} {df ag : FT} (h : RC2 row n a la df ag k i) (h1 : 8 ≤ i) (h2 : i ≤ 8) : RClose row n a la df ag k := by
  obtain rfl : i = 8 := by omega
  exact h
theorem SMt_of {row wd : FT} {n a b sta lb la num den mag : Nat} {fac : UInt64} {pc ic : Nat} {nu ad co it df ag mk sc : FT} {fo : Int32} {dee kc : Nat} {sp stk : FT} {bo bp : Nat} {d : TM} (ha : a = b) (e : bo = bp)
    (h : SM row wd n a sta lb la num den mag fac pc ic nu ad co it df ag mk sc fo dee kc sp stk bo d) : SMt row wd n b (sta, lb, la, num, den, mag, fac, pc, ic, nu, ad, co, it, df, ag, mk, sc, fo, dee, kc, sp, stk) bp d := by
  subst ha e
  exact h
theorem RR_00 {row wid : FT} {n : Nat} {F : Nat → TC} {Ad : Nat → Nat} {k : Nat} {la num den mag : Nat} {facm : UInt64} {nun adm com itm df ag mkm scm : FT} {fom : Int32} {kcm : Nat} {sp stk : FT} (hc : Ch row wid n F Ad k) (h1 : Zr 8 df) (h2 : Zr 8 ag) : RR row n (Ad 0) (F 0) (0, 65535, la, num, den, mag, facm, 0, 0, nun, adm, com, itm, df, ag, mkm, scm, fom, 0, kcm, sp, stk) := by
  rw [hc.1]
  exact RR_0 hc.2.1 h1 h2
theorem RdM_no {row : FT} {n a j k : Nat} {F : Nat → TC} {Ad : Nat → Nat} {m m2 : TM} {pcm : Nat} (ha : a = Ad j) (ej : j = k) (hR : RR row n (Ad j) (F j) m) (h4 : m.1 < 4) : RdM row n F Ad k (nI 0) (nI 1) 0 (nI a) pcm m2 := by
  subst ej
  exact Or.inr ⟨rfl, rfl, rfl, congrArg nI ha, fun h => by have := RR_ph hR; omega⟩
theorem RdM_yes {row : FT} {n j k : Nat} {F : Nat → TC} {Ad : Nat → Nat} {m : TM} {pcm : Nat} (ej : j = k) (hR : RR row n (Ad j) (F j) m) (h4 : m.1 = 4) : RdM row n F Ad k (nI pcm) (nI 0) 1 (-1) pcm m := by
  subst ej
  exact Or.inl ⟨rfl, rfl, rfl, rfl, (RR_ph hR).symm.trans h4, hR⟩
/-! page -/
def PgM (x y r : Int32) (pc : Nat) (nu co ad : FT) : Prop := ∃ j : Nat, x = nI j ∧ j < pc ∧ ((y = nI 0 ∧ r = nu j) ∨ (y = nI 1 ∧ r = co j) ∨ (y = nI 2 ∧ r = ad j))
section PG
variable {x y r : Int32} {pc j : Nat} {nu co ad : FT}
theorem PgM_0 (h : x = nI j) (hj : j < pc) (hy : y = nI 0) : PgM x y (nu j) pc nu co ad := ⟨j, h, hj, Or.inl ⟨hy, rfl⟩⟩
theorem PgM_1 (h : x = nI j) (hj : j < pc) (hy : y = nI 1) : PgM x y (co j) pc nu co ad := ⟨j, h, hj, Or.inr (Or.inl ⟨hy, rfl⟩)⟩
theorem PgM_2 (h : x = nI j) (hj : j < pc) (hy : y = nI 2) : PgM x y (ad j) pc nu co ad := ⟨j, h, hj, Or.inr (Or.inr ⟨hy, rfl⟩)⟩
theorem PgC_0 (h : (∃ j : Nat, x = nI j ∧ j < pc ∧ r = nu j) ∨ ¬ (0 ≤ x.toInt ∧ x.toInt < pc)) (hx : 0 ≤ x.toInt ∧ x.toInt < pc) (hy : y = nI 0) : PgM x y r pc nu co ad := by
  obtain ⟨j, h1, h2, h3⟩ := h.resolve_right (fun q => q hx)
  exact ⟨j, h1, h2, Or.inl ⟨hy, h3⟩⟩
theorem PgC_1 (h : (∃ j : Nat, x = nI j ∧ j < pc ∧ r = co j) ∨ ¬ (0 ≤ x.toInt ∧ x.toInt < pc)) (hx : 0 ≤ x.toInt ∧ x.toInt < pc) (hy : y = nI 1) : PgM x y r pc nu co ad := by
  obtain ⟨j, h1, h2, h3⟩ := h.resolve_right (fun q => q hx)
  exact ⟨j, h1, h2, Or.inr (Or.inl ⟨hy, h3⟩)⟩
theorem PgC_2 (h : (∃ j : Nat, x = nI j ∧ j < pc ∧ r = ad j) ∨ ¬ (0 ≤ x.toInt ∧ x.toInt < pc)) (hx : 0 ≤ x.toInt ∧ x.toInt < pc) (hy : y = nI 2) : PgM x y r pc nu co ad := by
  obtain ⟨j, h1, h2, h3⟩ := h.resolve_right (fun q => q hx)
  exact ⟨j, h1, h2, Or.inr (Or.inr ⟨hy, h3⟩)⟩
end PG
/-! most -/
def xM (it : FT) (w : Nat) : Nat → Int32
  | 0 => it (2 + w % 2)
  | i + 1 => if w < 2 then (if it (9 * i + 2 + w % 2) ≤ xM it w i then xM it w i else it (9 * i + 2 + w % 2)) else (if xM it w i ≤ it (9 * i + 2 + w % 2) then xM it w i else it (9 * i + 2 + w % 2))
theorem xM_s {it : FT} {w i : Nat} : xM it w (i + 1) = if w < 2 then (if it (9 * i + 2 + w % 2) ≤ xM it w i then xM it w i else it (9 * i + 2 + w % 2)) else (if xM it w i ≤ it (9 * i + 2 + w % 2) then xM it w i else it (9 * i + 2 + w % 2)) := rfl
section MO
variable {it : FT} {w i : Nat}
theorem xM_a (h : w < 2) (c : it (9 * i + 2 + w % 2) ≤ xM it w i) : xM it w i = xM it w (i + 1) := by rw [xM_s, if_pos h, if_pos c]
theorem xM_b (h : w < 2) (c : ¬ it (9 * i + 2 + w % 2) ≤ xM it w i) : it (9 * i + 2 + w % 2) = xM it w (i + 1) := by rw [xM_s, if_pos h, if_neg c]
theorem xM_c (h : ¬ w < 2) (c : xM it w i ≤ it (9 * i + 2 + w % 2)) : xM it w i = xM it w (i + 1) := by rw [xM_s, if_neg h, if_pos c]
theorem xM_d (h : ¬ w < 2) (c : ¬ xM it w i ≤ it (9 * i + 2 + w % 2)) : it (9 * i + 2 + w % 2) = xM it w (i + 1) := by rw [xM_s, if_neg h, if_neg c]
end MO
def MoC (x r : Int32) (ic : Nat) (it : FT) : Prop :=
  (r = nI 0 ∧ (ic = 0 ∨ ¬ (0 ≤ x.toInt ∧ x.toInt ≤ 3))) ∨ (0 < ic ∧ ∃ w : Nat, w ≤ 3 ∧ x = nI w ∧ r = xC it (2 + w % 2) (if w < 2 then 1 else 0) (ic - 1))
section MC
variable {x r : Int32} {ic : Nat} {it : FT}
theorem MoC_0 (e : x = nI 0) (h : (ic = 0 ∧ r = nI 0) ∨ (0 < ic ∧ r = xC it 2 1 (ic - 1))) : MoC x r ic it := by
  rcases h with ⟨h1, h2⟩ | ⟨h1, h2⟩
  · exact Or.inl ⟨h2, Or.inl h1⟩
  · exact Or.inr ⟨h1, 0, by decide, e, h2⟩
theorem MoC_1 (e : x = nI 1) (h : (ic = 0 ∧ r = nI 0) ∨ (0 < ic ∧ r = xC it 3 1 (ic - 1))) : MoC x r ic it := by
  rcases h with ⟨h1, h2⟩ | ⟨h1, h2⟩
  · exact Or.inl ⟨h2, Or.inl h1⟩
  · exact Or.inr ⟨h1, 1, by decide, e, h2⟩
theorem MoC_2 (e : x = nI 2) (h : (ic = 0 ∧ r = nI 0) ∨ (0 < ic ∧ r = xC it 2 0 (ic - 1))) : MoC x r ic it := by
  rcases h with ⟨h1, h2⟩ | ⟨h1, h2⟩
  · exact Or.inl ⟨h2, Or.inl h1⟩
  · exact Or.inr ⟨h1, 2, by decide, e, h2⟩
theorem MoC_3 (e : x = nI 3) (h : (ic = 0 ∧ r = nI 0) ∨ (0 < ic ∧ r = xC it 3 0 (ic - 1))) : MoC x r ic it := by
  rcases h with ⟨h1, h2⟩ | ⟨h1, h2⟩
  · exact Or.inl ⟨h2, Or.inl h1⟩
  · exact Or.inr ⟨h1, 3, by decide, e, h2⟩
end MC
def MoM (x r : Int32) (who ic : Nat) (it : FT) : Prop :=
  (r = nI 0 ∧ (who = 0 ∨ ic = 0 ∨ ¬ (0 ≤ x.toInt ∧ x.toInt ≤ 3))) ∨ (who ≠ 0 ∧ 0 < ic ∧ ∃ w : Nat, w ≤ 3 ∧ x = nI w ∧ r = xM it w ic)
theorem if_turn (a b : Int32) : (if a ≤ b then b else a) = if b < a then a else b := by
  by_cases h : b < a
  · rw [if_pos h, if_neg (fun q => by have := (i_lt b a).mp h; have := (i_le a b).mp q; omega)]
  · rw [if_neg h]
    by_cases q : a ≤ b
    · rw [if_pos q]
    · exact absurd ((i_le a b).mpr (by have := mt (i_lt b a).mpr h; omega)) q
theorem if_turn2 (a b : Int32) : (if b ≤ a then b else a) = if a < b then a else b := by
  by_cases h : a < b
  · rw [if_pos h, if_neg (fun q => by have := (i_lt a b).mp h; have := (i_le b a).mp q; omega)]
  · rw [if_neg h]
    by_cases q : b ≤ a
    · rw [if_pos q]
    · exact absurd ((i_le b a).mpr (by have := mt (i_lt a b).mpr h; omega)) q
theorem xM_xC {it itm : FT} {w k : Nat} (hk : (w < 2 ∧ k = 1) ∨ (¬ w < 2 ∧ k = 0)) : ∀ i, (∀ j, j ≤ i → itm (9 * j + 2 + w % 2) = it (j * 7 + (2 + w % 2))) → xM itm w (i + 1) = xC it (2 + w % 2) k i := by
  intro i
  induction i with
  | zero =>
    intro h
    have e0 := h 0 (by omega)
    rw [show 9 * 0 + 2 + w % 2 = 2 + w % 2 by omega, show 0 * 7 + (2 + w % 2) = 2 + w % 2 by omega] at e0
    rw [xM_s, show 9 * 0 + 2 + w % 2 = 2 + w % 2 by omega]
    show (if w < 2 then (if itm (2 + w % 2) ≤ itm (2 + w % 2) then itm (2 + w % 2) else itm (2 + w % 2)) else (if itm (2 + w % 2) ≤ itm (2 + w % 2) then itm (2 + w % 2) else itm (2 + w % 2))) = it (2 + w % 2)
    rw [ite_self, ite_self]
    exact e0
  | succ i ih =>
    intro h
    have e1 := h (i + 1) (by omega)
    rw [xM_s, ih (fun j hj => h j (by omega)), e1, xC_s]
    rcases hk with ⟨hw, rfl⟩ | ⟨hw, rfl⟩
    · rw [if_pos hw, if_neg (show ¬ (1 : Nat) = 0 by decide)]
      exact if_turn _ _
    · rw [if_neg hw, if_pos rfl]
      exact if_turn2 _ _
/-! ===== the two objects' answers ===== -/
section LRS
variable {pc ic : Nat} {fac : UInt64} {nu ad co it : FT} {wr : Int32} {who pcm icm : Nat} {facm : UInt64} {nun adm com itm : FT} {fnd : Int32}
theorem LR_w (h : LR pc ic fac nu ad co it wr who pcm icm facm nun adm com itm fnd) : who ≤ 1 := by
  rcases h.2 with h | h <;> omega
theorem LR_wr (h : LR pc ic fac nu ad co it wr who pcm icm facm nun adm com itm fnd) : wr = fnd := h.1
theorem conv_same (h : LR pc ic fac nu ad co it wr who pcm icm facm nun adm com itm fnd) {r : UInt64} (h1 : (who = 0 ∧ r = FP.dconst0) ∨ (who = 1 ∧ r = facm)) : r = fac := by
  rcases h.2 with ⟨h2, -, -, h3, -⟩ | ⟨h2, -, -, h3⟩
  · rcases h1 with ⟨h4, h5⟩ | ⟨h4, h5⟩
    · omega
    · rw [h5, h3]
  · rcases h1 with ⟨h4, h5⟩ | ⟨h4, h5⟩
    · rw [h5, h3]
    · omega
theorem page_same (h : LR pc ic fac nu ad co it wr who pcm icm facm nun adm com itm fnd) (hpc : pc ≤ 12) {x y r ref r' : Int32} {ov : Int64}
    (h1 : (r = nI 0 ∧ ∃ v : Int32, ov = v.toInt64 ∧ PgM x y v pc nu co ad) ∨ (r = nI 1 ∧ (¬ (0 ≤ x.toInt ∧ x.toInt < pc) ∨ ¬ (0 ≤ y.toInt ∧ y.toInt ≤ 2))))
    (h2 : (ref = nI 1 ∧ (who = 0 ∨ ¬ (0 ≤ x.toInt ∧ x.toInt < pcm) ∨ ¬ (0 ≤ y.toInt ∧ y.toInt ≤ 2))) ∨ (ref = nI 0 ∧ who = 1 ∧ PgM x y r' pcm nun com adm)) : ref = r ∧ (r = nI 0 → ov = r'.toInt64) := by
  have hy : ∀ k : Nat, k ≤ 2 → y = nI k → 0 ≤ y.toInt ∧ y.toInt ≤ 2 := fun k hk e => by rw [e, nI_toInt (by omega)]; omega
  have key : ∀ (v : Int32) (p : Nat) (a b c : FT), p ≤ 12 → PgM x y v p a b c → (0 ≤ x.toInt ∧ x.toInt < p) ∧ 0 ≤ y.toInt ∧ y.toInt ≤ 2 := by
    intro v p a b c hp q
    obtain ⟨j, e1, e2, e3⟩ := q
    refine ⟨by rw [e1, nI_toInt (by omega)]; omega, ?_⟩
    rcases e3 with ⟨e3, -⟩ | ⟨e3, -⟩ | ⟨e3, -⟩
    · exact hy 0 (by omega) e3
    · exact hy 1 (by omega) e3
    · exact hy 2 (by omega) e3
  rcases h1 with ⟨a1, v, a2, a3⟩ | ⟨a1, a2⟩
  · have k1 := key v pc nu co ad hpc a3
    rcases h.2 with ⟨g1, g2, -, -, hG, -⟩ | ⟨g1, g2, -⟩
    · subst g2
      rcases h2 with ⟨b1, b2⟩ | ⟨b1, b2, b3⟩
      · exfalso
        rcases b2 with b2 | b2 | b2
        · omega
        · exact b2 k1.1
        · exact b2 k1.2
      · refine ⟨by rw [a1, b1], fun _ => ?_⟩
        obtain ⟨j, e1, e2, e3⟩ := a3
        obtain ⟨j2, f1, f2, f3⟩ := b3
        have ej : j = j2 := (nI_eq (by omega) (by omega)).mp (e1.symm.trans f1)
        subst ej
        obtain ⟨g3, g4, g5⟩ := hG j e2
        have d01 : ∀ z : Int32, z = nI 0 → z = nI 1 → False := fun z p q => n01 (p.symm.trans q)
        have d02 : ∀ z : Int32, z = nI 0 → z = nI 2 → False := fun z p q => n02 (p.symm.trans q)
        have d12 : ∀ z : Int32, z = nI 1 → z = nI 2 → False := fun z p q => n12 (p.symm.trans q)
        rw [a2]
        congr 1
        rcases e3 with ⟨p1, p2⟩ | ⟨p1, p2⟩ | ⟨p1, p2⟩
        · rcases f3 with ⟨q1, q2⟩ | ⟨q1, q2⟩ | ⟨q1, q2⟩
          · rw [p2, q2, g3]
          · exact absurd q1 (fun q => d01 _ p1 q)
          · exact absurd q1 (fun q => d02 _ p1 q)
        · rcases f3 with ⟨q1, q2⟩ | ⟨q1, q2⟩ | ⟨q1, q2⟩
          · exact absurd p1 (fun q => d01 _ q1 q)
          · rw [p2, q2, g5]
          · exact absurd q1 (fun q => d12 _ p1 q)
        · rcases f3 with ⟨q1, q2⟩ | ⟨q1, q2⟩ | ⟨q1, q2⟩
          · exact absurd p1 (fun q => d02 _ q1 q)
          · exact absurd p1 (fun q => d12 _ q1 q)
          · rw [p2, q2, g4]
    · omega
  · refine ⟨?_, fun q => absurd (q.symm.trans a1) n01⟩
    rw [a1]
    rcases h2 with ⟨b1, -⟩ | ⟨b1, b2, b3⟩
    · exact b1
    · exfalso
      rcases h.2 with ⟨g1, g2, -, -, hG, -⟩ | ⟨g1, -⟩
      · subst g2
        have k2 := key r' pcm nun com adm hpc b3
        rcases a2 with a2 | a2
        · exact a2 k2.1
        · exact a2 k2.2
      · omega
theorem most_same (h : LR pc ic fac nu ad co it wr who pcm icm facm nun adm com itm fnd) {x r r' : Int32} (h1 : MoC x r ic it) (h2 : MoM x r' who icm itm) : r = r' := by
  have key : ∀ w : Nat, w ≤ 3 → x = nI w → 0 ≤ x.toInt ∧ x.toInt ≤ 3 := fun w hw e => by rw [e, nI_toInt (by omega)]; omega
  rcases h1 with ⟨a1, a2⟩ | ⟨a1, w, a2, a3, a4⟩
  · rcases h2 with ⟨b1, b2⟩ | ⟨b1, b2, v, b3, b4, b5⟩
    · rw [a1, b1]
    · exfalso
      rcases h.2 with ⟨g1, g2, g3, -⟩ | ⟨g1, -⟩
      · rcases a2 with a2 | a2
        · omega
        · exact a2 (key v b3 b4)
      · exact b1 g1
  · rcases h.2 with ⟨g1, g2, g3, -, -, hI⟩ | ⟨-, -, g3, -⟩
    · subst g3
      rcases h2 with ⟨b1, b2⟩ | ⟨b1, b2, v, b3, b4, b5⟩
      · exfalso
        rcases b2 with b2 | b2 | b2
        · omega
        · omega
        · exact b2 (key w a2 a3)
      · have ew : w = v := (nI_eq (by omega) (by omega)).mp (a3.symm.trans b4)
        subst ew
        have hx := xM_xC (it := it) (itm := itm) (w := w) (k := if w < 2 then 1 else 0) (by by_cases q : w < 2; exact Or.inl ⟨q, if_pos q⟩; exact Or.inr ⟨q, if_neg q⟩) (icm - 1) (fun j hj => by
          obtain ⟨e1, e2⟩ := hI j (by omega)
          rcases (show w % 2 = 0 ∨ w % 2 = 1 by omega) with q | q
          · rw [q]; exact e1
          · rw [q]; exact e2)
        rw [show icm - 1 + 1 = icm by omega] at hx
        rw [a4, b5, hx]
    · omega
end LRS
theorem RPl_c {kc i : Nat} {sp stk stk1 : FT} (h : RPl kc sp stk i stk1) (e : 8 ≤ i) : RPl kc sp stk 8 stk1 := ⟨h.1, fun j hj => h.2 j (by omega)⟩
theorem RQl_c {kc i : Nat} {stk sp1 : FT} (h : RQl kc stk i sp1) (e : 8 ≤ i) : RQl kc stk 8 sp1 := fun j hj => h j (by omega)
