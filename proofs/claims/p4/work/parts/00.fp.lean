/-! ===== numbers of the pixels: what is finite stays a number ===== -/
def Fn (x : UInt64) : Prop := ∃ (s : Bool) (c : Nat) (q : Int), FP.Core.val64 x = .fin s c q
theorem vf_of {x : UInt64} (h : FP.Core.val64 x ≠ .nan) : vf_n64 x := by
  unfold vf_n64
  have e1 : (0x7fffffffffffffff : UInt64).toNat = 2 ^ 63 - 1 := by decide
  have e2 : (0x7ff0000000000000 : UInt64).toNat = 2047 * 2 ^ 52 := by decide
  rw [UInt64.le_iff_toNat_le, UInt64.toNat_and, e1, Nat.and_two_pow_sub_one_eq_mod, e2]
  apply Decidable.byContradiction
  intro hn
  apply h
  have t1 : FP.Core.b64.tails = 2 ^ 52 := by decide
  have t2 : FP.Core.b64.exps = 2 ^ 11 := by decide
  unfold FP.Core.val64 FP.Core.decode FP.Core.fieldE FP.Core.fieldT
  rw [t1, t2, if_pos (by omega), if_neg (by omega)]
theorem rr_fin (s : Bool) (A : Nat) {B : Nat} (hB : 0 < B) (e K : Int) (h : (A.log2 : Int) + e ≤ K) (h0 : 0 ≤ K) (h1 : K ≤ 900) : ∃ (c : Nat) (q : Int), FP.Core.roundRatio FP.Core.b64 s A B e = .fin s c q ∧ q ≤ K ∧ c < 2 ^ 53 := by
  have hfit := FP.Core.roundRatio_fits FP.Core.good_b64 s A hB e
  have q1 : FP.Core.b64.qmin = -1074 := by decide
  have q2 : FP.Core.b64.qmax = 971 := by decide
  have p1 : FP.Core.b64.p = 53 := rfl
  have hq : FP.Core.quantum FP.Core.b64 A B e ≤ max (-1074) (K - 52) := by
    unfold FP.Core.quantum FP.Core.leading
    rw [q1, p1]
    dsimp only
    split <;> omega
  generalize hR : FP.Core.roundRatio FP.Core.b64 s A B e = d at hfit
  unfold FP.Core.roundRatio at hR
  split at hR
  · subst hR
    exact ⟨0, _, rfl, by rw [q1]; omega, by decide⟩
  · unfold FP.Core.roundAt FP.Core.settle FP.Core.bound at hR
    rw [q2] at hR
    split at hR
    · rw [if_pos (by omega)] at hR
      subst hR
      exact ⟨_, _, rfl, by omega, hfit.1⟩
    · rw [if_pos (by omega)] at hR
      subst hR
      exact ⟨_, _, rfl, by omega, hfit.1⟩
theorem rr_rng (s : Bool) (A : Nat) (hA : 0 < A) (hl : A.log2 ≤ 40) : ∃ (c : Nat) (q : Int), FP.Core.roundRatio FP.Core.b64 s A 1 0 = .fin s c q ∧ q ≤ 40 ∧ c < 2 ^ 53 ∧ -60 ≤ q ∧ 0 < c := by
  have hfit := FP.Core.roundRatio_fits FP.Core.good_b64 s A (B := 1) (by decide) 0
  have q1 : FP.Core.b64.qmin = -1074 := by decide
  have q2 : FP.Core.b64.qmax = 971 := by decide
  have p1 : FP.Core.b64.p = 53 := rfl
  have t1 : FP.Core.b64.tails = 2 ^ 52 := by decide
  have l1 : Nat.log2 1 = 0 := by decide
  have hq : FP.Core.quantum FP.Core.b64 A 1 0 ≤ 0 ∧ -60 ≤ FP.Core.quantum FP.Core.b64 A 1 0 := by
    unfold FP.Core.quantum FP.Core.leading
    rw [q1, p1, l1]
    dsimp only
    split <;> omega
  generalize hR : FP.Core.roundRatio FP.Core.b64 s A 1 0 = d at hfit
  unfold FP.Core.roundRatio at hR
  rw [if_neg (by omega)] at hR
  unfold FP.Core.roundAt FP.Core.settle FP.Core.bound at hR
  rw [q2] at hR
  split at hR
  · rw [if_pos (by omega)] at hR
    subst hR
    refine ⟨_, _, rfl, by omega, hfit.1, by omega, ?_⟩
    rcases hfit.2.2.2 with h | h
    · rw [q1] at h; omega
    · rw [t1] at h; omega
  · rw [if_pos (by omega)] at hR
    subst hR
    exact ⟨_, _, rfl, by omega, hfit.1, by omega, by rw [t1]; decide⟩
theorem log2_le {A k : Nat} (h : A < 2 ^ (k + 1)) : A.log2 ≤ k := by
  rcases Nat.eq_zero_or_pos A with rfl | h0
  · have : Nat.log2 0 = 0 := by decide
    omega
  · have := (Nat.log2_lt (by omega : A ≠ 0) (k := k + 1)).mpr h
    omega
theorem v_i2d (n : Int32) : FP.Core.val64 (FP.i2d n) = FP.Core.roundRatio FP.Core.b64 (decide (n.toInt < 0)) n.toInt.natAbs 1 0 := FP.Core.val64_i2d n
theorem n_abs (n : Int32) : n.toInt.natAbs < 2 ^ 33 := by
  have h1 := Int32.toInt_lt n
  have h2 := Int32.le_toInt n
  omega
theorem fn_i2d (n : Int32) : Fn (FP.i2d n) := by
  obtain ⟨c, q, h, -⟩ := rr_fin (decide (n.toInt < 0)) n.toInt.natAbs (B := 1) (by decide) 0 40 (by have := log2_le (k := 32) (n_abs n); omega) (by decide) (by decide)
  exact ⟨_, c, q, (v_i2d n).trans h⟩
theorem rg_i2d {n : Int32} (hn : 1 ≤ n.toInt) : ∃ (s : Bool) (c : Nat) (q : Int), FP.Core.val64 (FP.i2d n) = .fin s c q ∧ q ≤ 40 ∧ c < 2 ^ 53 ∧ -60 ≤ q ∧ 0 < c := by
  obtain ⟨c, q, h, r⟩ := rr_rng (decide (n.toInt < 0)) n.toInt.natAbs (by omega) (by have := log2_le (k := 32) (n_abs n); omega)
  exact ⟨_, c, q, (v_i2d n).trans h, r⟩
theorem rd_fin (s : Bool) (c : Nat) (q : Int) : ∃ s' c' q', FP.Core.round FP.Core.b64 (.fin s c q) = .fin s' c' q' ∨ FP.Core.round FP.Core.b64 (.fin s c q) = .inf s' := by
  have : ∀ d, FP.Core.roundRatio FP.Core.b64 s c 1 q = d → ∃ s' c' q', d = .fin s' c' q' ∨ d = .inf s' := by
    intro d hR
    unfold FP.Core.roundRatio at hR
    split at hR
    · exact ⟨_, _, _, Or.inl hR.symm⟩
    · unfold FP.Core.roundAt FP.Core.settle FP.Core.bound at hR
      split at hR <;> split at hR
      · exact ⟨_, _, _, Or.inl hR.symm⟩
      · exact ⟨s, 0, 0, Or.inr hR.symm⟩
      · exact ⟨_, _, _, Or.inl hR.symm⟩
      · exact ⟨s, 0, 0, Or.inr hR.symm⟩
  exact this _ rfl
theorem rd_nn (s : Bool) (c : Nat) (q : Int) : FP.Core.round FP.Core.b64 (.fin s c q) ≠ .nan := by
  obtain ⟨s', c', q', h | h⟩ := rd_fin s c q <;> rw [h] <;> intro h <;> cases h
theorem nn_mul {x y : UInt64} (hx : Fn x) (hy : Fn y) : FP.Core.val64 (FP.dmul x y) ≠ .nan := by
  obtain ⟨s, c, q, e1⟩ := hx
  obtain ⟨t, d, r, e2⟩ := hy
  rw [show FP.dmul x y = FP.Core.dmul x y from rfl, FP.Core.val64_dmul, e1, e2]
  exact rd_nn _ _ _
theorem nn_mulI {f : UInt64} (hf : Fn f) (n : Int32) : FP.Core.val64 (FP.dmul f (FP.i2d n)) ≠ .nan := nn_mul hf (fn_i2d n)
theorem ne_mulI {f : UInt64} (hf : Fn f) (n : Int32) : vf_n64 (FP.dmul f (FP.i2d n)) := vf_of (nn_mulI hf n)
theorem half : ∃ s c q, FP.Core.val64 4602678819172646912 = .fin s c q := ⟨false, 2 ^ 52, -53, by decide +kernel⟩
theorem sum_nn {d : FP.Core.Datum} (h : d ≠ .nan) (s : Bool) (c : Nat) (q : Int) : FP.Core.round FP.Core.b64 (FP.Core.exactSum d (.fin s c q)) ≠ .nan := by
  cases d with
  | nan => exact absurd rfl h
  | inf t => intro h; cases h
  | fin t d r => exact rd_nn _ _ _
theorem ne_add {t : UInt64} (h : FP.Core.val64 t ≠ .nan) : vf_n64 (FP.dadd t 4602678819172646912) := by
  apply vf_of
  obtain ⟨s, c, q, e⟩ := half
  rw [show FP.dadd t 4602678819172646912 = FP.Core.dadd t 4602678819172646912 from rfl, FP.Core.val64_dadd, e]
  exact sum_nn h s c q
theorem ne_sub {t : UInt64} (h : FP.Core.val64 t ≠ .nan) : vf_n64 (FP.dsub 4602678819172646912 t) := by
  apply vf_of
  obtain ⟨s, c, q, e⟩ := half
  rw [show FP.dsub 4602678819172646912 t = FP.Core.dsub 4602678819172646912 t from rfl, FP.Core.val64_dsub, e, FP.Core.exactSum_comm]
  refine sum_nn ?_ s c q
  cases hv : FP.Core.val64 t with
  | nan => exact absurd hv h
  | inf s => intro h; cases h
  | fin s c q => intro h; cases h
theorem thou : FP.Core.val64 4652007308841189376 = .fin false (1000 * 2 ^ 43) (-43) := by decide +kernel
/-- the quotient of two numbers of moderate size -/
theorem dv_fin {x y : UInt64} {s t : Bool} {c d : Nat} {q r : Int} (hx : FP.Core.val64 x = .fin s c q) (hy : FP.Core.val64 y = .fin t d r) (hc : c < 2 ^ 53) (hd : 0 < d) (hq : q ≤ 40) (hr : -60 ≤ r) : ∃ (c' : Nat) (q' : Int), FP.Core.val64 (FP.ddiv x y) = .fin (s != t) c' q' ∧ q' ≤ 200 ∧ c' < 2 ^ 53 := by
  rw [show FP.ddiv x y = FP.Core.ddiv x y from rfl, FP.Core.val64_ddiv, hx, hy]
  show ∃ c' q', (if d = 0 then _ else FP.Core.roundRatio FP.Core.b64 (s != t) c d (q - r)) = _ ∧ _
  rw [if_neg (by omega)]
  obtain ⟨c', q', h1, h2, h3⟩ := rr_fin (s != t) c hd (q - r) 200 (by have := log2_le (k := 52) hc; omega) (by decide) (by decide)
  exact ⟨c', q', h1, h2, h3⟩
theorem nn_of {x : UInt64} {s : Bool} {c : Nat} {q : Int} (h : FP.Core.val64 x = .fin s c q) : FP.Core.val64 x ≠ .nan := by rw [h]; intro h; cases h
theorem ne_div {a b : Int32} (ha : 1 ≤ a.toInt) (hb : 1 ≤ b.toInt) : vf_n64 (FP.ddiv (FP.i2d a) (FP.i2d b)) := by
  obtain ⟨s, c, q, h1, h2, h3, h4, h5⟩ := rg_i2d ha
  obtain ⟨t, d, r, k1, k2, k3, k4, k5⟩ := rg_i2d hb
  obtain ⟨c', q', h, -⟩ := dv_fin h1 k1 h3 k5 h2 k4
  exact vf_of (nn_of h)
theorem ne_divk {a : Int32} (ha : 1 ≤ a.toInt) : vf_n64 (FP.ddiv (FP.i2d a) 4652007308841189376) := by
  obtain ⟨s, c, q, h1, h2, h3, h4, h5⟩ := rg_i2d ha
  obtain ⟨c', q', h, -⟩ := dv_fin h1 thou h3 (by decide) h2 (by decide)
  exact vf_of (nn_of h)
theorem fn_conv {a b c : Int32} (ha : 1 ≤ a.toInt) (hb : 1 ≤ b.toInt) (hc : 1 ≤ c.toInt) : Fn (FP.dmul (FP.ddiv (FP.i2d a) (FP.i2d b)) (FP.ddiv (FP.i2d c) 4652007308841189376)) := by
  obtain ⟨s, c1, q, h1, h2, h3, h4, h5⟩ := rg_i2d ha
  obtain ⟨t, d, r, k1, k2, k3, k4, k5⟩ := rg_i2d hb
  obtain ⟨s2, c2, q2, m1, m2, m3, m4, m5⟩ := rg_i2d hc
  obtain ⟨x1, y1, e1, f1, g1⟩ := dv_fin h1 k1 h3 k5 h2 k4
  obtain ⟨x2, y2, e2, f2, g2⟩ := dv_fin m1 thou m3 (by decide) m2 (by decide)
  show ∃ s c q, FP.Core.val64 (FP.Core.dmul _ _) = .fin s c q
  rw [FP.Core.val64_dmul, e1, e2]
  have hlt : x1 * x2 < 2 ^ (105 + 1) := by
    calc x1 * x2 < 2 ^ 53 * 2 ^ 53 := Nat.mul_lt_mul'' g1 g2
      _ = 2 ^ (105 + 1) := by decide
  obtain ⟨c', q', h, -⟩ := rr_fin ((s != t) != (s2 != false)) (x1 * x2) (B := 1) (by decide) (y1 + y2) 600 (by have := log2_le hlt; omega) (by decide) (by decide)
  exact ⟨_, c', q', h⟩
theorem ne_conv {a b c : Int32} (ha : 1 ≤ a.toInt) (hb : 1 ≤ b.toInt) (hc : 1 ≤ c.toInt) : vf_n64 (FP.dmul (FP.ddiv (FP.i2d a) (FP.i2d b)) (FP.ddiv (FP.i2d c) 4652007308841189376)) := by
  obtain ⟨_, _, _, h⟩ := fn_conv ha hb hc
  exact vf_of (nn_of h)
theorem fn_0 : Fn FP.dconst0 := ⟨_, _, _, FP.Core.val64_dconst0⟩
theorem fn_z : Fn 0 := fn_0
