theorem b255 (y : Int64) : ∃ b : Nat, (y &&& 255).toInt32 = nI b ∧ b ≤ 255 := by
  have h1 : (y &&& 255).toBitVec.toNat ≤ 255 := by
    rw [Int64.toBitVec_and, BitVec.toNat_and]
    exact Nat.le_trans Nat.and_le_right (by decide)
  refine ⟨(y &&& 255).toBitVec.toNat, ?_, h1⟩
  have h2 : y &&& 255 = lN (y &&& 255).toBitVec.toNat := by
    apply Int64.toBitVec_inj.mp
    show (y &&& 255).toBitVec = BitVec.ofNat 64 (y &&& 255).toBitVec.toNat
    simp
  rw [← lN_i, ← h2]
theorem FB_0 : FB (fun _ => 0) := fun _ => ⟨0, rfl, by omega⟩
theorem FB_app {fl : Nat → Int32} (h : FB fl) (n : Nat) (x : Int64) : ∀ k, FB (mApp fl n x k)
  | 0 => h
  | k + 1 => by
    intro j
    show ∃ b : Nat, upd (mApp fl n x k) (n + k) _ j = nI b ∧ b ≤ 255
    by_cases e : j = n + k
    · rw [e, upd_s]; exact b255 _
    · rw [upd_n e]; exact FB_app h n x k j
theorem lg_self (x : Int64) : lg_cmp x x = 0 := by
  unfold lg_cmp
  simp
theorem cut_same {x : Int32} {n nm a b : Nat} {r r' ref : Int32} {ov : Int64} (hn : n ≤ 600) (hnm : nm = n)
    (h1 : (∃ k : Nat, x = nI k ∧ k ≤ n ∧ a = n - k ∧ r = nI 0 ∧ ov = (nI a).toInt64) ∨ (¬ (0 ≤ x.toInt ∧ x.toInt ≤ n) ∧ a = n ∧ r = nI 1))
    (h2 : (∃ k : Nat, x = nI k ∧ k ≤ nm ∧ b = nm - k ∧ r' = nI b ∧ ref = nI 0) ∨ (¬ (0 ≤ x.toInt ∧ x.toInt ≤ nm) ∧ b = nm ∧ r' = nI 0 ∧ ref = nI 1)) :
    b = a ∧ ref = r ∧ (r = nI 0 → ov = r'.toInt64) ∧ a ≤ 600 := by
  subst hnm
  rcases h1 with ⟨k, e1, e2, e3, e4, e5⟩ | ⟨e1, e2, e3⟩
  · rcases h2 with ⟨k2, f1, f2, f3, f4, f5⟩ | ⟨f1, f2, f3, f4⟩
    · have hk : k = k2 := (nI_eq (by omega) (by omega)).mp (e1.symm.trans f1)
      subst hk
      have hab : b = a := by omega
      subst hab
      exact ⟨rfl, by rw [f5, e4], fun _ => by rw [e5, f4], by omega⟩
    · rw [e1, nI_toInt (by omega)] at f1
      exact absurd (show (0 : Int) ≤ k ∧ (k : Int) ≤ nm by omega) f1
  · rcases h2 with ⟨k2, f1, f2, f3, f4, f5⟩ | ⟨f1, f2, f3, f4⟩
    · rw [f1, nI_toInt (by omega)] at e1
      exact absurd (show (0 : Int) ≤ k2 ∧ (k2 : Int) ≤ nm by omega) e1
    · refine ⟨by omega, by rw [f4, e3], fun h => ?_, by omega⟩
      rw [e3] at h
      exact absurd h (by decide)
theorem nx_and (a b : Nat) : nI a &&& nI b = nI (a &&& b) := by
  apply Int32.toBitVec_inj.1
  show BitVec.ofNat 32 a &&& BitVec.ofNat 32 b = BitVec.ofNat 32 (a &&& b)
  apply BitVec.eq_of_getLsbD_eq
  intro i hi
  simp [hi]
theorem wb_tb (n : Nat) : (lN n).toBitVec = BitVec.ofNat 64 n := rfl
theorem wb_inj {a b : Int64} (h : a.toBitVec = b.toBitVec) : a = b := Int64.toBitVec_inj.mp h
theorem wb_tn {n : Nat} (h : n < 2 ^ 64) : (lN n).toBitVec.toNat = n := by rw [wb_tb, BitVec.toNat_ofNat, Nat.mod_eq_of_lt h]
theorem wb_of (x : Int64) : ∃ n, n < 2 ^ 64 ∧ x = lN n := ⟨x.toBitVec.toNat, x.toBitVec.isLt, wb_inj (by rw [wb_tb]; simp)⟩
theorem wb_c : ∀ k, k < 64 → ((nI k).toInt64 &&& 63) = lN k := by decide +kernel
theorem wb_cu : ∀ k, k < 64 → ((nI k).toInt64.toUInt64 &&& Int64.toUInt64 63) = UInt64.ofNat k := by decide +kernel
theorem wb_sm : ∀ k, k < 64 → (BitVec.ofNat 64 k).smod 64 = BitVec.ofNat 64 k := by decide +kernel
theorem wb_shr {n k : Nat} (hn : n < 2 ^ 64) (hk : k < 64) : ((lN n).toUInt64 >>> ((nI k).toInt64.toUInt64 &&& Int64.toUInt64 63)).toInt64 = lN (n / 2 ^ k) := by
  rw [wb_cu k hk]
  apply wb_inj
  apply BitVec.eq_of_toNat_eq
  show ((lN n).toUInt64 >>> UInt64.ofNat k).toNat = (BitVec.ofNat 64 _).toNat
  have h1 : (UInt64.ofNat k).toNat = k := by
    show (BitVec.ofNat 64 k).toNat = k
    rw [BitVec.toNat_ofNat, Nat.mod_eq_of_lt (by omega)]
  have h2 : (lN n).toUInt64.toNat = n := wb_tn hn
  rw [UInt64.toNat_shiftRight, h1, h2, Nat.mod_eq_of_lt hk, Nat.shiftRight_eq_div_pow, BitVec.toNat_ofNat, Nat.mod_eq_of_lt (Nat.lt_of_le_of_lt (Nat.div_le_self _ _) hn)]
theorem wb_and {a b : Nat} (ha : a < 2 ^ 64) (hb : b < 2 ^ 64) : lN a &&& lN b = lN (a &&& b) := by
  apply wb_inj
  rw [Int64.toBitVec_and, wb_tb, wb_tb, wb_tb]
  apply BitVec.eq_of_toNat_eq
  rw [BitVec.toNat_and, BitVec.toNat_ofNat, BitVec.toNat_ofNat, BitVec.toNat_ofNat, Nat.mod_eq_of_lt ha, Nat.mod_eq_of_lt hb, Nat.mod_eq_of_lt (Nat.and_lt_two_pow _ hb)]
theorem m255 : ∀ i, i < 64 → 8 ≤ i → (255#64).getLsbD i = false := by decide +kernel
theorem ss_and (v : BitVec 64) {k : Nat} (hk : k ≤ 56) : v.sshiftRight k &&& 255#64 = (v >>> k) &&& 255#64 := by
  apply BitVec.eq_of_getLsbD_eq
  intro i hi
  rw [BitVec.getLsbD_and, BitVec.getLsbD_and]
  by_cases h8 : i < 8
  · rw [BitVec.getLsbD_sshiftRight, BitVec.getLsbD_ushiftRight, if_pos (show k + i < 64 by omega), show decide (64 ≤ i) = false from decide_eq_false (by omega), Bool.not_false, Bool.true_and]
  · rw [m255 i hi (by omega), Bool.and_false, Bool.and_false]
theorem byte_same (x : Int64) {k : Nat} (hk : k ≤ 56) : ((x.toUInt64 >>> ((nI k).toInt64.toUInt64 &&& Int64.toUInt64 63)).toInt64).toInt32 &&& nI 255 = ((x >>> ((nI k).toInt64 &&& 63)) &&& 255).toInt32 := by
  obtain ⟨n, hn, rfl⟩ := wb_of x
  have e1 : (lN n >>> ((nI k).toInt64 &&& 63)) &&& 255 = lN (n / 2 ^ k &&& 255) := by
    rw [wb_c k (by omega)]
    apply wb_inj
    rw [Int64.toBitVec_and, Int64.toBitVec_shiftRight, wb_tb, wb_tb, wb_tb, wb_sm k (by omega)]
    show (BitVec.ofNat 64 n).sshiftRight (BitVec.ofNat 64 k).toNat &&& 255#64 = _
    rw [BitVec.toNat_ofNat, Nat.mod_eq_of_lt (show k < 2 ^ 64 by omega), ss_and _ hk]
    apply BitVec.eq_of_toNat_eq
    rw [BitVec.toNat_and, BitVec.toNat_ushiftRight, BitVec.toNat_ofNat, Nat.mod_eq_of_lt hn, Nat.shiftRight_eq_div_pow, BitVec.toNat_ofNat]
    rw [BitVec.toNat_ofNat, show 255 % 2 ^ 64 = 255 from rfl, Nat.mod_eq_of_lt (Nat.lt_of_le_of_lt Nat.and_le_right (by decide))]
  rw [wb_shr hn (by omega), lN_i, nx_and, e1, lN_i]
theorem app_same (row : FT) (n : Nat) (x : Int64) : ∀ k, k ≤ 8 → bApp row n x k = mApp row n x k := by
  intro k
  induction k with
  | zero => intro _; rfl
  | succ i ih =>
    intro h
    show upd (bApp row n x i) (n + i) (((x.toUInt64 >>> ((nI (8 * i)).toInt64.toUInt64 &&& Int64.toUInt64 63)).toInt64).toInt32 &&& nI 255) = upd (mApp row n x i) (n + i) (((x >>> ((nI (8 * i)).toInt64 &&& 63)) &&& 255).toInt32)
    rw [ih (by omega), byte_same x (by omega)]
theorem add_same {x : Int32} {n nm a b : Nat} {bl : Int64} {r r' ref : Int32} {ov : Int64} {row row2 fl fl2 : Nat → Int32} (hn : n ≤ 600) (hnm : nm = n) (hfl : fl = row) (hB : FB row)
    (h1 : (∃ k : Nat, x = nI k ∧ 1 ≤ k ∧ k ≤ 8 ∧ n + k ≤ 600 ∧ a = n + k ∧ row2 = bApp row n bl k ∧ r = nI 0 ∧ ov = (nI a).toInt64) ∨ ((x.toInt < 1 ∨ 8 < x.toInt) ∧ a = n ∧ row2 = row ∧ r = nI 1) ∨ (∃ k : Nat, x = nI k ∧ 1 ≤ k ∧ k ≤ 8 ∧ 600 < n + k ∧ a = n ∧ row2 = row ∧ r = nI 2))
    (h2 : (∃ k : Nat, x = nI k ∧ 1 ≤ k ∧ k ≤ 8 ∧ nm + k ≤ 600 ∧ b = nm + k ∧ fl2 = mApp fl nm bl k ∧ r' = nI b ∧ ref = nI 0) ∨ ((x.toInt < 1 ∨ 8 < x.toInt) ∧ b = nm ∧ fl2 = fl ∧ r' = nI 0 ∧ ref = nI 1) ∨ (∃ k : Nat, x = nI k ∧ 1 ≤ k ∧ k ≤ 8 ∧ 600 < nm + k ∧ b = nm ∧ fl2 = fl ∧ r' = nI 0 ∧ ref = nI 2)) :
    b = a ∧ a ≤ 600 ∧ FB row2 ∧ fl2 = row2 ∧ ref = r ∧ (r = nI 0 → ov = r'.toInt64) := by
  subst hnm hfl
  have key : ∀ k : Nat, x = nI k → k ≤ 8 → x.toInt = k := fun k e hk => by rw [e]; exact nI_toInt (by omega)
  have inj : ∀ k k2 : Nat, x = nI k → x = nI k2 → k ≤ 8 → k2 ≤ 8 → k = k2 := fun k k2 e f h h' => (nI_eq (by omega) (by omega)).mp (e.symm.trans f)
  rcases h1 with ⟨k, e1, e2, e3, e4, e5, e6, e7, e8⟩ | ⟨e1, e2, e3, e4⟩ | ⟨k, e1, e2, e3, e4, e5, e6, e7⟩
  · rcases h2 with ⟨k2, f1, f2, f3, f4, f5, f6, f7, f8⟩ | ⟨f1, f2, f3, f4, f5⟩ | ⟨k2, f1, f2, f3, f4, f5, f6, f7, f8⟩
    · have hk := inj k k2 e1 f1 e3 f3
      subst hk
      have hab : b = a := by omega
      subst hab
      exact ⟨rfl, by omega, by rw [e6, app_same _ _ _ _ e3]; exact FB_app hB _ _ _, by rw [f6, e6, app_same _ _ _ _ e3], by rw [f8, e7], fun _ => by rw [e8, f7]⟩
    · have := key k e1 e3; exact absurd f1 (by omega)
    · have hk := inj k k2 e1 f1 e3 f3; exact absurd f4 (by omega)
  · rcases h2 with ⟨k2, f1, f2, f3, f4, f5, f6, f7, f8⟩ | ⟨f1, f2, f3, f4, f5⟩ | ⟨k2, f1, f2, f3, f4, f5, f6, f7, f8⟩
    · have := key k2 f1 f3; exact absurd e1 (by omega)
    · exact ⟨by omega, by omega, by rw [e3]; exact hB, by rw [f3, e3], by rw [f5, e4], fun h => absurd (e4.symm.trans h) (by decide)⟩
    · have := key k2 f1 f3; exact absurd e1 (by omega)
  · rcases h2 with ⟨k2, f1, f2, f3, f4, f5, f6, f7, f8⟩ | ⟨f1, f2, f3, f4, f5⟩ | ⟨k2, f1, f2, f3, f4, f5, f6, f7, f8⟩
    · have hk := inj k k2 e1 f1 e3 f3; exact absurd f4 (by omega)
    · have := key k e1 e3; exact absurd f1 (by omega)
    · exact ⟨by omega, by omega, by rw [e6]; exact hB, by rw [f6, e6], by rw [f8, e7], fun h => absurd (e7.symm.trans h) (by decide)⟩
theorem width_same {x y z : Int32} {bo bo' : Nat} {f g f2 g2 : Nat → Int32} (hfg : g = f)
    (h1 : (bo = 1 ∧ ∃ a b : Nat, x = nI a ∧ y = nI b ∧ a < 8 ∧ b < 128 ∧ -30000 ≤ z.toInt ∧ z.toInt ≤ 30000 ∧ f2 = upd f (a * 128 + b) z) ∨ (bo = 0 ∧ f2 = f ∧ ¬ (0 ≤ x.toInt ∧ x.toInt < 8 ∧ 0 ≤ y.toInt ∧ y.toInt < 128 ∧ -30000 ≤ z.toInt ∧ z.toInt ≤ 30000)))
    (h2 : (bo' = 1 ∧ ∃ a b : Nat, x = nI a ∧ y = nI b ∧ a < 8 ∧ b < 128 ∧ -30000 ≤ z.toInt ∧ z.toInt ≤ 30000 ∧ g2 = upd g (128 * a + b) z) ∨ (bo' = 0 ∧ g2 = g ∧ ¬ (0 ≤ x.toInt ∧ x.toInt < 8 ∧ 0 ≤ y.toInt ∧ y.toInt < 128 ∧ -30000 ≤ z.toInt ∧ z.toInt ≤ 30000))) : bo = bo' ∧ g2 = f2 := by
  subst hfg
  have key : ∀ a b : Nat, x = nI a → y = nI b → a < 8 → b < 128 → -30000 ≤ z.toInt → z.toInt ≤ 30000 → 0 ≤ x.toInt ∧ x.toInt < 8 ∧ 0 ≤ y.toInt ∧ y.toInt < 128 ∧ -30000 ≤ z.toInt ∧ z.toInt ≤ 30000 := by
    intro a b e1 e2 e3 e4 e5 e6
    rw [e1, e2, nI_toInt (by omega), nI_toInt (by omega)]
    omega
  rcases h1 with ⟨e, a, b, e1, e2, e3, e4, e5, e6, e7⟩ | ⟨e, e7, n1⟩
  · rcases h2 with ⟨f, a', b', f1, f2, f3, f4, f5, f6, f7⟩ | ⟨f, -, n2⟩
    · have ha : a = a' := (nI_eq (by omega) (by omega)).mp (e1.symm.trans f1)
      have hb : b = b' := (nI_eq (by omega) (by omega)).mp (e2.symm.trans f2)
      subst ha hb
      exact ⟨by omega, by rw [e7, f7, Nat.mul_comm]⟩
    · exact absurd (key a b e1 e2 e3 e4 e5 e6) n2
  · rcases h2 with ⟨f, a, b, e1, e2, e3, e4, e5, e6, -⟩ | ⟨f, f7, -⟩
    · exact absurd (key a b e1 e2 e3 e4 e5 e6) n1
    · exact ⟨by omega, by rw [e7, f7]⟩
theorem dc0 {x : UInt64} (h : Fn x) (op : CmpOp) : Op.cmpValue (FP.dcmp x x) op = 0 := by
  obtain ⟨s, c, q, e⟩ := h
  rw [show FP.dcmp x x = some .eq from FP.Core.dcmp_self (by rw [e]; intro h; cases h)]
  rfl
