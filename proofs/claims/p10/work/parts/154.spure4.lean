theorem RR_mk {row : FT} {n a ph bA lA : Nat} {fac : UInt64} {pc ic : Nat} {nu ad co it st mk sc : FT} {kc dp : Nat} {fo : Int32} {now kept : FT} {sta lb la num den mag : Nat} {facm : UInt64} {pcm icm : Nat} {nun adm com itm df ag mkm scm : FT} {fom : Int32} {dee kcm : Nat} {sp stk : FT}
    (h1 : sta = ph) (h2 : lb = bA) (h3 : ph = 3 → la = lA) (h4 : pcm = pc) (h5 : icm = ic) (h6 : dee = dp) (h7 : RPg pc nu ad co nun adm com) (h8 : RItm ic it itm) (h9 : ∀ f, f < 8 → RFo st mk sc df ag mkm scm f) (h10 : ph = 0 → a = 0) (h11 : 1 ≤ ph → RUn row n num den mag fac facm) (h12 : ph = 2 → RIn pc kc fo now kept fom kcm sp stk) :
    RR row n a (ph, bA, lA, fac, pc, ic, nu, ad, co, it, st, mk, sc, kc, dp, fo, now, kept) (sta, lb, la, num, den, mag, facm, pcm, icm, nun, adm, com, itm, df, ag, mkm, scm, fom, dee, kcm, sp, stk) :=
  And.intro h1 (And.intro h2 (And.intro h3 (And.intro h4 (And.intro h5 (And.intro h6 (And.intro h7 (And.intro h8 (And.intro h9 (And.intro h10 (And.intro h11 h12))))))))))
theorem RR_0 {row : FT} {n : Nat} {c : TC} {la num den mag : Nat} {facm : UInt64} {nun adm com itm df ag mkm scm : FT} {fom : Int32} {kcm : Nat} {sp stk : FT} (h : TC0 c) (h1 : Zr 8 df) (h2 : Zr 8 ag) : RR row n 0 c (0, 65535, la, num, den, mag, facm, 0, 0, nun, adm, com, itm, df, ag, mkm, scm, fom, 0, kcm, sp, stk) := by
  obtain ⟨ph, bA, lA, fac, pc, ic, nu, ad, co, it, st, mk, sc, kc, dp, fo, now, kept⟩ := c
  obtain ⟨e1, e2, e3, e4, e5, e6⟩ := h
  subst e1 e2 e3 e4 e6
  exact RR_mk rfl rfl (fun h => absurd h (by decide)) rfl rfl rfl (fun j hj => absurd hj (by omega)) (fun j hj => absurd hj (by omega)) (fun f hf => Or.inl ⟨e5 f hf, h1 f hf, h2 f hf⟩) (fun _ => rfl) (fun h => absurd h (by decide)) (fun h => absurd h (by decide))
theorem RR_ph {row : FT} {n a : Nat} {c : TC} {m : TM} (h : RR row n a c m) : m.1 = c.1 := by
  obtain ⟨ph, bA, lA, fac, pc, ic, nu, ad, co, it, st, mk, sc, kc, dp, fo, now, kept⟩ := c
  obtain ⟨sta, lb, la, num, den, mag, facm, pcm, icm, nun, adm, com, itm, df, ag, mkm, scm, fom, dee, kcm, sp, stk⟩ := m
  exact h.1
theorem SM_op {row wid : FT} {n a : Nat} {m m2 : TM} {bo : Nat} (hl : rdL row n a ≠ 0) (hM : SMt row wid n a m bo m2) : rdB row n a ≤ 169 ∧ rdL row n a = 1 + tbk (rdB row n a) ∧ a + rdL row n a ≤ n := by
  have := (rdL_in (row := row) (n := n) (a := a)).2
  omega
theorem sim0 {row wid : FT} {n a : Nat} {m m2 : TM} {bo : Nat} (hl : rdL row n a = 0) (hM : SMt row wid n a m bo m2) : bo = 0 := by
  obtain ⟨sta, lb, la, num, den, mag, facm, pcm, icm, nun, adm, com, itm, df, ag, mkm, scm, fom, dee, kcm, sp, stk⟩ := m
  have h := rdL_no hl
  rcases hM with ⟨-, h1⟩ | ⟨h1, h2, -⟩
  · exact h1
  · omega
set_option maxHeartbeats 4000000 in
theorem sim_in {row wid : FT} {n a : Nat} {d : TC} {m2 : TM} {bo bo' : Nat} {ph bA lA : Nat} {fac : UInt64} {pc ic : Nat} {nu ad co it st mk sc : FT} {kc dp : Nat} {fo : Int32} {now kept : FT} {la num den mag : Nat} {facm : UInt64} {nun adm com itm df ag mkm scm : FT} {sp stk : FT}
    (hG : RPg pc nu ad co nun adm com) (hI : RItm ic it itm) (hF : ∀ f, f < 8 → RFo st mk sc df ag mkm scm f) (hU : 1 ≤ ph → RUn row n num den mag fac facm) (p2 : ph = 2) (hpc : 0 < pc) (hP : RPl6 now sp) (hS : RSt kc kept stk) (ho : rdB row n a ≤ 169)
    (hC : SI row wid n a ph bA lA fac pc ic nu ad co it st mk sc kc dp fo now kept bo d)
    (hM : (rdB row n a = 131 ∧ bo' = 1 ∧ m2 = (ph, bA, la, num, den, mag, facm, pc, ic, nun, adm, com, itm, df, ag, mkm, scm, fo, dp, kc, sp, stk)) ∨
      (rdB row n a = 166 ∧ ∃ df2 ag2 mk2 sc2, RDef row n a ph df ag mkm scm bo' df2 ag2 mk2 sc2 ∧ m2 = (ph, bA, la, num, den, mag, facm, pc, ic, nun, adm, com, itm, df2, ag2, mk2, sc2, fo, dp, kc, sp, stk)) ∨
      (rdB row n a ≠ 131 ∧ rdB row n a ≠ 166 ∧ SMI row wid n a (rdB row n a) ph bA la num den mag facm pc ic nun adm com itm df ag mkm scm fo dp kc sp stk bo' m2)) : bo = bo' ∧ (bo = 1 → RR row n (a + rdL row n a) d m2) := by
  have n3 : ph = 3 → la = lA := fun h => absurd h (by omega)
  have n0 : ph = 0 → a + rdL row n a = 0 := fun h => absurd h (by omega)
  rcases hM with ⟨y1, yb, rfl⟩ | ⟨y1, m1, m2, m3, m4, mq, rfl⟩ | ⟨y0, y9, hM⟩
  · rcases hC with ⟨x1, c1, c2, c3, c4, cq, rfl⟩ | ⟨x1, c1, c2, c3, c4, cq, rfl⟩ | ⟨x1, c1, c2, c3, c4, cq, rfl⟩ | ⟨x1, c1, c2, c3, c4, cq, rfl⟩ | ⟨x1, xb, rfl⟩ | ⟨x1, cq, rfl⟩ | ⟨x1, c1, c2, c3, cq, rfl⟩ | ⟨x1, c1, c2, cq, rfl⟩ | ⟨x1, x2, xb, c1, cq, rfl⟩ | ⟨x1, x2, c1, cq, rfl⟩ | ⟨x1, c1, c2, c3, cq, rfl⟩ | ⟨x1, xb⟩
    · exfalso; omega
    · exfalso; omega
    · exfalso; omega
    · exfalso; omega
    · exact ⟨by omega, fun _ => RR_mk rfl rfl n3 rfl rfl rfl hG hI hF n0 hU (fun _ => ⟨hpc, rfl, rfl, hP, hS⟩)⟩
    · exfalso; omega
    · exfalso; omega
    · exfalso; omega
    · exfalso; omega
    · exfalso; omega
    · exfalso; omega
    · exfalso; omega
  · rcases hC with ⟨x1, c1, c2, c3, c4, cq, rfl⟩ | ⟨x1, c1, c2, c3, c4, cq, rfl⟩ | ⟨x1, c1, c2, c3, c4, cq, rfl⟩ | ⟨x1, c1, c2, c3, c4, cq, rfl⟩ | ⟨x1, xb, rfl⟩ | ⟨x1, cq, rfl⟩ | ⟨x1, c1, c2, c3, cq, rfl⟩ | ⟨x1, c1, c2, cq, rfl⟩ | ⟨x1, x2, xb, c1, cq, rfl⟩ | ⟨x1, x2, c1, cq, rfl⟩ | ⟨x1, c1, c2, c3, cq, rfl⟩ | ⟨x1, xb⟩
    · exfalso; omega
    · exfalso; omega
    · exfalso; omega
    · exfalso; omega
    · exfalso; omega
    · exfalso; omega
    · exfalso; omega
    · exfalso; omega
    · exfalso; omega
    · exfalso; omega
    · obtain ⟨eb, hs⟩ := sim_def hF cq mq
      exact ⟨eb, fun hb => RR_mk rfl rfl n3 rfl rfl rfl hG hI (hs hb) n0 hU (fun _ => ⟨hpc, rfl, rfl, hP, hS⟩)⟩
    · exfalso; omega
  · rcases hM with ⟨y1, m1, m2, m3, m4, mq, rfl⟩ | ⟨y1, m1, m2, m3, m4, mq, rfl⟩ | ⟨y1, m1, m2, m3, m4, mq, rfl⟩ | ⟨y1, m1, m2, m3, m4, mq, rfl⟩ | ⟨y1, mq, rfl⟩ | ⟨y1, m1, m2, m3, mq, rfl⟩ | ⟨y1, m1, m2, mq, rfl⟩ | ⟨y1, y2, yb, m1, mq, rfl⟩ | ⟨y1, y2, m1, mq, rfl⟩ | ⟨y1, yb⟩
    · rcases hC with ⟨x1, c1, c2, c3, c4, cq, rfl⟩ | ⟨x1, c1, c2, c3, c4, cq, rfl⟩ | ⟨x1, c1, c2, c3, c4, cq, rfl⟩ | ⟨x1, c1, c2, c3, c4, cq, rfl⟩ | ⟨x1, xb, rfl⟩ | ⟨x1, cq, rfl⟩ | ⟨x1, c1, c2, c3, cq, rfl⟩ | ⟨x1, c1, c2, cq, rfl⟩ | ⟨x1, x2, xb, c1, cq, rfl⟩ | ⟨x1, x2, c1, cq, rfl⟩ | ⟨x1, c1, c2, c3, cq, rfl⟩ | ⟨x1, xb⟩
      · obtain ⟨eb, hs⟩ := sim_char hpc hP hI hG cq mq
        refine ⟨eb, fun hb => ?_⟩
        obtain ⟨i1, i2, i3, i4⟩ := hs hb
        exact RR_mk rfl rfl n3 rfl i1 rfl i3 i2 hF n0 hU (fun _ => ⟨hpc, rfl, rfl, i4, hS⟩)
      · exfalso; omega
      · exfalso; omega
      · exfalso; omega
      · exfalso; omega
      · exfalso; omega
      · exfalso; omega
      · exfalso; omega
      · exfalso; omega
      · exfalso; omega
      · exfalso; omega
      · exfalso; omega
    · rcases hC with ⟨x1, c1, c2, c3, c4, cq, rfl⟩ | ⟨x1, c1, c2, c3, c4, cq, rfl⟩ | ⟨x1, c1, c2, c3, c4, cq, rfl⟩ | ⟨x1, c1, c2, c3, c4, cq, rfl⟩ | ⟨x1, xb, rfl⟩ | ⟨x1, cq, rfl⟩ | ⟨x1, c1, c2, c3, cq, rfl⟩ | ⟨x1, c1, c2, cq, rfl⟩ | ⟨x1, x2, xb, c1, cq, rfl⟩ | ⟨x1, x2, c1, cq, rfl⟩ | ⟨x1, c1, c2, c3, cq, rfl⟩ | ⟨x1, xb⟩
      · exfalso; omega
      · obtain ⟨eb, hs⟩ := sim_char hpc hP hI hG cq mq
        refine ⟨eb, fun hb => ?_⟩
        obtain ⟨i1, i2, i3, i4⟩ := hs hb
        exact RR_mk rfl rfl n3 rfl i1 rfl i3 i2 hF n0 hU (fun _ => ⟨hpc, rfl, rfl, i4, hS⟩)
      · exfalso; omega
      · exfalso; omega
      · exfalso; omega
      · exfalso; omega
      · exfalso; omega
      · exfalso; omega
      · exfalso; omega
      · exfalso; omega
      · exfalso; omega
      · exfalso; omega
    · rcases hC with ⟨x1, c1, c2, c3, c4, cq, rfl⟩ | ⟨x1, c1, c2, c3, c4, cq, rfl⟩ | ⟨x1, c1, c2, c3, c4, cq, rfl⟩ | ⟨x1, c1, c2, c3, c4, cq, rfl⟩ | ⟨x1, xb, rfl⟩ | ⟨x1, cq, rfl⟩ | ⟨x1, c1, c2, c3, cq, rfl⟩ | ⟨x1, c1, c2, cq, rfl⟩ | ⟨x1, x2, xb, c1, cq, rfl⟩ | ⟨x1, x2, c1, cq, rfl⟩ | ⟨x1, c1, c2, c3, cq, rfl⟩ | ⟨x1, xb⟩
      · exfalso; omega
      · exfalso; omega
      · obtain ⟨eb, hs⟩ := sim_rule hpc hP hI hG cq mq
        refine ⟨eb, fun hb => ?_⟩
        obtain ⟨i1, i2, i3, i4⟩ := hs hb
        exact RR_mk rfl rfl n3 rfl i1 rfl i3 i2 hF n0 hU (fun _ => ⟨hpc, rfl, rfl, i4, hS⟩)
      · exfalso; omega
      · exfalso; omega
      · exfalso; omega
      · exfalso; omega
      · exfalso; omega
      · exfalso; omega
      · exfalso; omega
      · exfalso; omega
      · exfalso; omega
    · rcases hC with ⟨x1, c1, c2, c3, c4, cq, rfl⟩ | ⟨x1, c1, c2, c3, c4, cq, rfl⟩ | ⟨x1, c1, c2, c3, c4, cq, rfl⟩ | ⟨x1, c1, c2, c3, c4, cq, rfl⟩ | ⟨x1, xb, rfl⟩ | ⟨x1, cq, rfl⟩ | ⟨x1, c1, c2, c3, cq, rfl⟩ | ⟨x1, c1, c2, cq, rfl⟩ | ⟨x1, x2, xb, c1, cq, rfl⟩ | ⟨x1, x2, c1, cq, rfl⟩ | ⟨x1, c1, c2, c3, cq, rfl⟩ | ⟨x1, xb⟩
      · exfalso; omega
      · exfalso; omega
      · exfalso; omega
      · obtain ⟨eb, hs⟩ := sim_rule hpc hP hI hG cq mq
        refine ⟨eb, fun hb => ?_⟩
        obtain ⟨i1, i2, i3, i4⟩ := hs hb
        exact RR_mk rfl rfl n3 rfl i1 rfl i3 i2 hF n0 hU (fun _ => ⟨hpc, rfl, rfl, i4, hS⟩)
      · exfalso; omega
      · exfalso; omega
      · exfalso; omega
      · exfalso; omega
      · exfalso; omega
      · exfalso; omega
      · exfalso; omega
      · exfalso; omega
    · rcases hC with ⟨x1, c1, c2, c3, c4, cq, rfl⟩ | ⟨x1, c1, c2, c3, c4, cq, rfl⟩ | ⟨x1, c1, c2, c3, c4, cq, rfl⟩ | ⟨x1, c1, c2, c3, c4, cq, rfl⟩ | ⟨x1, xb, rfl⟩ | ⟨x1, cq, rfl⟩ | ⟨x1, c1, c2, c3, cq, rfl⟩ | ⟨x1, c1, c2, cq, rfl⟩ | ⟨x1, x2, xb, c1, cq, rfl⟩ | ⟨x1, x2, c1, cq, rfl⟩ | ⟨x1, c1, c2, c3, cq, rfl⟩ | ⟨x1, xb⟩
      · exfalso; omega
      · exfalso; omega
      · exfalso; omega
      · exfalso; omega
      · exfalso; omega
      · refine ⟨?_, fun hb => ?_⟩
        · rcases cq with ⟨q1, q2⟩ | ⟨q1, q2⟩ <;> rcases mq with ⟨r1, r2⟩ | ⟨r1, r2⟩ <;> omega
        · exact RR_mk rfl rfl (fun h => absurd h (by decide)) rfl rfl rfl hG hI hF (fun h => absurd h (by decide)) (fun _ => hU (by omega)) (fun h => absurd h (by decide))
      · exfalso; omega
      · exfalso; omega
      · exfalso; omega
      · exfalso; omega
      · exfalso; omega
      · exfalso; omega
    · rcases hC with ⟨x1, c1, c2, c3, c4, cq, rfl⟩ | ⟨x1, c1, c2, c3, c4, cq, rfl⟩ | ⟨x1, c1, c2, c3, c4, cq, rfl⟩ | ⟨x1, c1, c2, c3, c4, cq, rfl⟩ | ⟨x1, xb, rfl⟩ | ⟨x1, cq, rfl⟩ | ⟨x1, c1, c2, c3, cq, rfl⟩ | ⟨x1, c1, c2, cq, rfl⟩ | ⟨x1, x2, xb, c1, cq, rfl⟩ | ⟨x1, x2, c1, cq, rfl⟩ | ⟨x1, c1, c2, c3, cq, rfl⟩ | ⟨x1, xb⟩
      · exfalso; omega
      · exfalso; omega
      · exfalso; omega
      · exfalso; omega
      · exfalso; omega
      · exfalso; omega
      · obtain ⟨eb, hs⟩ := sim_push hP hS cq mq
        refine ⟨eb, fun hb => ?_⟩
        obtain ⟨i1, i2, i3⟩ := hs hb
        exact RR_mk rfl rfl n3 rfl rfl i2 hG hI hF n0 hU (fun _ => ⟨hpc, i1, rfl, hP, i3⟩)
      · exfalso; omega
      · exfalso; omega
      · exfalso; omega
      · exfalso; omega
      · exfalso; omega
    · rcases hC with ⟨x1, c1, c2, c3, c4, cq, rfl⟩ | ⟨x1, c1, c2, c3, c4, cq, rfl⟩ | ⟨x1, c1, c2, c3, c4, cq, rfl⟩ | ⟨x1, c1, c2, c3, c4, cq, rfl⟩ | ⟨x1, xb, rfl⟩ | ⟨x1, cq, rfl⟩ | ⟨x1, c1, c2, c3, cq, rfl⟩ | ⟨x1, c1, c2, cq, rfl⟩ | ⟨x1, x2, xb, c1, cq, rfl⟩ | ⟨x1, x2, c1, cq, rfl⟩ | ⟨x1, c1, c2, c3, cq, rfl⟩ | ⟨x1, xb⟩
      · exfalso; omega
      · exfalso; omega
      · exfalso; omega
      · exfalso; omega
      · exfalso; omega
      · exfalso; omega
      · exfalso; omega
      · obtain ⟨eb, hs⟩ := sim_pop hS cq mq
        refine ⟨eb, fun hb => ?_⟩
        obtain ⟨i1, i2, i3⟩ := hs hb
        exact RR_mk rfl rfl n3 rfl rfl rfl hG hI hF n0 hU (fun _ => ⟨hpc, i1, rfl, i2, i3⟩)
      · exfalso; omega
      · exfalso; omega
      · exfalso; omega
      · exfalso; omega
    · rcases hC with ⟨x1, c1, c2, c3, c4, cq, rfl⟩ | ⟨x1, c1, c2, c3, c4, cq, rfl⟩ | ⟨x1, c1, c2, c3, c4, cq, rfl⟩ | ⟨x1, c1, c2, c3, c4, cq, rfl⟩ | ⟨x1, xb, rfl⟩ | ⟨x1, cq, rfl⟩ | ⟨x1, c1, c2, c3, cq, rfl⟩ | ⟨x1, c1, c2, cq, rfl⟩ | ⟨x1, x2, xb, c1, cq, rfl⟩ | ⟨x1, x2, c1, cq, rfl⟩ | ⟨x1, c1, c2, c3, cq, rfl⟩ | ⟨x1, xb⟩
      · exfalso; omega
      · exfalso; omega
      · exfalso; omega
      · exfalso; omega
      · exfalso; omega
      · exfalso; omega
      · exfalso; omega
      · exfalso; omega
      · exact ⟨by omega, fun _ => RR_mk rfl rfl n3 rfl rfl rfl hG hI hF n0 hU (fun _ => ⟨hpc, rfl, rfl, sim_move hP cq mq, hS⟩)⟩
      · exfalso; omega
      · exfalso; omega
      · exfalso; omega
    · rcases hC with ⟨x1, c1, c2, c3, c4, cq, rfl⟩ | ⟨x1, c1, c2, c3, c4, cq, rfl⟩ | ⟨x1, c1, c2, c3, c4, cq, rfl⟩ | ⟨x1, c1, c2, c3, c4, cq, rfl⟩ | ⟨x1, xb, rfl⟩ | ⟨x1, cq, rfl⟩ | ⟨x1, c1, c2, c3, cq, rfl⟩ | ⟨x1, c1, c2, cq, rfl⟩ | ⟨x1, x2, xb, c1, cq, rfl⟩ | ⟨x1, x2, c1, cq, rfl⟩ | ⟨x1, c1, c2, c3, cq, rfl⟩ | ⟨x1, xb⟩
      · exfalso; omega
      · exfalso; omega
      · exfalso; omega
      · exfalso; omega
      · exfalso; omega
      · exfalso; omega
      · exfalso; omega
      · exfalso; omega
      · exfalso; omega
      · obtain ⟨eb, hs⟩ := sim_choose (hF _ (by omega)) cq mq
        exact ⟨eb, fun hb => RR_mk rfl rfl n3 rfl rfl rfl hG hI hF n0 hU (fun _ => ⟨hpc, rfl, hs hb, hP, hS⟩)⟩
      · exfalso; omega
      · exfalso; omega
    · rcases hC with ⟨x1, c1, c2, c3, c4, cq, rfl⟩ | ⟨x1, c1, c2, c3, c4, cq, rfl⟩ | ⟨x1, c1, c2, c3, c4, cq, rfl⟩ | ⟨x1, c1, c2, c3, c4, cq, rfl⟩ | ⟨x1, xb, rfl⟩ | ⟨x1, cq, rfl⟩ | ⟨x1, c1, c2, c3, cq, rfl⟩ | ⟨x1, c1, c2, cq, rfl⟩ | ⟨x1, x2, xb, c1, cq, rfl⟩ | ⟨x1, x2, c1, cq, rfl⟩ | ⟨x1, c1, c2, c3, cq, rfl⟩ | ⟨x1, xb⟩
      · exfalso; omega
      · exfalso; omega
      · exfalso; omega
      · exfalso; omega
      · exfalso; omega
      · exfalso; omega
      · exfalso; omega
      · exfalso; omega
      · exfalso; omega
      · exfalso; omega
      · exfalso; omega
      · exact ⟨by omega, fun h => absurd h (by omega)⟩
set_option maxHeartbeats 4000000 in
theorem sim {row wid : FT} {n a : Nat} {c d : TC} {m m2 : TM} {bo bo' : Nat} (hB : FB row) (hR : RR row n a c m) (hl : rdL row n a ≠ 0) (h4 : m.1 < 4) (hC : StC row wid n a c bo d) (hM : SMt row wid n a m bo' m2) : bo = bo' ∧ (bo = 1 → RR row n (a + rdL row n a) d m2) := by
  obtain ⟨ho, hlen, hle⟩ := SM_op hl hM
  obtain ⟨ph, bA, lA, fac, pc, ic, nu, ad, co, it, st, mk, sc, kc, dp, fo, now, kept⟩ := c
  obtain ⟨sta, lb, la, num, den, mag, facm, pcm, icm, nun, adm, com, itm, df, ag, mkm, scm, fom, dee, kcm, sp, stk⟩ := m
  obtain ⟨e1, e2, e3, e4, e5, e6, hG, hI, hF, h0, hU, hN⟩ := hR
  dsimp only at h4
  have hM : SM row wid n a sta lb la num den mag facm pcm icm nun adm com itm df ag mkm scm fom dee kcm sp stk bo' m2 := hM
  have hC : (ph = 2 ∧ SI row wid n a ph bA lA fac pc ic nu ad co it st mk sc kc dp fo now kept bo d) ∨ (ph ≠ 2 ∧ SO row wid n a ph bA lA fac pc ic nu ad co it st mk sc kc dp fo now kept bo d) := hC
  subst sta lb pcm icm dee
  rcases hM with ⟨h, -⟩ | ⟨-, -, hM⟩
  · exfalso; omega
  rcases hC with ⟨p2, hC⟩ | ⟨p2, hC⟩
  · obtain ⟨hpc, ek, ef, hP, hS⟩ := hN p2
    subst kcm fom
    refine sim_in (la := la) hG hI hF hU p2 hpc hP hS ho hC ?_
    rcases hM with k0 | k1 | k2 | k3 | k4 | k5 | k6 | k7 | k8 | k9
    · exact absurd k0.1 (by omega)
    · exact absurd k1.1 (by omega)
    · exact Or.inl k2.2
    · exact Or.inr (Or.inl k3.2)
    · exact Or.inr (Or.inr k4.2)
    · exact absurd k5.1 (by omega)
    · exact absurd k6.1 (by omega)
    · exact absurd k7.1 (by omega)
    · exact absurd k8.1 (by omega)
    · exact absurd k9.1 (by omega)
  · rcases hM with ⟨y1, y2, m1, m2, m3, m4, m5, mq, rfl⟩ | ⟨y1, y2, yb⟩ | ⟨y1, y2, yb, rfl⟩ | ⟨y1, y2, m1, m2, m3, m4, mq, rfl⟩ | ⟨y1, -⟩ | ⟨y1, y2, m1, m2, m3, m4, m5, mq, md⟩ | ⟨y1, y2, mq, rfl⟩ | ⟨y1, y2, y3, y4, y5, yb⟩ | ⟨y1, y2, mq, rfl⟩ | ⟨y1, y2, y3, y4, yb⟩
    · rcases hC with ⟨x1, x2, c1, cq, rfl⟩ | ⟨x1, x2, xb⟩ | ⟨x1, x2, xb, rfl⟩ | ⟨x1, x2, c1, c2, c3, cq, rfl⟩ | ⟨x1, x2, cq, rfl⟩ | ⟨x1, x2, x3, x4, xb⟩ | ⟨x1, x2, x3, c1, c2, c3, c4, c5, cq, cd⟩ | ⟨x1, x2, x3, cq, rfl⟩ | ⟨x1, x2, x3, x4, x5, x6, xb⟩
      · have hl7 := (tbk_in (rdB row n a)).2.2.2.2.2.1 x2
        obtain ⟨eb, hs⟩ := sim_start (h0 x1) (by omega) cq mq
        refine ⟨eb, fun hb => ?_⟩
        obtain ⟨i1, i2⟩ := hs hb
        exact RR_mk i1 rfl (fun h => absurd h (by decide)) rfl rfl rfl hG hI hF (fun h => absurd h (by decide)) (fun _ => i2) (fun h => absurd h (by decide))
      · exfalso; omega
      · exfalso; omega
      · exfalso; omega
      · exfalso; omega
      · exfalso; omega
      · exfalso; omega
      · exfalso; omega
      · exfalso; omega
    · rcases hC with ⟨x1, x2, c1, cq, rfl⟩ | ⟨x1, x2, xb⟩ | ⟨x1, x2, xb, rfl⟩ | ⟨x1, x2, c1, c2, c3, cq, rfl⟩ | ⟨x1, x2, cq, rfl⟩ | ⟨x1, x2, x3, x4, xb⟩ | ⟨x1, x2, x3, c1, c2, c3, c4, c5, cq, cd⟩ | ⟨x1, x2, x3, cq, rfl⟩ | ⟨x1, x2, x3, x4, x5, x6, xb⟩
      · exfalso; omega
      · exact ⟨by omega, fun h => absurd h (by omega)⟩
      · exfalso; omega
      · exfalso; omega
      · exfalso; omega
      · exfalso; omega
      · exfalso; omega
      · exfalso; omega
      · exfalso; omega
    · rcases hC with ⟨x1, x2, c1, cq, rfl⟩ | ⟨x1, x2, xb⟩ | ⟨x1, x2, xb, rfl⟩ | ⟨x1, x2, c1, c2, c3, cq, rfl⟩ | ⟨x1, x2, cq, rfl⟩ | ⟨x1, x2, x3, x4, xb⟩ | ⟨x1, x2, x3, c1, c2, c3, c4, c5, cq, cd⟩ | ⟨x1, x2, x3, cq, rfl⟩ | ⟨x1, x2, x3, x4, x5, x6, xb⟩
      · exfalso; omega
      · exfalso; omega
      · exact ⟨by omega, fun _ => RR_mk rfl rfl e3 rfl rfl rfl hG hI hF (fun h => absurd h x1) hU (fun h => absurd h p2)⟩
      · exfalso; omega
      · exfalso; omega
      · exfalso; omega
      · exfalso; omega
      · exfalso; omega
      · exfalso; omega
    · rcases hC with ⟨x1, x2, c1, cq, rfl⟩ | ⟨x1, x2, xb⟩ | ⟨x1, x2, xb, rfl⟩ | ⟨x1, x2, c1, c2, c3, cq, rfl⟩ | ⟨x1, x2, cq, rfl⟩ | ⟨x1, x2, x3, x4, xb⟩ | ⟨x1, x2, x3, c1, c2, c3, c4, c5, cq, cd⟩ | ⟨x1, x2, x3, cq, rfl⟩ | ⟨x1, x2, x3, x4, x5, x6, xb⟩
      · exfalso; omega
      · exfalso; omega
      · exfalso; omega
      · obtain ⟨eb, hs⟩ := sim_def hF cq mq
        exact ⟨eb, fun hb => RR_mk rfl rfl e3 rfl rfl rfl hG hI (hs hb) (fun h => absurd h x1) hU (fun h => absurd h p2)⟩
      · exfalso; omega
      · exfalso; omega
      · exfalso; omega
      · exfalso; omega
      · exfalso; omega
    · rcases hC with ⟨x1, x2, c1, cq, rfl⟩ | ⟨x1, x2, xb⟩ | ⟨x1, x2, xb, rfl⟩ | ⟨x1, x2, c1, c2, c3, cq, rfl⟩ | ⟨x1, x2, cq, rfl⟩ | ⟨x1, x2, x3, x4, xb⟩ | ⟨x1, x2, x3, c1, c2, c3, c4, c5, cq, cd⟩ | ⟨x1, x2, x3, cq, rfl⟩ | ⟨x1, x2, x3, x4, x5, x6, xb⟩
      · exfalso; omega
      · exfalso; omega
      · exfalso; omega
      · exfalso; omega
      · exfalso; omega
      · exfalso; omega
      · exfalso; omega
      · exfalso; omega
      · exfalso; omega
    · rcases hC with ⟨x1, x2, c1, cq, rfl⟩ | ⟨x1, x2, xb⟩ | ⟨x1, x2, xb, rfl⟩ | ⟨x1, x2, c1, c2, c3, cq, rfl⟩ | ⟨x1, x2, cq, rfl⟩ | ⟨x1, x2, x3, x4, xb⟩ | ⟨x1, x2, x3, c1, c2, c3, c4, c5, cq, cd⟩ | ⟨x1, x2, x3, cq, rfl⟩ | ⟨x1, x2, x3, x4, x5, x6, xb⟩
      · exfalso; omega
      · exfalso; omega
      · exfalso; omega
      · exfalso; omega
      · exfalso; omega
      · exfalso; omega
      · obtain ⟨eb, hs⟩ := sim_begin hG cq mq
        refine ⟨eb, fun hb => ?_⟩
        obtain ⟨i1, i2, i3, i4⟩ := hs hb
        obtain rfl := cd hb
        obtain rfl := md (by omega)
        exact RR_mk rfl rfl (fun h => absurd h (by decide)) i1 rfl rfl i3 hI hF (fun h => absurd h (by decide)) (fun _ => hU (by omega)) (fun _ => ⟨i2, rfl, rfl, i4, fun l hl => absurd hl (by omega)⟩)
      · exfalso; omega
      · exfalso; omega
    · rcases hC with ⟨x1, x2, c1, cq, rfl⟩ | ⟨x1, x2, xb⟩ | ⟨x1, x2, xb, rfl⟩ | ⟨x1, x2, c1, c2, c3, cq, rfl⟩ | ⟨x1, x2, cq, rfl⟩ | ⟨x1, x2, x3, x4, xb⟩ | ⟨x1, x2, x3, c1, c2, c3, c4, c5, cq, cd⟩ | ⟨x1, x2, x3, cq, rfl⟩ | ⟨x1, x2, x3, x4, x5, x6, xb⟩
      · exfalso; omega
      · exfalso; omega
      · exfalso; omega
      · exfalso; omega
      · exfalso; omega
      · exfalso; omega
      · exfalso; omega
      · have eb := sim_last hB (hU (by omega)) cq mq
        exact ⟨eb, fun hb => RR_mk rfl rfl (fun _ => rfl) rfl rfl rfl hG hI hF (fun h => absurd h (by decide)) (fun _ => hU (by omega)) (fun h => absurd h (by decide))⟩
      · exfalso; omega
    · rcases hC with ⟨x1, x2, c1, cq, rfl⟩ | ⟨x1, x2, xb⟩ | ⟨x1, x2, xb, rfl⟩ | ⟨x1, x2, c1, c2, c3, cq, rfl⟩ | ⟨x1, x2, cq, rfl⟩ | ⟨x1, x2, x3, x4, xb⟩ | ⟨x1, x2, x3, c1, c2, c3, c4, c5, cq, cd⟩ | ⟨x1, x2, x3, cq, rfl⟩ | ⟨x1, x2, x3, x4, x5, x6, xb⟩
      · exfalso; omega
      · exfalso; omega
      · exfalso; omega
      · exfalso; omega
      · exfalso; omega
      · exfalso; omega
      · exfalso; omega
      · exfalso; omega
      · exact ⟨by omega, fun h => absurd h (by omega)⟩
    · rcases hC with ⟨x1, x2, c1, cq, rfl⟩ | ⟨x1, x2, xb⟩ | ⟨x1, x2, xb, rfl⟩ | ⟨x1, x2, c1, c2, c3, cq, rfl⟩ | ⟨x1, x2, cq, rfl⟩ | ⟨x1, x2, x3, x4, xb⟩ | ⟨x1, x2, x3, c1, c2, c3, c4, c5, cq, cd⟩ | ⟨x1, x2, x3, cq, rfl⟩ | ⟨x1, x2, x3, x4, x5, x6, xb⟩
      · exfalso; omega
      · exfalso; omega
      · exfalso; omega
      · exfalso; omega
      · rw [e3 x1] at mq
        have eb := sim_close hF cq mq
        exact ⟨eb, fun hb => RR_mk rfl rfl (fun h => absurd h (by decide)) rfl rfl rfl hG hI hF (fun h => absurd h (by decide)) (fun _ => hU (by omega)) (fun h => absurd h (by decide))⟩
      · exfalso; omega
      · exfalso; omega
      · exfalso; omega
      · exfalso; omega
    · rcases hC with ⟨x1, x2, c1, cq, rfl⟩ | ⟨x1, x2, xb⟩ | ⟨x1, x2, xb, rfl⟩ | ⟨x1, x2, c1, c2, c3, cq, rfl⟩ | ⟨x1, x2, cq, rfl⟩ | ⟨x1, x2, x3, x4, xb⟩ | ⟨x1, x2, x3, c1, c2, c3, c4, c5, cq, cd⟩ | ⟨x1, x2, x3, cq, rfl⟩ | ⟨x1, x2, x3, x4, x5, x6, xb⟩
      · exfalso; omega
      · exfalso; omega
      · exfalso; omega
      · exfalso; omega
      · exfalso; omega
      · exact ⟨by omega, fun h => absurd h (by omega)⟩
      · exfalso; omega
      · exfalso; omega
      · exfalso; omega
/-! the reference follows the chain -/
theorem ch_ad {row wid : FT} {n : Nat} {F : Nat → TC} {Ad : Nat → Nat} {k : Nat} (h : Ch row wid n F Ad k) : ∀ j, j ≤ k → Ad j ≤ n := by
  intro j
  cases j with
  | zero => intro _; rw [h.1]; omega
  | succ i =>
    intro hj
    obtain ⟨h1, h2, h3, h4, h5⟩ := h.2.2 i (by omega)
    have := (rdL_in (row := row) (n := n) (a := Ad i)).2
    omega
theorem ref_done {row wid : FT} {n : Nat} {F : Nat → TC} {Ad : Nat → Nat} {k j : Nat} {m : TM} (hc : Ch row wid n F Ad k) (hj : j ≤ k) (hR : RR row n (Ad j) (F j) m) (h4 : m.1 = 4) : j = k := by
  by_cases h : j < k
  · exact absurd ((RR_ph hR).symm.trans h4) (hc.2.2 j h).2.1
  · omega
theorem ref_short {row wid : FT} {n : Nat} {F : Nat → TC} {Ad : Nat → Nat} {k j : Nat} (hc : Ch row wid n F Ad k) (hj : j ≤ k) (ha : n ≤ Ad j) : j = k := by
  by_cases h : j < k
  · have := (hc.2.2 j h).1
    omega
  · omega
theorem ref_no {row wid : FT} {n : Nat} {F : Nat → TC} {Ad : Nat → Nat} {k j : Nat} {m m2 : TM} (hB : FB row) (hc : Ch row wid n F Ad k) (hj : j ≤ k) (hR : RR row n (Ad j) (F j) m) (h4 : m.1 < 4) (hM : SMt row wid n (Ad j) m 0 m2) : j = k := by
  by_cases h : j < k
  · obtain ⟨h1, h2, h3, h5, h6⟩ := hc.2.2 j h
    have := (sim hB hR h3 h4 h5 hM).1
    omega
  · omega
theorem ref_yes {row wid : FT} {n : Nat} {F : Nat → TC} {Ad : Nat → Nat} {k j : Nat} {m m2 : TM} (hB : FB row) (hc : Ch row wid n F Ad k) (he : (F k).1 = 4 ∨ Fin3 row wid n (Ad k) (F k)) (hj : j ≤ k) (hR : RR row n (Ad j) (F j) m) (h4 : m.1 < 4) (ha : Ad j < n) (hM : SMt row wid n (Ad j) m 1 m2) :
    j < k ∧ RR row n (Ad (j + 1)) (F (j + 1)) m2 ∧ Ad (j + 1) = Ad j + (1 + tbk (rdB row n (Ad j))) := by
  have hl : rdL row n (Ad j) ≠ 0 := fun h => absurd (sim0 h hM) (by decide)
  obtain ⟨o1, o2, o3⟩ := SM_op hl hM
  by_cases h : j < k
  · obtain ⟨h1, h2, h3, h5, h6⟩ := hc.2.2 j h
    have := (sim hB hR h3 h4 h5 hM).2 rfl
    rw [← h6] at this
    exact ⟨h, this, by omega⟩
  · exfalso
    have ej : j = k := by omega
    subst ej
    rcases he with he | ⟨he, hf | ⟨-, hf | ⟨d, hf⟩⟩⟩
    · have := RR_ph hR
      omega
    · omega
    · exact hl hf
    · have := (sim hB hR hl h4 hf hM).1
      omega
/-! ===== what a read leaves ===== -/
theorem nI_ne {a : Nat} (h : a ≤ 600) : nI a ≠ -1 := by
  intro e
  have := congrArg Int32.toInt e
  rw [nI_toInt (by omega)] at this
  exact absurd this (by rw [show (-1 : Int32).toInt = -1 from by decide]; omega)
theorem FW_good {row wid : FT} {n : Nat} {r : Int32} {c : TC} (hn : n ≤ 600) (h : FW row wid n r c) (e : r = -1) : GR row wid n c := by
  rcases h with ⟨-, h⟩ | ⟨i, a, c0, h1, h2, h3, h4⟩
  · exact h
  · exact absurd (h4.symm.trans e) (nI_ne (by omega))
theorem FW_bad {row wid : FT} {n : Nat} {r : Int32} {c : TC} (h : FW row wid n r c) (e : ¬ r = -1) : BR row wid n r := by
  rcases h with ⟨h, -⟩ | ⟨i, a, c0, h1, h2, h3, h4⟩
  · exact absurd h e
  · exact ⟨i, a, c0, h1, h2, h4⟩
def RdC (row wid : FT) (n : Nat) (r : Int32) (ov : Int64) (wr : Int32) (pc ic : Nat) (fac : UInt64) (c : TC) : Prop :=
  (r = nI 0 ∧ ov = (nI pc).toInt64 ∧ wr = -1 ∧ GR row wid n c) ∨ (r = nI 1 ∧ pc = 0 ∧ ic = 0 ∧ fac = FP.dconst0 ∧ BR row wid n wr)
def RdL (F : Nat → TC) (Ad : Nat → Nat) (k : Nat) (r : Int32) (ov : Int64) (wr : Int32) (pc ic : Nat) (fac : UInt64) (c : TC) : Prop :=
  (r = nI 0 ∧ ov = (nI pc).toInt64 ∧ wr = -1 ∧ F k = c ∧ (F k).1 = 4) ∨ (r = nI 1 ∧ pc = 0 ∧ ic = 0 ∧ fac = FP.dconst0 ∧ (F k).1 ≠ 4 ∧ wr = nI (Ad k))
theorem rd_chain {row wid : FT} {n : Nat} {r : Int32} {ov : Int64} {wr : Int32} {pc ic : Nat} {fac : UInt64} {c : TC} (h : RdC row wid n r ov wr pc ic fac c) : ∃ (F : Nat → TC) (Ad : Nat → Nat) (k : Nat), Ch row wid n F Ad k ∧ ((F k).1 = 4 ∨ Fin3 row wid n (Ad k) (F k)) ∧ RdL F Ad k r ov wr pc ic fac c := by
  rcases h with ⟨h1, h2, h3, h4, i, a, F, Ad, h5, h6, h7⟩ | ⟨h1, h2, h3, h4, i, a, c0, ⟨F, Ad, h5, h6, h7⟩, h8, h9⟩
  · exact ⟨F, Ad, i, h5, Or.inl (by rw [h6]; exact h4), Or.inl ⟨h1, h2, h3, h6, by rw [h6]; exact h4⟩⟩
  · exact ⟨F, Ad, i, h5, Or.inr (by rw [h6, h7]; exact h8), Or.inr ⟨h1, h2, h3, h4, by rw [h6]; exact h8.1, by rw [h7]; exact h9⟩⟩
def RdM (row : FT) (n : Nat) (F : Nat → TC) (Ad : Nat → Nat) (k : Nat) (r ref : Int32) (who : Nat) (fnd : Int32) (pcm : Nat) (m : TM) : Prop :=
  (r = nI pcm ∧ ref = nI 0 ∧ who = 1 ∧ fnd = -1 ∧ (F k).1 = 4 ∧ RR row n (Ad k) (F k) m) ∨ (r = nI 0 ∧ ref = nI 1 ∧ who = 0 ∧ fnd = nI (Ad k) ∧ (F k).1 ≠ 4)
def LR (pc ic : Nat) (fac : UInt64) (nu ad co it : FT) (wr : Int32) (who pcm icm : Nat) (facm : UInt64) (nun adm com itm : FT) (fnd : Int32) : Prop :=
  wr = fnd ∧ ((who = 1 ∧ pcm = pc ∧ icm = ic ∧ facm = fac ∧ RPg pc nu ad co nun adm com ∧ RItm ic it itm) ∨ (who = 0 ∧ pc = 0 ∧ ic = 0 ∧ fac = FP.dconst0))
theorem LR_0 {nu ad co it nun adm com itm : FT} {facm : UInt64} {pcm icm : Nat} : LR 0 0 FP.dconst0 nu ad co it (-1) 0 pcm icm facm nun adm com itm (-1) := ⟨rfl, Or.inr ⟨rfl, rfl, rfl, rfl⟩⟩
theorem read_same {row : FT} {n : Nat} {F : Nat → TC} {Ad : Nat → Nat} {k : Nat} {r : Int32} {ov : Int64} {wr : Int32} {ph bA lA : Nat} {fac : UInt64} {pc ic : Nat} {nu ad co it st mk sc : FT} {kc dp : Nat} {fo : Int32} {now kept : FT} {r' ref : Int32} {who : Nat} {fnd : Int32} {sta lb la num den mag : Nat} {facm : UInt64} {pcm icm : Nat} {nun adm com itm df ag mkm scm : FT} {fom : Int32} {dee kcm : Nat} {sp stk : FT}
    (h1 : RdL F Ad k r ov wr pc ic fac (ph, bA, lA, fac, pc, ic, nu, ad, co, it, st, mk, sc, kc, dp, fo, now, kept)) (h2 : RdM row n F Ad k r' ref who fnd pcm (sta, lb, la, num, den, mag, facm, pcm, icm, nun, adm, com, itm, df, ag, mkm, scm, fom, dee, kcm, sp, stk)) :
    ref = r ∧ (r = nI 0 → ov = r'.toInt64) ∧ LR pc ic fac nu ad co it wr who pcm icm facm nun adm com itm fnd := by
  rcases h1 with ⟨a1, a2, a3, a4, a5⟩ | ⟨a1, a2, a3, a4, a5, a6⟩
  · rcases h2 with ⟨b1, b2, b3, b4, b5, b6⟩ | ⟨b1, b2, b3, b4, b5⟩
    · rw [a4] at b6 a5
      obtain ⟨e1, e2, e3, e4, e5, e6, hG, hI, hF, h0, hU, hN⟩ := b6
      dsimp only at a5
      refine ⟨by rw [b2, a1], fun _ => by rw [a2, b1, e4], by rw [a3, b4], Or.inl ⟨b3, e4, e5, (hU (by omega)).1, hG, hI⟩⟩
    · exact absurd a5 b5
  · rcases h2 with ⟨b1, b2, b3, b4, b5, b6⟩ | ⟨b1, b2, b3, b4, b5⟩
    · exact absurd b5 a5
    · exact ⟨by rw [b2, a1], fun h => absurd (h.symm.trans a1) n01, by rw [a6, b4], Or.inr ⟨b3, a2, a3, a4⟩⟩
