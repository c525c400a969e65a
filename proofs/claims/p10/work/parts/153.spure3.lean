/-! ===== class and reference side by side ===== -/
def RFo (st mk sc df ag mkm scm : FT) (f : Nat) : Prop :=
  (st f = nI 0 ∧ df f = nI 0 ∧ ag f = nI 0) ∨ (st f = nI 1 ∧ df f = nI 1 ∧ ag f = nI 0 ∧ mk f = mkm f ∧ sc f = scm f) ∨ (st f = nI 2 ∧ df f = nI 1 ∧ ag f = nI 1 ∧ mk f = mkm f ∧ sc f = scm f)
def RPl6 (now sp : FT) : Prop := sp 0 = now 0 ∧ sp 1 = now 1 ∧ sp 2 = now 4 ∧ sp 3 = now 5 ∧ sp 4 = now 6 ∧ sp 5 = now 7
def RSt (kc : Nat) (kept stk : FT) : Prop := ∀ l, l < kc → RPl6 (fun j => kept (l * 8 + j)) (fun j => stk (8 * l + j))
def RPg (pc : Nat) (nu ad co nun adm com : FT) : Prop := ∀ j, j < pc → nun j = nu j ∧ adm j = ad j ∧ com j = co j
def RItm (ic : Nat) (it itm : FT) : Prop := ∀ i, i < ic → itm (9 * i + 2) = it (i * 7 + 2) ∧ itm (9 * i + 3) = it (i * 7 + 3)
def RUn (row : FT) (n num den mag : Nat) (fac facm : UInt64) : Prop := facm = fac ∧ num = rdN row n 2 2 ∧ den = rdN row n 4 2 ∧ mag = rdN row n 6 2 ∧ 8 ≤ n
def RIn (pc kc : Nat) (fo : Int32) (now kept : FT) (fom : Int32) (kcm : Nat) (sp stk : FT) : Prop := 0 < pc ∧ kcm = kc ∧ fom = fo ∧ RPl6 now sp ∧ RSt kc kept stk
def RR (row : FT) (n a : Nat) : TC → TM → Prop := fun (ph, bA, lA, fac, pc, ic, nu, ad, co, it, st, mrk, sc, kc, dp, fo, now, kept) (sta, lb, la, num, den, mag, facm, pcm, icm, nun, adm, com, itm, df, ag, mkm, scm, fom, dee, kcm, sp, stk) =>
  sta = ph ∧ lb = bA ∧ (ph = 3 → la = lA) ∧ pcm = pc ∧ icm = ic ∧ dee = dp ∧ RPg pc nu ad co nun adm com ∧ RItm ic it itm ∧ (∀ f, f < 8 → RFo st mrk sc df ag mkm scm f) ∧ (ph = 0 → a = 0) ∧ (1 ≤ ph → RUn row n num den mag fac facm) ∧ (ph = 2 → RIn pc kc fo now kept fom kcm sp stk)
def SMt (row wd : FT) (n a : Nat) : TM → Nat → TM → Prop := fun (sta, lb, la, num, den, mag, fac, pc, ic, nu, ad, co, it, df, ag, mrk, sc, fo, dee, kc, sp, stk) bo d => SM row wd n a sta lb la num den mag fac pc ic nu ad co it df ag mrk sc fo dee kc sp stk bo d
theorem n01 : ¬ nI 0 = nI 1 := by decide
theorem n02 : ¬ nI 0 = nI 2 := by decide
theorem n12 : ¬ nI 1 = nI 2 := by decide
theorem RPl6_h {now now2 sp sp2 : FT} {x : Int32} (h : RPl6 now sp) (h1 : QMh now now2 x) (h2 : RMh sp sp2 x) : RPl6 now2 sp2 := by
  obtain ⟨e0, e1, e2, e3, e4, e5⟩ := h
  obtain ⟨a0, a1⟩ := h1
  obtain ⟨b0, b1⟩ := h2
  exact ⟨by rw [b0, a0, e0], by rw [b1 1 (by decide) (by decide), a1 1 (by decide) (by decide), e1], by rw [b1 2 (by decide) (by decide), a1 4 (by decide) (by decide), e2], by rw [b1 3 (by decide) (by decide), a1 5 (by decide) (by decide), e3], by rw [b1 4 (by decide) (by decide), a1 6 (by decide) (by decide), e4], by rw [b1 5 (by decide) (by decide), a1 7 (by decide) (by decide), e5]⟩
theorem RPl6_v {now now2 sp sp2 : FT} {x : Int32} (h : RPl6 now sp) (h1 : QMv now now2 x) (h2 : RMv sp sp2 x) : RPl6 now2 sp2 := by
  obtain ⟨e0, e1, e2, e3, e4, e5⟩ := h
  obtain ⟨a0, a1⟩ := h1
  obtain ⟨b0, b1⟩ := h2
  exact ⟨by rw [b1 0 (by decide) (by decide), a1 0 (by decide) (by decide), e0], by rw [b0, a0, e1], by rw [b1 2 (by decide) (by decide), a1 4 (by decide) (by decide), e2], by rw [b1 3 (by decide) (by decide), a1 5 (by decide) (by decide), e3], by rw [b1 4 (by decide) (by decide), a1 6 (by decide) (by decide), e4], by rw [b1 5 (by decide) (by decide), a1 7 (by decide) (by decide), e5]⟩
theorem RItm_put {ic : Nat} {now sp it it2 itm itm2 : FT} (h : RItm ic it itm) (hp : RPl6 now sp) (h1 : QPut ic now it it2) (h2 : RPut ic sp itm itm2) : RItm (ic + 1) it2 itm2 := by
  intro i hi
  obtain ⟨a0, a1, a2⟩ := h1
  obtain ⟨b0, b1, b2⟩ := h2
  by_cases e : i = ic
  · subst e
    exact ⟨by rw [b1, a1, hp.1], by rw [b2, a2, hp.2.1]⟩
  · have := h i (by omega)
    exact ⟨by rw [b0 _ (by omega), a0 _ (by omega), this.1], by rw [b0 _ (by omega), a0 _ (by omega), this.2]⟩
theorem RPg_co {pc : Nat} {nu ad co nun adm com : FT} (h : RPg pc nu ad co nun adm com) (hp : 0 < pc) : RPg pc nu ad (upd co (pc - 1) (co (pc - 1) + nI 1)) nun adm (upd com (pc - 1) (com (pc - 1) + nI 1)) := by
  intro j hj
  obtain ⟨h1, h2, h3⟩ := h j hj
  refine ⟨h1, h2, ?_⟩
  by_cases e : j = pc - 1
  · subst e; rw [upd_s, upd_s, h3]
  · rw [upd_n e, upd_n e, h3]
theorem sim_char {wid : FT} {pc ic : Nat} {nu ad co it nun adm com itm : FT} {fo : Int32} {now sp : FT} {ch mv bo ic2 bo' ic3 : Nat} {co2 it2 now2 com2 itm2 sp2 : FT} (hpc : 0 < pc) (hP : RPl6 now sp) (hI : RItm ic it itm) (hG : RPg pc nu ad co nun adm com)
    (h1 : QChar wid pc ic co it fo now ch mv bo ic2 co2 it2 now2) (h2 : RChar wid pc ic com itm fo sp ch mv bo' ic3 com2 itm2 sp2) : bo = bo' ∧ (bo = 1 → ic3 = ic2 ∧ RItm ic2 it2 itm2 ∧ RPg pc nu ad co2 nun adm com2 ∧ RPl6 now2 sp2) := by
  rcases h1 with ⟨e1, a1, a2, a3, ⟨f, f1, f2, f3⟩, a4, a5, a6⟩ | ⟨e1, a1⟩
  · rcases h2 with ⟨e2, b1, b2, ⟨g, g1, g2, g3⟩, b4, b5, b6⟩ | ⟨e2, b1⟩
    · refine ⟨by omega, fun _ => ⟨by omega, ?_, ?_, ?_⟩⟩
      · rw [a4]; exact RItm_put hI hP a6 b6
      · rw [a5, b5]; exact RPg_co hG hpc
      · have hfg : f = g := (nI_eq (by omega) (by omega)).mp (f2.symm.trans g2)
        subst hfg
        rcases f3 with ⟨m1, m2⟩ | ⟨m1, m2⟩
        · rcases g3 with ⟨k1, k2⟩ | ⟨k1, k2⟩
          · rw [m2, k2]; exact hP
          · omega
        · rcases g3 with ⟨k1, k2⟩ | ⟨k1, k2⟩
          · omega
          · rw [show 128 * f + ch = f * 128 + ch by omega] at k2
            exact RPl6_h hP m2 k2
    · exfalso
      rcases b1 with h | h | h
      · omega
      · omega
      · exact nI_m1 f1 (f2.symm.trans h)
  · rcases h2 with ⟨e2, b1, b2, ⟨g, g1, g2, g3⟩, b4, b5, b6⟩ | ⟨e2, b1⟩
    · exfalso
      rcases a1 with h | h | h | h
      · omega
      · omega
      · omega
      · exact nI_m1 g1 (g2.symm.trans h)
    · exact ⟨by omega, fun h => by omega⟩
theorem sim_rule {row : FT} {n a pc ic : Nat} {nu ad co it nun adm com itm : FT} {now sp : FT} {mv bo ic2 bo' ic3 : Nat} {co2 it2 now2 com2 itm2 sp2 : FT} (hpc : 0 < pc) (hP : RPl6 now sp) (hI : RItm ic it itm) (hG : RPg pc nu ad co nun adm com)
    (h1 : QRule row n a pc ic co it now mv bo ic2 co2 it2 now2) (h2 : RRule row n a pc ic com itm sp mv bo' ic3 com2 itm2 sp2) : bo = bo' ∧ (bo = 1 → ic3 = ic2 ∧ RItm ic2 it2 itm2 ∧ RPg pc nu ad co2 nun adm com2 ∧ RPl6 now2 sp2) := by
  rcases h1 with ⟨e1, a1, a2⟩ | ⟨e1, a1, a2, a3⟩
  · rcases h2 with ⟨e2, b1, b2⟩ | ⟨e2, b1, b2, b3⟩
    · have hpl : RPl6 now2 sp2 := by
        rcases a1 with ⟨m1, m2⟩ | ⟨m1, m2⟩
        · rcases b1 with ⟨k1, k2⟩ | ⟨k1, k2⟩
          · rw [m2, k2]; exact hP
          · omega
        · rcases b1 with ⟨k1, k2⟩ | ⟨k1, k2⟩
          · omega
          · exact RPl6_h hP m2 k2
      refine ⟨by omega, fun _ => ?_⟩
      rcases a2 with ⟨c1, c2, c3, c4, c5, c6, c7⟩ | ⟨c1, c2, c3, c4⟩
      · rcases b2 with ⟨d1, d2, d4, d5, d6, d7⟩ | ⟨d1, d2, d3, d4⟩
        · refine ⟨by omega, ?_, ?_, hpl⟩
          · rw [c5]; exact RItm_put hI hP c7 d7
          · rw [c6, d6]; exact RPg_co hG hpc
        · exact absurd ⟨c1, c2⟩ d1
      · rcases b2 with ⟨d1, d2, d4, d5, d6, d7⟩ | ⟨d1, d2, d3, d4⟩
        · exact absurd ⟨d1, d2⟩ c1
        · refine ⟨by omega, ?_, ?_, hpl⟩
          · rw [c2, c4, d4]; exact hI
          · rw [c3, d3]; exact hG
    · exfalso
      rcases a2 with ⟨c1, c2, c3, c4, c5, c6, c7⟩ | ⟨c1, c2, c3, c4⟩
      · omega
      · exact c1 ⟨b1, b2⟩
  · rcases h2 with ⟨e2, b1, b2⟩ | ⟨e2, b1, b2, b3⟩
    · exfalso
      rcases b2 with ⟨d1, d2, d4, d5, d6, d7⟩ | ⟨d1, d2, d3, d4⟩
      · omega
      · exact d1 ⟨a1, a2⟩
    · exact ⟨by omega, fun h => by omega⟩
theorem sim_push {kc dp : Nat} {now kept sp stk : FT} {bo kc2 dp2 bo' kc3 dp3 : Nat} {kept2 stk2 : FT} (hP : RPl6 now sp) (hS : RSt kc kept stk) (h1 : QPush kc dp now kept bo kc2 dp2 kept2) (h2 : RPush kc dp sp stk bo' kc3 dp3 stk2) : bo = bo' ∧ (bo = 1 → kc3 = kc2 ∧ dp3 = dp2 ∧ RSt kc2 kept2 stk2) := by
  rcases h1 with ⟨e1, a1, a2, a3, a4, a5⟩ | ⟨e1, a1⟩
  · rcases h2 with ⟨e2, b1, b2, b3, b4, b5⟩ | ⟨e2, b1⟩
    · refine ⟨by omega, fun _ => ⟨by omega, by omega, ?_⟩⟩
      rw [a2]
      intro l hl
      by_cases e : l = kc
      · subst e
        obtain ⟨p0, p1, p2, p3, p4, p5⟩ := hP
        exact ⟨by dsimp only; rw [b5 0 (by decide), a5 0 (by decide), p0], by dsimp only; rw [b5 1 (by decide), a5 1 (by decide), p1], by dsimp only; rw [b5 2 (by decide), a5 4 (by decide), p2], by dsimp only; rw [b5 3 (by decide), a5 5 (by decide), p3], by dsimp only; rw [b5 4 (by decide), a5 6 (by decide), p4], by dsimp only; rw [b5 5 (by decide), a5 7 (by decide), p5]⟩
      · obtain ⟨p0, p1, p2, p3, p4, p5⟩ := hS l (by omega)
        dsimp only at p0 p1 p2 p3 p4 p5
        exact ⟨by dsimp only; rw [b4 _ (by omega), a4 _ (by omega), p0], by dsimp only; rw [b4 _ (by omega), a4 _ (by omega), p1], by dsimp only; rw [b4 _ (by omega), a4 _ (by omega), p2], by dsimp only; rw [b4 _ (by omega), a4 _ (by omega), p3], by dsimp only; rw [b4 _ (by omega), a4 _ (by omega), p4], by dsimp only; rw [b4 _ (by omega), a4 _ (by omega), p5]⟩
    · omega
  · rcases h2 with ⟨e2, b1, b2, b3, b4, b5⟩ | ⟨e2, b1⟩
    · omega
    · exact ⟨by omega, fun h => by omega⟩
theorem sim_pop {kc : Nat} {now kept stk : FT} {bo kc2 bo' kc3 : Nat} {now2 sp2 : FT} (hS : RSt kc kept stk) (h1 : QPop kc now kept bo kc2 now2) (h2 : RPop kc stk bo' kc3 sp2) : bo = bo' ∧ (bo = 1 → kc3 = kc2 ∧ RPl6 now2 sp2 ∧ RSt kc2 kept stk) := by
  rcases h1 with ⟨e1, a1, a2, a3⟩ | ⟨e1, a1⟩
  · rcases h2 with ⟨e2, b1, b2, b3⟩ | ⟨e2, b1⟩
    · refine ⟨by omega, fun _ => ⟨by omega, ?_, fun l hl => hS l (by omega)⟩⟩
      obtain ⟨p0, p1, p2, p3, p4, p5⟩ := hS (kc - 1) (by omega)
      dsimp only at p0 p1 p2 p3 p4 p5
      exact ⟨by rw [b3 0 (by decide), a3 0 (by decide), p0], by rw [b3 1 (by decide), a3 1 (by decide), p1], by rw [b3 2 (by decide), a3 4 (by decide), p2], by rw [b3 3 (by decide), a3 5 (by decide), p3], by rw [b3 4 (by decide), a3 6 (by decide), p4], by rw [b3 5 (by decide), a3 7 (by decide), p5]⟩
    · omega
  · rcases h2 with ⟨e2, b1, b2, b3⟩ | ⟨e2, b1⟩
    · omega
    · exact ⟨by omega, fun h => by omega⟩
theorem RPl6_u4 {now sp : FT} {x : Int32} (h : RPl6 now sp) : RPl6 (upd now 4 x) (upd sp 2 x) := by
  obtain ⟨h0, h1, h2, h3, h4, h5⟩ := h
  exact ⟨by rw [upd_n (by decide), upd_n (by decide)]; exact h0, by rw [upd_n (by decide), upd_n (by decide)]; exact h1, by rw [upd_s, upd_s], by rw [upd_n (by decide), upd_n (by decide)]; exact h3, by rw [upd_n (by decide), upd_n (by decide)]; exact h4, by rw [upd_n (by decide), upd_n (by decide)]; exact h5⟩
theorem RPl6_u5 {now sp : FT} {x : Int32} (h : RPl6 now sp) : RPl6 (upd now 5 x) (upd sp 3 x) := by
  obtain ⟨h0, h1, h2, h3, h4, h5⟩ := h
  exact ⟨by rw [upd_n (by decide), upd_n (by decide)]; exact h0, by rw [upd_n (by decide), upd_n (by decide)]; exact h1, by rw [upd_n (by decide), upd_n (by decide)]; exact h2, by rw [upd_s, upd_s], by rw [upd_n (by decide), upd_n (by decide)]; exact h4, by rw [upd_n (by decide), upd_n (by decide)]; exact h5⟩
theorem RPl6_u6 {now sp : FT} {x : Int32} (h : RPl6 now sp) : RPl6 (upd now 6 x) (upd sp 4 x) := by
  obtain ⟨h0, h1, h2, h3, h4, h5⟩ := h
  exact ⟨by rw [upd_n (by decide), upd_n (by decide)]; exact h0, by rw [upd_n (by decide), upd_n (by decide)]; exact h1, by rw [upd_n (by decide), upd_n (by decide)]; exact h2, by rw [upd_n (by decide), upd_n (by decide)]; exact h3, by rw [upd_s, upd_s], by rw [upd_n (by decide), upd_n (by decide)]; exact h5⟩
theorem RPl6_u7 {now sp : FT} {x : Int32} (h : RPl6 now sp) : RPl6 (upd now 7 x) (upd sp 5 x) := by
  obtain ⟨h0, h1, h2, h3, h4, h5⟩ := h
  exact ⟨by rw [upd_n (by decide), upd_n (by decide)]; exact h0, by rw [upd_n (by decide), upd_n (by decide)]; exact h1, by rw [upd_n (by decide), upd_n (by decide)]; exact h2, by rw [upd_n (by decide), upd_n (by decide)]; exact h3, by rw [upd_n (by decide), upd_n (by decide)]; exact h4, by rw [upd_s, upd_s]⟩
theorem tbk_z : tbk 139 = 0 ∧ tbk 143 = 0 ∧ tbk 150 = 0 ∧ tbk 154 = 0 := by decide
theorem tbk_p {op : Nat} (h : (140 ≤ op ∧ op ≤ 142) ∨ (144 ≤ op ∧ op ≤ 146) ∨ (151 ≤ op ∧ op ≤ 153) ∨ (155 ≤ op ∧ op ≤ 157)) : 0 < tbk op := by
  rcases (show op = 140 ∨ op = 141 ∨ op = 142 ∨ op = 144 ∨ op = 145 ∨ op = 146 ∨ op = 151 ∨ op = 152 ∨ op = 153 ∨ op = 155 ∨ op = 156 ∨ op = 157 by omega) with rfl | rfl | rfl | rfl | rfl | rfl | rfl | rfl | rfl | rfl | rfl | rfl <;> decide
theorem sim_k40 {row : FT} {n a k : Nat} {x : Int32} {now now2 sp sp2 : FT} (hk : k = 0) (hP : RPl6 now sp) (h1 : QKh 4 false x now now2) (h2 : RKept row n a 2 k sp sp2) : RPl6 now2 sp2 := by
  obtain ⟨w1, e1, a1⟩ := h1
  obtain ⟨s1, e2, b1⟩ := h2
  rw [if_neg (by decide)] at e1
  subst e1
  have e3 : s1 = sp := by rcases e2 with ⟨e, -⟩ | ⟨-, e⟩; omega; exact e
  subst e3
  rcases b1 with ⟨c1, c2⟩ | ⟨c1, c2⟩
  · exact RPl6_h hP a1 (by rw [← hP.2.2.1]; exact c2)
  · omega
theorem sim_k41 {row : FT} {n a k : Nat} {now now2 sp sp2 : FT} (hk : 0 < k) (hP : RPl6 now sp) (h1 : QKh 4 true (rdS row n (a + 1) k) now now2) (h2 : RKept row n a 2 k sp sp2) : RPl6 now2 sp2 := by
  obtain ⟨w1, e1, a1⟩ := h1
  obtain ⟨s1, e2, b1⟩ := h2
  rw [if_pos rfl] at e1
  subst e1
  have e3 : s1 = upd sp 2 (rdS row n (a + 1) k) := by rcases e2 with ⟨-, e⟩ | ⟨e, -⟩; exact e; omega
  subst e3
  have hQ := RPl6_u4 (x := rdS row n (a + 1) k) hP
  rw [upd_s] at a1
  rw [upd_s] at b1
  rcases b1 with ⟨c1, c2⟩ | ⟨c1, c2⟩
  · exact RPl6_h hQ a1 c2
  · omega
theorem sim_k50 {row : FT} {n a k : Nat} {x : Int32} {now now2 sp sp2 : FT} (hk : k = 0) (hP : RPl6 now sp) (h1 : QKh 5 false x now now2) (h2 : RKept row n a 3 k sp sp2) : RPl6 now2 sp2 := by
  obtain ⟨w1, e1, a1⟩ := h1
  obtain ⟨s1, e2, b1⟩ := h2
  rw [if_neg (by decide)] at e1
  subst e1
  have e3 : s1 = sp := by rcases e2 with ⟨e, -⟩ | ⟨-, e⟩; omega; exact e
  subst e3
  rcases b1 with ⟨c1, c2⟩ | ⟨c1, c2⟩
  · exact RPl6_h hP a1 (by rw [← hP.2.2.2.1]; exact c2)
  · omega
theorem sim_k51 {row : FT} {n a k : Nat} {now now2 sp sp2 : FT} (hk : 0 < k) (hP : RPl6 now sp) (h1 : QKh 5 true (rdS row n (a + 1) k) now now2) (h2 : RKept row n a 3 k sp sp2) : RPl6 now2 sp2 := by
  obtain ⟨w1, e1, a1⟩ := h1
  obtain ⟨s1, e2, b1⟩ := h2
  rw [if_pos rfl] at e1
  subst e1
  have e3 : s1 = upd sp 3 (rdS row n (a + 1) k) := by rcases e2 with ⟨-, e⟩ | ⟨e, -⟩; exact e; omega
  subst e3
  have hQ := RPl6_u5 (x := rdS row n (a + 1) k) hP
  rw [upd_s] at a1
  rw [upd_s] at b1
  rcases b1 with ⟨c1, c2⟩ | ⟨c1, c2⟩
  · exact RPl6_h hQ a1 c2
  · omega
theorem sim_k60 {row : FT} {n a k : Nat} {x : Int32} {now now2 sp sp2 : FT} (hk : k = 0) (hP : RPl6 now sp) (h1 : QKv 6 false x now now2) (h2 : RKept row n a 4 k sp sp2) : RPl6 now2 sp2 := by
  obtain ⟨w1, e1, a1⟩ := h1
  obtain ⟨s1, e2, b1⟩ := h2
  rw [if_neg (by decide)] at e1
  subst e1
  have e3 : s1 = sp := by rcases e2 with ⟨e, -⟩ | ⟨-, e⟩; omega; exact e
  subst e3
  rcases b1 with ⟨c1, c2⟩ | ⟨c1, c2⟩
  · omega
  · exact RPl6_v hP a1 (by rw [← hP.2.2.2.2.1]; exact c2)
theorem sim_k61 {row : FT} {n a k : Nat} {now now2 sp sp2 : FT} (hk : 0 < k) (hP : RPl6 now sp) (h1 : QKv 6 true (rdS row n (a + 1) k) now now2) (h2 : RKept row n a 4 k sp sp2) : RPl6 now2 sp2 := by
  obtain ⟨w1, e1, a1⟩ := h1
  obtain ⟨s1, e2, b1⟩ := h2
  rw [if_pos rfl] at e1
  subst e1
  have e3 : s1 = upd sp 4 (rdS row n (a + 1) k) := by rcases e2 with ⟨-, e⟩ | ⟨e, -⟩; exact e; omega
  subst e3
  have hQ := RPl6_u6 (x := rdS row n (a + 1) k) hP
  rw [upd_s] at a1
  rw [upd_s] at b1
  rcases b1 with ⟨c1, c2⟩ | ⟨c1, c2⟩
  · omega
  · exact RPl6_v hQ a1 c2
theorem sim_k70 {row : FT} {n a k : Nat} {x : Int32} {now now2 sp sp2 : FT} (hk : k = 0) (hP : RPl6 now sp) (h1 : QKv 7 false x now now2) (h2 : RKept row n a 5 k sp sp2) : RPl6 now2 sp2 := by
  obtain ⟨w1, e1, a1⟩ := h1
  obtain ⟨s1, e2, b1⟩ := h2
  rw [if_neg (by decide)] at e1
  subst e1
  have e3 : s1 = sp := by rcases e2 with ⟨e, -⟩ | ⟨-, e⟩; omega; exact e
  subst e3
  rcases b1 with ⟨c1, c2⟩ | ⟨c1, c2⟩
  · omega
  · exact RPl6_v hP a1 (by rw [← hP.2.2.2.2.2]; exact c2)
theorem sim_k71 {row : FT} {n a k : Nat} {now now2 sp sp2 : FT} (hk : 0 < k) (hP : RPl6 now sp) (h1 : QKv 7 true (rdS row n (a + 1) k) now now2) (h2 : RKept row n a 5 k sp sp2) : RPl6 now2 sp2 := by
  obtain ⟨w1, e1, a1⟩ := h1
  obtain ⟨s1, e2, b1⟩ := h2
  rw [if_pos rfl] at e1
  subst e1
  have e3 : s1 = upd sp 5 (rdS row n (a + 1) k) := by rcases e2 with ⟨-, e⟩ | ⟨e, -⟩; exact e; omega
  subst e3
  have hQ := RPl6_u7 (x := rdS row n (a + 1) k) hP
  rw [upd_s] at a1
  rw [upd_s] at b1
  rcases b1 with ⟨c1, c2⟩ | ⟨c1, c2⟩
  · omega
  · exact RPl6_v hQ a1 c2
theorem sim_move {row : FT} {n a op : Nat} {now now2 sp sp2 : FT} (hP : RPl6 now sp) (h1 : QMove row n a op now now2) (h2 : RMove row n a op sp sp2) : RPl6 now2 sp2 := by
  obtain ⟨z1, z2, z3, z4⟩ := tbk_z
  rcases h1 with ⟨x1, x2, x⟩ | ⟨x1, x⟩ | ⟨x1, x2, x⟩ | ⟨x1, x⟩ | ⟨x1, x2, x⟩ | ⟨x1, x2, x⟩ | ⟨x1, x⟩ | ⟨x1, x2, x⟩ | ⟨x1, x⟩ | ⟨x1, x2, x⟩
  · rcases h2 with ⟨y1, y2, y⟩ | ⟨y1, y2, y⟩ | ⟨y1, y2, y⟩ | ⟨y1, y2, y⟩ | ⟨y1, y2, y⟩ | ⟨y1, y2, y⟩
    · exact RPl6_h hP x y
    · omega
    · omega
    · omega
    · omega
    · omega
  · rcases h2 with ⟨y1, y2, y⟩ | ⟨y1, y2, y⟩ | ⟨y1, y2, y⟩ | ⟨y1, y2, y⟩ | ⟨y1, y2, y⟩ | ⟨y1, y2, y⟩
    · omega
    · omega
    · exact sim_k40 (by rw [x1]; assumption) hP x y
    · omega
    · omega
    · omega
  · rcases h2 with ⟨y1, y2, y⟩ | ⟨y1, y2, y⟩ | ⟨y1, y2, y⟩ | ⟨y1, y2, y⟩ | ⟨y1, y2, y⟩ | ⟨y1, y2, y⟩
    · omega
    · omega
    · exact sim_k41 (tbk_p (by omega)) hP x y
    · omega
    · omega
    · omega
  · rcases h2 with ⟨y1, y2, y⟩ | ⟨y1, y2, y⟩ | ⟨y1, y2, y⟩ | ⟨y1, y2, y⟩ | ⟨y1, y2, y⟩ | ⟨y1, y2, y⟩
    · omega
    · omega
    · omega
    · exact sim_k50 (by rw [x1]; assumption) hP x y
    · omega
    · omega
  · rcases h2 with ⟨y1, y2, y⟩ | ⟨y1, y2, y⟩ | ⟨y1, y2, y⟩ | ⟨y1, y2, y⟩ | ⟨y1, y2, y⟩ | ⟨y1, y2, y⟩
    · omega
    · omega
    · omega
    · exact sim_k51 (tbk_p (by omega)) hP x y
    · omega
    · omega
  · rcases h2 with ⟨y1, y2, y⟩ | ⟨y1, y2, y⟩ | ⟨y1, y2, y⟩ | ⟨y1, y2, y⟩ | ⟨y1, y2, y⟩ | ⟨y1, y2, y⟩
    · omega
    · exact RPl6_v hP x y
    · omega
    · omega
    · omega
    · omega
  · rcases h2 with ⟨y1, y2, y⟩ | ⟨y1, y2, y⟩ | ⟨y1, y2, y⟩ | ⟨y1, y2, y⟩ | ⟨y1, y2, y⟩ | ⟨y1, y2, y⟩
    · omega
    · omega
    · omega
    · omega
    · exact sim_k60 (by rw [x1]; assumption) hP x y
    · omega
  · rcases h2 with ⟨y1, y2, y⟩ | ⟨y1, y2, y⟩ | ⟨y1, y2, y⟩ | ⟨y1, y2, y⟩ | ⟨y1, y2, y⟩ | ⟨y1, y2, y⟩
    · omega
    · omega
    · omega
    · omega
    · exact sim_k61 (tbk_p (by omega)) hP x y
    · omega
  · rcases h2 with ⟨y1, y2, y⟩ | ⟨y1, y2, y⟩ | ⟨y1, y2, y⟩ | ⟨y1, y2, y⟩ | ⟨y1, y2, y⟩ | ⟨y1, y2, y⟩
    · omega
    · omega
    · omega
    · omega
    · omega
    · exact sim_k70 (by rw [x1]; assumption) hP x y
  · rcases h2 with ⟨y1, y2, y⟩ | ⟨y1, y2, y⟩ | ⟨y1, y2, y⟩ | ⟨y1, y2, y⟩ | ⟨y1, y2, y⟩ | ⟨y1, y2, y⟩
    · omega
    · omega
    · omega
    · omega
    · omega
    · exact sim_k71 (tbk_p (by omega)) hP x y
theorem RFo_n {st mk sc df ag mkm scm : FT} {f g : Nat} (h : RFo st mk sc df ag mkm scm g) (e : g ≠ f) (x y : Int32) : RFo (upd st f x) mk sc df (upd ag f y) mkm scm g := by
  unfold RFo
  rw [upd_n e, upd_n e]
  exact h
theorem RFo_n2 {st mk sc df ag mkm scm : FT} {f g : Nat} (h : RFo st mk sc df ag mkm scm g) (e : g ≠ f) (x y u v : Int32) : RFo (upd st f x) (upd mk f u) (upd sc f v) (upd df f y) ag (upd mkm f u) (upd scm f v) g := by
  unfold RFo
  rw [upd_n e, upd_n e, upd_n e, upd_n e, upd_n e, upd_n e]
  exact h
theorem sim_def {row : FT} {n a ph : Nat} {st mk sc df ag mkm scm : FT} {bo bo' : Nat} {st2 mk2 sc2 df2 ag2 mkm2 scm2 : FT} (hF : ∀ f, f < 8 → RFo st mk sc df ag mkm scm f) (h1 : QDef row n a ph st mk sc bo st2 mk2 sc2) (h2 : RDef row n a ph df ag mkm scm bo' df2 ag2 mkm2 scm2) :
    bo = bo' ∧ (bo = 1 → ∀ f, f < 8 → RFo st2 mk2 sc2 df2 ag2 mkm2 scm2 f) := by
  unfold RDef at h2
  unfold QDef at h1
  generalize rdN row n (a + 1) 1 = f at h1 h2
  generalize rdN row n (a + 2) 2 = u at h1 h2
  generalize rdN row n (a + 4) 2 = v at h1 h2
  rcases h1 with ⟨p1, h1, em, es⟩ | ⟨p1, h1⟩
  · rcases h1 with ⟨e1, f8, a1, a2, a3, a4⟩ | ⟨e1, a1⟩
    · have hf := hF f f8
      have key : df f = nI 1 ∧ ag f = nI 0 ∧ mkm f = nI u ∧ scm f = nI v := by
        rcases hf with ⟨q1, -, -⟩ | ⟨q1, q2, q3, q4, q5⟩ | ⟨q1, -⟩
        · exact absurd (q1.symm.trans a1) n01
        · exact ⟨q2, q3, q4.symm.trans a2, q5.symm.trans a3⟩
        · exact absurd (a1.symm.trans q1) n12
      obtain ⟨k1, k2, k3, k4⟩ := key
      rcases h2 with ⟨e2, b1, b2, b3, b4, b5, b6, b7, b8, b9, b10⟩ | ⟨e2, b1, -⟩ | ⟨e2, b1⟩
      · refine ⟨by omega, fun _ g hg => ?_⟩
        subst em es a4 b7 b8 b9 b10
        by_cases e : g = f
        · subst e
          refine Or.inr (Or.inr ⟨upd_s, k1, upd_s, ?_, ?_⟩)
          · rw [a2, k3]
          · rw [a3, k4]
        · exact RFo_n (hF g hg) e _ _
      · omega
      · exfalso
        rcases b1 with h | ⟨h, -⟩ | ⟨-, h⟩
        · omega
        · omega
        · rcases h with h | h | h | h
          · exact n01 (h.symm.trans k1)
          · exact h k2
          · exact h k3
          · exact h k4
    · rcases h2 with ⟨e2, b1, b2, b3, b4, b5, b6, b7, b8, b9, b10⟩ | ⟨e2, b1, -⟩ | ⟨e2, b1⟩
      · exfalso
        have hf := hF f b2
        have key : st f = nI 1 ∧ mk f = nI u ∧ sc f = nI v := by
          rcases hf with ⟨-, q2, -⟩ | ⟨q1, q2, q3, q4, q5⟩ | ⟨q1, q2, q3, q4, q5⟩
          · exact absurd q2 b3
          · exact ⟨q1, q4.trans b5, q5.trans b6⟩
          · exact absurd (b4.symm.trans q3) n01
        rcases a1 with h | h | h | h
        · omega
        · exact h key.1
        · exact h key.2.1
        · exact h key.2.2
      · omega
      · exact ⟨by omega, fun h => by omega⟩
  · rcases h1 with ⟨e1, f8, a1, a2, a3, a4⟩ | ⟨e1, a1⟩
    · have hf := hF f f8
      have key : df f = nI 0 ∧ ag f = nI 0 := by
        rcases hf with ⟨q1, q2, q3⟩ | ⟨q1, -⟩ | ⟨q1, -⟩
        · exact ⟨q2, q3⟩
        · exact absurd (a1.symm.trans q1) n01
        · exact absurd (a1.symm.trans q1) n02
      rcases h2 with ⟨e2, b1, -⟩ | ⟨e2, b1, b2, b3, b4, b5, b6, b7⟩ | ⟨e2, b1⟩
      · omega
      · refine ⟨by omega, fun _ g hg => ?_⟩
        subst a2 a3 a4 b4 b5 b6 b7
        by_cases e : g = f
        · subst e
          exact Or.inr (Or.inl ⟨upd_s, upd_s, key.2, by rw [upd_s, upd_s], by rw [upd_s, upd_s]⟩)
        · exact RFo_n2 (hF g hg) e _ _ _ _
      · exfalso
        rcases b1 with h | ⟨-, h⟩ | ⟨h, -⟩
        · omega
        · exact h key.1
        · omega
    · rcases h2 with ⟨e2, b1, -⟩ | ⟨e2, b1, b2, b3, b4, b5, b6, b7⟩ | ⟨e2, b1⟩
      · omega
      · exfalso
        have hf := hF f b2
        have key : st f = nI 0 := by
          rcases hf with ⟨q1, -⟩ | ⟨-, q2, -⟩ | ⟨-, q2, -⟩
          · exact q1
          · exact absurd (b3.symm.trans q2) n01
          · exact absurd (b3.symm.trans q2) n01
        rcases a1 with h | h
        · omega
        · exact h key
      · exact ⟨by omega, fun h => by omega⟩
theorem sim_choose {st mk sc df ag mkm scm : FT} {f bo bo' : Nat} {fo2 fo3 : Int32} (hf : RFo st mk sc df ag mkm scm f) (h1 : QChoose st f bo fo2) (h2 : RChoose df f bo' fo3) : bo = bo' ∧ (bo = 1 → fo3 = fo2) := by
  have key : st f = nI 0 ↔ df f = nI 0 := by
    rcases hf with ⟨q1, q2, -⟩ | ⟨q1, q2, -⟩ | ⟨q1, q2, -⟩
    · exact ⟨fun _ => q2, fun _ => q1⟩
    · exact ⟨fun h => absurd (h.symm.trans q1) n01, fun h => absurd (h.symm.trans q2) n01⟩
    · exact ⟨fun h => absurd (h.symm.trans q1) n02, fun h => absurd (h.symm.trans q2) n01⟩
  rcases h1 with ⟨e1, a1, a2⟩ | ⟨e1, a1⟩
  · rcases h2 with ⟨e2, b1, b2⟩ | ⟨e2, b1⟩
    · exact ⟨by omega, fun _ => by rw [a2, b2]⟩
    · exact absurd (key.mpr b1) a1
  · rcases h2 with ⟨e2, b1, b2⟩ | ⟨e2, b1⟩
    · exact absurd (key.mp a1) b1
    · exact ⟨by omega, fun h => by omega⟩
theorem sim_start {row : FT} {n a bo bo' num2 den2 mag2 sta2 : Nat} {fac2 fac3 : UInt64} (ha : a = 0) (hn : 8 ≤ n) (h1 : QStart row n a bo fac2) (h2 : RStart row n a bo' num2 den2 mag2 fac3 sta2) : bo = bo' ∧ (bo = 1 → sta2 = 1 ∧ RUn row n num2 den2 mag2 fac2 fac3) := by
  subst ha
  rcases h1 with ⟨e1, a1, a2, a3, a4, a5⟩ | ⟨e1, a1⟩
  · rcases h2 with ⟨e2, b1, b2, b3, b4, b5, b6, b7, b8, b9⟩ | ⟨e2, b1⟩
    · exact ⟨by omega, fun _ => ⟨b9, by rw [a5, b8], b5, b6, b7, hn⟩⟩
    · omega
  · rcases h2 with ⟨e2, b1, b2, b3, b4, b5, b6, b7, b8, b9⟩ | ⟨e2, b1⟩
    · omega
    · exact ⟨by omega, fun h => by omega⟩
theorem sim_begin {row : FT} {n a bA pc ic : Nat} {nu ad co nun adm com : FT} {bo pc2 bo' pc3 : Nat} {nu2 ad2 co2 now2 nun2 adm2 com2 sp2 : FT} (hG : RPg pc nu ad co nun adm com) (h1 : QBegin row n a bA pc ic nu ad co bo pc2 nu2 ad2 co2 now2) (h2 : RBegin row n a bA pc nun adm com bo' pc3 nun2 adm2 com2 sp2) :
    bo = bo' ∧ (bo = 1 → pc3 = pc2 ∧ 0 < pc2 ∧ RPg pc2 nu2 ad2 co2 nun2 adm2 com2 ∧ RPl6 now2 sp2) := by
  rcases h1 with ⟨e1, a1, a2, a3, a4, a5, a6, a7⟩ | ⟨e1, a1⟩
  · rcases h2 with ⟨e2, b1, b2, b3, b4, b5, b6, b7⟩ | ⟨e2, b1⟩
    · refine ⟨by omega, fun _ => ⟨by omega, by omega, ?_, ?_⟩⟩
      · subst a3 a4 a5 a6 b4 b5 b6
        intro j hj
        by_cases e : j = pc
        · subst e; exact ⟨by rw [upd_s, upd_s], by rw [upd_s, upd_s], by rw [upd_s, upd_s]⟩
        · rw [upd_n e, upd_n e, upd_n e, upd_n e, upd_n e, upd_n e]; exact hG j (by omega)
      · exact ⟨by rw [b7 0 (by decide), a7 0 (by decide)], by rw [b7 1 (by decide), a7 1 (by decide)], by rw [b7 2 (by decide), a7 4 (by decide)], by rw [b7 3 (by decide), a7 5 (by decide)], by rw [b7 4 (by decide), a7 6 (by decide)], by rw [b7 5 (by decide), a7 7 (by decide)]⟩
    · omega
  · rcases h2 with ⟨e2, b1, b2, b3, b4, b5, b6, b7⟩ | ⟨e2, b1⟩
    · omega
    · exact ⟨by omega, fun h => by omega⟩
theorem units_iff {row : FT} (hB : FB row) (n a : Nat) : QUnits row n a ↔ (rdN row n (a + 3) 2 = rdN row n 2 2 ∧ rdN row n (a + 5) 2 = rdN row n 4 2 ∧ rdN row n (a + 7) 2 = rdN row n 6 2) := by
  rw [rdN_2, rdN_2, rdN_2, rdN_2, rdN_2, rdN_2]
  have b0 := rdB_le hB n (a + 3)
  have b1 := rdB_le hB n (a + 3 + 1)
  have b2 := rdB_le hB n (a + 5)
  have b3 := rdB_le hB n (a + 5 + 1)
  have b4 := rdB_le hB n (a + 7)
  have b5 := rdB_le hB n (a + 7 + 1)
  have c0 := rdB_le hB n 2
  have c1 := rdB_le hB n (2 + 1)
  have c2 := rdB_le hB n 4
  have c3 := rdB_le hB n (4 + 1)
  have c4 := rdB_le hB n 6
  have c5 := rdB_le hB n (6 + 1)
  constructor
  · intro h
    have h0 : rdB row n (a + 3) = rdB row n 2 := h 0 (by decide)
    have h1 : rdB row n (a + 3 + 1) = rdB row n (2 + 1) := h 1 (by decide)
    have h2 : rdB row n (a + 5) = rdB row n 4 := h 2 (by decide)
    have h3 : rdB row n (a + 5 + 1) = rdB row n (4 + 1) := h 3 (by decide)
    have h4 : rdB row n (a + 7) = rdB row n 6 := h 4 (by decide)
    have h5 : rdB row n (a + 7 + 1) = rdB row n (6 + 1) := h 5 (by decide)
    exact ⟨by omega, by omega, by omega⟩
  · intro h
    have h0 : rdB row n (a + 3) = rdB row n 2 := by omega
    have h1 : rdB row n (a + 3 + 1) = rdB row n (2 + 1) := by omega
    have h2 : rdB row n (a + 5) = rdB row n 4 := by omega
    have h3 : rdB row n (a + 5 + 1) = rdB row n (4 + 1) := by omega
    have h4 : rdB row n (a + 7) = rdB row n 6 := by omega
    have h5 : rdB row n (a + 7 + 1) = rdB row n (6 + 1) := by omega
    intro i hi
    rcases (show i = 0 ∨ i = 1 ∨ i = 2 ∨ i = 3 ∨ i = 4 ∨ i = 5 by omega) with rfl | rfl | rfl | rfl | rfl | rfl
    · exact h0
    · exact h1
    · exact h2
    · exact h3
    · exact h4
    · exact h5
theorem sim_last {row : FT} {n a bA dp pc num den mag bo bo' : Nat} {fac facm : UInt64} (hB : FB row) (hU : RUn row n num den mag fac facm) (h1 : QLast row n a bA dp pc bo) (h2 : RLast row n a bA num den mag dp pc bo') : bo = bo' := by
  obtain ⟨-, u1, u2, u3, -⟩ := hU
  have hu := units_iff hB n a
  rw [← u1, ← u2, ← u3] at hu
  rcases h1 with ⟨e1, a1, a2, a3, a4⟩ | ⟨e1, a1⟩
  · obtain ⟨v1, v2, v3⟩ := hu.mp a2
    rcases h2 with ⟨e2, -⟩ | ⟨e2, b1⟩ <;> omega
  · rcases h2 with ⟨e2, b1, b2, b3, b4, b5, b6⟩ | ⟨e2, b1⟩
    · exfalso
      rcases a1 with h | h | h | h
      · omega
      · exact h (hu.mpr ⟨b2, b3, b4⟩)
      · omega
      · omega
    · omega
theorem sim_close {row : FT} {n a lA : Nat} {st mk sc df ag mkm scm : FT} {bo bo' : Nat} (hF : ∀ f, f < 8 → RFo st mk sc df ag mkm scm f) (h1 : QClose row n a lA st bo) (h2 : RClose row n a lA df ag bo') : bo = bo' := by
  have hall : QAll st ↔ ∀ j, j < 8 → df j = ag j := by
    constructor
    · intro h j hj
      rcases hF j hj with ⟨q1, q2, q3⟩ | ⟨q1, -⟩ | ⟨q1, q2, q3, -⟩
      · rw [q2, q3]
      · exact absurd q1 (h j hj)
      · rw [q2, q3]
    · intro h j hj e
      rcases hF j hj with ⟨q1, -⟩ | ⟨q1, q2, q3, -⟩ | ⟨q1, -⟩
      · exact n01 (q1.symm.trans e)
      · exact n01 (q3.symm.trans ((h j hj).symm.trans q2))
      · exact n12 (e.symm.trans q1)
  rcases h1 with ⟨e1, a1, a2, a3, a4⟩ | ⟨e1, a1⟩
  · rcases h2 with ⟨e2, -⟩ | ⟨e2, b1⟩
    · omega
    · exact absurd ⟨⟨⟨a1, a2, a4.1, a4.2.1⟩, a4.2.2⟩, hall.mp a3⟩ b1
  · rcases h2 with ⟨e2, ⟨⟨b1, b2, b3, b4⟩, b5⟩, b6⟩ | ⟨e2, b1⟩
    · exfalso
      rcases a1 with h | h | h | h
      · exact h b1
      · exact h b2
      · exact h (hall.mpr b6)
      · exact h ⟨b3, b4, b5⟩
    · omega
