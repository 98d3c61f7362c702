/-! each call of the class and of the reference, side by side -/
abbrev gS : Type := Nat × tm × Nat × (Nat → pr) × rS
def okG (g : gS) : Prop := wfA g.1 g.2.1 g.2.2.1 g.2.2.2.1 ∧ wfS g.2.2.1 g.2.2.2.1 g.2.2.2.2
def xG (g : gS) (M : aM) : Prop := cA g.1 g.2.1 g.2.2.1 g.2.2.2.1 M ∧ cS g.2.2.2.2 M
def yG (g : gS) (M : aM) : Prop := mA g.1 g.2.1 g.2.2.1 g.2.2.2.1 M ∧ mS g.2.2.2.2 M
theorem yG_hi {g : gS} {M M' : aM} (h : yG g M) (hf : fC M M') : yG g M' := by
  obtain ⟨⟨h1, h2, h3, h4⟩, h5⟩ := h
  have e := hf 164 (by decide)
  refine ⟨⟨by rw [e]; exact h1, fun t ht => ?_, by rw [e]; exact h3, fun k hk => ?_⟩, mS_same h5 (fun j _ _ => by rw [e]) (hf 185 (by decide)) (hf 187 (by decide)) (hf 188 (by decide)) (hf 189 (by decide))⟩
  · rw [hf 165 (by decide), hf 166 (by decide), hf 167 (by decide), hf 168 (by decide), hf 169 (by decide)]
    exact h2 t ht
  · unfold mP1
    rw [hf 180 (by decide), hf 181 (by decide), hf 182 (by decide), hf 183 (by decide), hf 184 (by decide)]
    exact h4 k hk
theorem xG_mv {g : gS} {M M' : aM} (hg : okG g) (h : xG g M) (hf : ∀ q, q < 164 → q ≠ 143 → q ≠ 144 → M' q = M q) : xG g M' := by
  obtain ⟨⟨h1, h2, h3, h4⟩, h5⟩ := h
  have hnp : g.2.2.1 ≤ 8 := hg.1.2.2.1
  refine ⟨⟨by rw [hf 2 (by decide) (by decide) (by decide)]; exact h1, fun t ht => ?_, by rw [hf 0 (by decide) (by decide) (by decide)]; exact h3, fun k hk => ?_⟩, cS_R0 h5 (by rw [hf 1 (by decide) (by decide) (by decide)]) (hf 162 (by decide) (by decide) (by decide)) (hf 163 (by decide) (by decide) (by decide)) (by rw [hf 0 (by decide) (by decide) (by decide)]) (fun q q1 q2 => hf q (by omega) (by omega) (by omega))⟩
  · rw [hf 3 (by decide) (by decide) (by decide), hf 4 (by decide) (by decide) (by decide), hf 5 (by decide) (by decide) (by decide), hf 6 (by decide) (by decide) (by decide), hf 7 (by decide) (by decide) (by decide)]
    exact h2 t ht
  · unfold cP1
    rw [hf (146 + 2 * k) (by omega) (by omega) (by omega), hf (146 + 2 * k + 1) (by omega) (by omega) (by omega)]
    exact h4 k hk
theorem xG_lo {g : gS} {M M' : aM} (hg : okG g) (h : xG g M) (hf : fB M M') : xG g M' := xG_mv hg h (fun q hq _ _ => hf q hq)
def two (l : Launch) (K : aK) (Zx Zy : aY) (Lx Ly : List Value) (g : gS) : Prop :=
  ∃ (a : Int32) (g' : gS), okG g' ∧ (∀ (d : Nat) (M : aM) (Q : Option Value → aE → aM → Prop), 146 ≤ d → xG g M → (∀ M' : aM, xG g' M' → fC M M' → Q (some (.int a)) EE M') → aw l K Zx d 0 0 0 Lx [] EE M Q) ∧ (∀ (d : Nat) (M : aM) (Q : Option Value → aE → aM → Prop), 146 ≤ d → yG g M → (∀ M' : aM, yG g' M' → fB M M' → Q (some (.int a)) EE M') → aw l K Zy d 0 0 0 Ly [] EE M Q)
theorem rng1 {n : Int32} {b : Nat} (hb : b < 2 ^ 31) (h1 : ¬ n < 1) (h2 : ¬ nI b < n) : ∃ j, 1 ≤ j ∧ j ≤ b ∧ n = nI j := by
  have h0 : ¬ n < 0 := fun q => h1 (by rw [Int32.lt_iff_toInt_lt] at q ⊢; rw [ti_0] at q; rw [show (1 : Int32).toInt = 1 from rfl]; omega)
  obtain ⟨j, hj, rfl⟩ := nI_of2 (M := nI b) (n := b) (nI_toInt hb) h0 (i_nlt.mp h2)
  refine ⟨j, ?_, hj, rfl⟩
  rcases Nat.eq_zero_or_pos j with h | h
  · subst h; exact absurd (by decide) h1
  · exact h
section TWO
variable {l : Launch} {K : aK}
theorem two_run {g : gS} (hg : okG g) (x n seed : Int32) : two l K mX7_run mX8_run [.ref 0, .int x, .int n, .int seed, .null, .null] [.ref 164, .int x, .int n, .int seed, .null, .null, .null, .null] g := by
  obtain ⟨cnt, T, np, P, s⟩ := g
  have hW : wfA cnt T np P := hg.1
  have hS : wfS np P s := hg.2
  have hnp : np ≤ 8 := hW.2.2.1
  by_cases hb : (hasB np x && nB' n) = true
  · simp only [Bool.and_eq_true] at hb
    obtain ⟨hb1, hb2⟩ := hb
    obtain ⟨k, hk, rfl⟩ := hasB_no (by omega) hb1
    simp only [nB', Bool.and_eq_true, decide_eq_true_eq] at hb2
    obtain ⟨j, hj1, hj, rfl⟩ := rng1 (b := 200) (by decide) hb2.1 hb2.2
    by_cases ht : s.1 + j + 200 ≤ 3000
    · refine ⟨runA (runL T (P k) k (drI (P k) seed) j 0 (rS0 s.1 s.2.2.2.2)) j, (cnt, T, np, P, runS T (P k) k j seed s.1 s.2.2.2.2), ⟨hW, wfS_run hW hk ht⟩, fun d M Q hd hX hQ => ?_, fun d M Q hd hY hQ => ?_⟩
      · exact t_run hd hW hX.1 hk hX.2 hj1 hj ht (fun M' h1 h2 => hQ M' ⟨cA_same hX.1 h2 hnp, h1⟩ (fun q hq => h2.1 q (by omega)))
      · exact m_run (by omega) hW hY.1 hk hY.2 hj1 hj ht (fun M' h1 h2 => hQ M' ⟨mA_same hY.1 h2, h1⟩ (fun q hq => h2.1 q (by omega)))
    · refine ⟨-2, (cnt, T, np, P, s), ⟨hW, hS⟩, fun d M Q hd hX hQ => ?_, fun d M Q hd hY hQ => ?_⟩
      · exact t_runFull (by omega) hX.1.2.2.1 hnp hX.2.1 hS.1 hk hj1 hj ht (hQ M hX (fun _ _ => rfl))
      · exact m_runFull (by omega) hnp hY.1.2.2.1 hY.2.1 hS.1 hk hj1 hj ht (hQ M hY (fun _ _ => rfl))
  · have hb : (hasB np x && nB' n) = false := by simpa using hb
    refine ⟨-1, (cnt, T, np, P, s), ⟨hW, hS⟩, fun d M Q hd hX hQ => ?_, fun d M Q hd hY hQ => ?_⟩
    · exact t_runBad (by omega) hX.1.2.2.1 hb (hQ M hX (fun _ _ => rfl))
    · exact m_runBad (by omega) hnp hY.1.2.2.1 hb (hQ M hY (fun _ _ => rfl))
theorem smB_of {m : Int32} (h : smB m = true) : ∃ j, j ≤ 3 ∧ m = nI j := by
  simp only [smB, Bool.and_eq_true, decide_eq_true_eq] at h
  exact nI_of2 (M := 3) (n := 3) (by decide) h.1 (i_nlt.mp h.2)
theorem two_small {g : gS} (hg : okG g) (x m : Int32) : two l K mX7_small mX8_small [.ref 0, .int x, .int m, .null, .null] [.ref 164, .int x, .int m, .null, .null, .null, .null, .null, .null, .null] g := by
  obtain ⟨cnt, T, np, P, s⟩ := g
  have hW : wfA cnt T np P := hg.1
  have hS : wfS np P s := hg.2
  have hnp : np ≤ 8 := hW.2.2.1
  by_cases hb : (hasB np x && smB m) = true
  · simp only [Bool.and_eq_true] at hb
    obtain ⟨hb1, hb2⟩ := hb
    obtain ⟨k, hk, rfl⟩ := hasB_no (by omega) hb1
    obtain ⟨j, hj, rfl⟩ := smB_of hb2
    by_cases ht : s.1 + alS (P k) j ≤ 3000
    · refine ⟨smA (smlS T (P k) k j s.1 s.2.2.2.2), (cnt, T, np, P, smlS T (P k) k j s.1 s.2.2.2.2), ⟨hW, wfS_small hW hk ht⟩, fun d M Q hd hX hQ => ?_, fun d M Q hd hY hQ => ?_⟩
      · exact t_small hd hW hX.1 hk hX.2 hj ht (fun M' h1 h2 => hQ M' ⟨cA_same hX.1 h2 hnp, h1⟩ (fun q hq => h2.1 q (by omega)))
      · exact m_small (by omega) hW hY.1 hk hY.2 hj ht (fun M' h1 h2 => hQ M' ⟨mA_same hY.1 h2, h1⟩ (fun q hq => h2.1 q (by omega)))
    · refine ⟨-2, (cnt, T, np, P, s), ⟨hW, hS⟩, fun d M Q hd hX hQ => ?_, fun d M Q hd hY hQ => ?_⟩
      · exact t_smallFull (by omega) hX.1 hnp hX.2.1 hS.1 hk hj ht (hQ M hX (fun _ _ => rfl))
      · exact m_smallFull (by omega) hW hY.1 hY.2.1 hS.1 hk hj ht (hQ M hY (fun _ _ => rfl))
  · have hb : (hasB np x && smB m) = false := by simpa using hb
    refine ⟨-1, (cnt, T, np, P, s), ⟨hW, hS⟩, fun d M Q hd hX hQ => ?_, fun d M Q hd hY hQ => ?_⟩
    · exact t_smallBad (by omega) hX.1.2.2.1 hb (hQ M hX (fun _ _ => rfl))
    · exact m_smallBad (by omega) hnp hY.1.2.2.1 hb (hQ M hY (fun _ _ => rfl))
theorem two_many {g : gS} (hg : okG g) (x m : Int32) : two l K mX7_many mX8_many [.ref 0, .int x, .int m, .null] [.ref 164, .int x, .int m, .null] g := by
  obtain ⟨cnt, T, np, P, s⟩ := g
  have hW : wfA cnt T np P := hg.1
  have hS : wfS np P s := hg.2
  have hnp : np ≤ 8 := hW.2.2.1
  by_cases hb : (hasB np x && smB m) = true
  · simp only [Bool.and_eq_true] at hb
    obtain ⟨hb1, hb2⟩ := hb
    obtain ⟨k, hk, rfl⟩ := hasB_no (by omega) hb1
    obtain ⟨j, hj, rfl⟩ := smB_of hb2
    refine ⟨(if alS (P k) j ≤ 3000 then nI (alS (P k) j) else -2), (cnt, T, np, P, s), ⟨hW, hS⟩, fun d M Q hd hX hQ => ?_, fun d M Q hd hY hQ => ?_⟩
    · exact t_many (by omega) hX.1 hnp hk hj (hQ M hX (fun _ _ => rfl))
    · exact m_many (by omega) hW hY.1 hk hj (hQ M hY (fun _ _ => rfl))
  · have hb : (hasB np x && smB m) = false := by simpa using hb
    refine ⟨-1, (cnt, T, np, P, s), ⟨hW, hS⟩, fun d M Q hd hX hQ => ?_, fun d M Q hd hY hQ => ?_⟩
    · exact t_manyBad (by omega) hX.1.2.2.1 hb (hQ M hX (fun _ _ => rfl))
    · exact m_manyBad (by omega) hnp hY.1.2.2.1 hb (hQ M hY (fun _ _ => rfl))
theorem two_again {g : gS} (hg : okG g) : two l K mX7_again mX8_again [.ref 0] [.ref 164] g := by
  obtain ⟨cnt, T, np, P, s⟩ := g
  have hW : wfA cnt T np P := hg.1
  have hS : wfS np P s := hg.2
  have hnp : np ≤ 8 := hW.2.2.1
  by_cases hb : s.2.2.2.1 < 0
  · refine ⟨-2, (cnt, T, np, P, s), ⟨hW, hS⟩, fun d M Q hd hX hQ => ?_, fun d M Q hd hY hQ => ?_⟩
    · exact t_againNone hX.2 hb (hQ M hX (fun _ _ => rfl))
    · exact m_againNone hY.2 hb (hQ M hY (fun _ _ => rfl))
  · by_cases h3 : s.1 < 3000
    · obtain ⟨k, hk, e, hi⟩ := hS.2.2.resolve_left hb
      refine ⟨(outS T s.2.2.2.2 (P k 3) (P k 4) (P k 6)).2, (cnt, T, np, P, (s.1 + 1, s.2.1, s.2.2.1, s.2.2.2.1, s.2.2.2.2)), ⟨hW, wfS_again hS h3⟩, fun d M Q hd hX hQ => ?_, fun d M Q hd hY hQ => ?_⟩
      · exact t_again (by omega) hW hX.1 hX.2 hk e h3 (fun M' h1 h2 => hQ M' ⟨cA_same hX.1 h2 hnp, h1⟩ (fun q hq => h2.1 q (by omega)))
      · exact m_again (by omega) hW hY.1 hY.2 hk e hi h3 (fun M' h1 h2 => hQ M' ⟨mA_same hY.1 h2, h1⟩ (fun q hq => h2.1 q (by omega)))
    · have h3 : s.1 = 3000 := by have := hS.1; omega
      refine ⟨-3, (cnt, T, np, P, s), ⟨hW, hS⟩, fun d M Q hd hX hQ => ?_, fun d M Q hd hY hQ => ?_⟩
      · exact t_againSpent hX.2 hb h3 (hQ M hX (fun _ _ => rfl))
      · exact m_againSpent hY.2 hb h3 (hQ M hY (fun _ _ => rfl))
theorem two_counter {g : gS} (hg : okG g) (x y : Int32) : two l K mX7_counter mX8_counter [.ref 0, .int x, .int y] [.ref 164, .int x, .int y] g := by
  refine ⟨(if g.2.2.2.2.2.2.2.1 < 0 ∨ x < 0 ∨ 3 ≤ x then -2147483648 else rd (g.2.2.2.2.2.2.2.2 x.toNatClampNeg) y), g, hg, fun d M Q hd hX hQ => ?_, fun d M Q hd hY hQ => ?_⟩
  · exact t_counter (by omega) hX.2 (hQ M hX (fun _ _ => rfl))
  · exact m_counter (by omega) hY.2 (hQ M hY (fun _ _ => rfl))
theorem two_drawn {g : gS} (hg : okG g) (seed c i ty k : Int32) : two l K mX7_drawn mX8_drawn [.ref 0, .int seed, .int c, .int i, .int ty, .int k] [.ref 164, .int seed, .int c, .int i, .int ty, .int k] g := by
  by_cases hb : drB c i ty = true
  · simp only [drB, Bool.and_eq_true, decide_eq_true_eq] at hb
    obtain ⟨⟨⟨⟨⟨h1, h2⟩, h3⟩, h4⟩, h5⟩, h6⟩ := hb
    obtain ⟨c, hc, rfl⟩ := vp_lt (k := c) (n := 200) (by decide) h1 h2
    obtain ⟨i, hi, rfl⟩ := vp_lt (k := i) (n := 3) (by decide) h3 h4
    refine ⟨rd (drw seed c i ty) k, g, hg, fun d M Q hd hX hQ => ?_, fun d M Q hd hY hQ => ?_⟩
    · exact t_drawn (by omega) hc hi ⟨h5, h6⟩ (fun M' hf => hQ M' (xG_mv hg hX (fun q _ q1 q2 => hf q q1 q2)) (fun q hq => hf q (by omega) (by omega)))
    · exact m_drawn (by omega) hc hi ⟨h5, h6⟩ (fun M' hf => hQ M' ⟨mA_same hY.1 (fD_V hf), fD_S hf hY.2⟩ (fun q hq => hf.1 q (by omega) (by omega) (by omega) (by omega)))
  · have hb : drB c i ty = false := by simpa using hb
    refine ⟨-2147483648, g, hg, fun d M Q hd hX hQ => ?_, fun d M Q hd hY hQ => ?_⟩
    · exact t_drawnBad hb (hQ M hX (fun _ _ => rfl))
    · exact m_drawnBad (by omega) hb (hQ M hY (fun _ _ => rfl))
theorem two_told {g : gS} (hg : okG g) (x : Int32) : two l K mX7_told mX8_told [.ref 0, .int x] [.ref 164, .int x] g := by
  refine ⟨toldS g.1 g.2.2.1 g.2.2.2.2 x, g, hg, fun d M Q hd hX hQ => ?_, fun d M Q hd hY hQ => ?_⟩
  · exact t_told (by omega) hX.1 hX.2 hg.2.2.1 (hQ M hX (fun _ _ => rfl))
  · exact m_told hY.1 hY.2 (hQ M hY (fun _ _ => rfl))
theorem two_label {g : gS} (hg : okG g) (x : Int32) : two l K mX7_label mX8_label [.ref 0, .int x] [.ref 164, .int x] g := by
  refine ⟨(if x < 0 ∨ 9 ≤ x then -1 else g.2.2.2.2.2.2.1 x.toNatClampNeg), g, hg, fun d M Q hd hX hQ => ?_, fun d M Q hd hY hQ => ?_⟩
  · exact t_label hX.2 (hQ M hX (fun _ _ => rfl))
  · exact m_label (by omega) hY.2 (hQ M hY (fun _ _ => rfl))
theorem two_term {g : gS} (hg : okG g) (w a b c n : Int32) : two l K mX7_term mX8_term [.ref 0, .int w, .int a, .int b, .int c, .int n] [.ref 164, .int w, .int a, .int b, .int c, .int n] g := by
  obtain ⟨cnt, T, np, P, s⟩ := g
  have hW : wfA cnt T np P := hg.1
  have hS : wfS np P s := hg.2
  have hnp : np ≤ 8 := hW.2.2.1
  have hcn : cnt ≤ 60 := hW.1
  by_cases hb : (alwB w n && prtB cnt w.toNatClampNeg a b c) = true
  · have hb2 := hb
    simp only [Bool.and_eq_true] at hb2
    obtain ⟨ha, hp⟩ := hb2
    by_cases hc : cnt < 60
    · refine ⟨nI cnt, (cnt + 1, upT T cnt w a b c n, np, P, s), ⟨wfA_upT hW hc ha hp, hS⟩, fun d M Q hd hX hQ => ?_, fun d M Q hd hY hQ => ?_⟩
      · exact t_term (by omega) hc hX.1 hX.2 ha hp hnp (fun M' h1 h2 h3 => hQ M' ⟨h1, h2⟩ h3)
      · exact m_term (by omega) hc hY.1 hY.2 hb (fun M' h1 h2 h3 => hQ M' ⟨h1, h2⟩ h3)
    · have hc : cnt = 60 := by omega
      subst hc
      refine ⟨-2, (60, T, np, P, s), ⟨hW, hS⟩, fun d M Q hd hX hQ => ?_, fun d M Q hd hY hQ => ?_⟩
      · exact t_termFull (by omega) hX.1.1 ha hp (hQ M hX (fun _ _ => rfl))
      · exact m_termFull (by omega) hY.1.1 hb (hQ M hY (fun _ _ => rfl))
  · have hb : (alwB w n && prtB cnt w.toNatClampNeg a b c) = false := by simpa using hb
    refine ⟨-1, (cnt, T, np, P, s), ⟨hW, hS⟩, fun d M Q hd hX hQ => ?_, fun d M Q hd hY hQ => ?_⟩
    · exact t_termBad (by omega) hX.1.1 hb (hQ M hX (fun _ _ => rfl))
    · exact m_termBad (by omega) (by omega) hY.1.1 hb (hQ M hY (fun _ _ => rfl))
theorem two_property {g : gS} (hg : okG g) (p : pr) : two l K mX7_property mX8_property [.ref 0, .int (p 0), .int (p 1), .int (p 2), .int (p 3), .int (p 4), .int (p 5), .int (p 6), .null] [.ref 164, .int (p 0), .int (p 1), .int (p 2), .int (p 3), .int (p 4), .int (p 5), .int (p 6)] g := by
  obtain ⟨cnt, T, np, P, s⟩ := g
  have hW : wfA cnt T np P := hg.1
  have hS : wfS np P s := hg.2
  have hnp : np ≤ 8 := hW.2.2.1
  have hcn : cnt ≤ 60 := hW.1
  by_cases hb : prpB cnt p = true
  · by_cases hn : np < 8
    · refine ⟨nI np, (cnt, T, np + 1, upN P np p, s), ⟨wfA_upN hW hn hb, wfS_upN hS⟩, fun d M Q hd hX hQ => ?_, fun d M Q hd hY hQ => ?_⟩
      · exact t_property (by omega) hn hX.1 hX.2 hb (fun M' h1 h2 h3 => hQ M' ⟨h1, h2⟩ h3)
      · exact m_property (by omega) (by omega) hn hY.1 hY.2 hb (fun M' h1 h2 h3 => hQ M' ⟨h1, h2⟩ h3)
    · have hn : np = 8 := by omega
      subst hn
      refine ⟨-2, (cnt, T, 8, P, s), ⟨hW, hS⟩, fun d M Q hd hX hQ => ?_, fun d M Q hd hY hQ => ?_⟩
      · exact t_propFull (by omega) hX.1.1 hX.1.2.2.1 hb (hQ M hX (fun _ _ => rfl))
      · exact m_propFull (by omega) (by omega) hY.1.1 hY.1.2.2.1 hb (hQ M hY (fun _ _ => rfl))
  · have hb : prpB cnt p = false := by simpa using hb
    refine ⟨-1, (cnt, T, np, P, s), ⟨hW, hS⟩, fun d M Q hd hX hQ => ?_, fun d M Q hd hY hQ => ?_⟩
    · exact t_propBad (by omega) hX.1.1 hb (hQ M hX (fun _ _ => rfl))
    · exact m_propBad (by omega) (by omega) hY.1.1 hb (hQ M hY (fun _ _ => rfl))
end TWO
