/-! what holds of every state that the law reaches -/
theorem upN_s {α : Type} (f : Nat → α) (k : Nat) (x : α) : upN f k x k = x := if_pos rfl
theorem upN_n {α : Type} (f : Nat → α) {k j : Nat} (x : α) (h : j ≠ k) : upN f k x j = f j := if_neg h
def tyS (p : pr) (no : Nat) (s : rS) : Prop := s.2.2.2.1 < 0 ∨ (s.2.2.2.1 = nI no ∧ ∀ i, i < 3 → p i = tyV (s.2.2.2.2 i))
theorem tcS_1 (T : tm) (p : pr) (no : Nat) (inp : Nat → vV) (s : rS) : (tcS T p no inp s).1 = s.1 + 1 := rfl
theorem tcS_7 (T : tm) (p : pr) (no : Nat) (inp : Nat → vV) (s : rS) : (tcS T p no inp s).2.1 7 = s.2.1 7 := by
  unfold tcS
  dsimp only
  split
  · rw [upN_n _ _ (by decide), upN_n _ _ (by decide)]
  · split
    · rw [upN_n _ _ (by decide), upN_n _ _ (by decide)]
    · rw [upN_n _ _ (by decide), upN_n _ _ (by decide), upN_n _ _ (by decide)]
theorem tcS_ty {T : tm} {p : pr} {no : Nat} {inp : Nat → vV} {s : rS} (hi : ∀ i, i < 3 → p i = tyV (inp i)) (h : s.2.2.2.1 < 0) : tyS p no (tcS T p no inp s) := by
  by_cases ho : 0 < (outS T inp (p 3) (p 4) (p 6)).2
  · refine Or.inr ⟨?_, ?_⟩
    · show (if 0 < (outS T inp (p 3) (p 4) (p 6)).2 then nI no else s.2.2.2.1) = _
      rw [if_pos ho]
    · show ∀ i, i < 3 → p i = tyV ((if 0 < (outS T inp (p 3) (p 4) (p 6)).2 then inp else s.2.2.2.2) i)
      rw [if_pos ho]
      exact hi
  · refine Or.inl ?_
    show (if 0 < (outS T inp (p 3) (p 4) (p 6)).2 then nI no else s.2.2.2.1) < 0
    rw [if_neg ho]
    exact h
theorem runL_inv {T : tm} {p : pr} {no : Nat} {g : Nat → Nat → vV} (hg : ∀ c i, i < 3 → p i = tyV (g c i)) : ∀ (m c : Nat) (s : rS), tyS p no s → (runL T p no g m c s).1 ≤ s.1 + m ∧ (runL T p no g m c s).2.1 7 = s.2.1 7 ∧ tyS p no (runL T p no g m c s) := by
  intro m
  induction m with
  | zero => intro c s h; exact ⟨Nat.le_refl _, rfl, h⟩
  | succ m ih =>
    intro c s h
    by_cases hn : s.2.2.2.1 < 0
    · have e : runL T p no g (m + 1) c s = runL T p no g m (c + 1) (tcS T p no (g c) s) := if_pos hn
      rw [e]
      obtain ⟨h1, h2, h3⟩ := ih (c + 1) (tcS T p no (g c) s) (tcS_ty (hg c) hn)
      rw [tcS_1] at h1
      rw [tcS_7] at h2
      exact ⟨by omega, h2, h3⟩
    · have e : runL T p no g (m + 1) c s = s := if_neg hn
      rw [e]
      exact ⟨by omega, rfl, h⟩
theorem mkS_inv {T : tm} {p : pr} {no : Nat} : ∀ (m next : Nat) (s : rS), tyS p no s → (mkS T p m next s).1 ≤ s.1 + m ∧ tyS p no (mkS T p m next s) := by
  intro m
  induction m with
  | zero => intro c s h; exact ⟨Nat.le_refl _, h⟩
  | succ m ih =>
    intro next s h
    unfold mkS
    cases hc : cand s.2.2.2.2 next with
    | none => exact ⟨by dsimp only; omega, h⟩
    | some inp =>
      dsimp only
      split
      · have h2 : tyS p no (s.1 + 1, upN (upN s.2.1 5 (s.2.1 5 + 1)) 6 (s.2.1 6 + 1), s.2.2.1, s.2.2.2.1, inp) := h.imp id (fun q => ⟨q.1, fun i hi => (q.2 i hi).trans (tyV_cand hc).symm⟩)
        obtain ⟨h3, h4⟩ := ih 0 _ h2
        exact ⟨by dsimp only at h3; omega, h4⟩
      · have h2 : tyS p no (s.1 + 1, upN s.2.1 5 (s.2.1 5 + 1), s.2.2.1, s.2.2.2.1, s.2.2.2.2) := h
        obtain ⟨h3, h4⟩ := ih (next + 1) _ h2
        exact ⟨by dsimp only at h3; omega, h4⟩
theorem setl_7 (s : rS) : (setl s).2.1 7 = 0 ∨ (setl s).2.1 7 = 1 := by
  have e : (setl s).2.1 7 = if s.2.1 5 < 200 then 1 else 0 := by unfold setl; exact upN_s s.2.1 7 _
  rw [e]
  split
  · exact Or.inr rfl
  · exact Or.inl rfl
def wfS (np : Nat) (P : Nat → pr) (s : rS) : Prop := s.1 ≤ 3000 ∧ (s.2.1 7 = 0 ∨ s.2.1 7 = 1) ∧ (s.2.2.2.1 < 0 ∨ ∃ k, k < np ∧ s.2.2.2.1 = nI k ∧ ∀ i, i < 3 → P k i = tyV (s.2.2.2.2 i))
theorem wfS_of {np k : Nat} {P : Nat → pr} {s : rS} (hk : k < np) (h1 : s.1 ≤ 3000) (h7 : s.2.1 7 = 0 ∨ s.2.1 7 = 1) (h : tyS (P k) k s) : wfS np P s :=
  ⟨h1, h7, h.imp id (fun q => ⟨k, hk, q.1, q.2⟩)⟩
theorem tyS_0 {p : pr} {no tr : Nat} {cin : Nat → vV} : tyS p no (rS0 tr cin) := Or.inl (by show (-1 : Int32) < 0; decide)
theorem drI_ty {cnt : Nat} {p : pr} {seed : Int32} (h : wfP1 cnt p) : ∀ c i, i < 3 → p i = tyV (drI p seed c i) := fun _ i hi => (drw_ty (h.1 i hi)).symm
theorem smI_ty {cnt m : Nat} {p : pr} (h : wfP1 cnt p) : ∀ c i, i < 3 → p i = tyV (smI p m c i) := by
  intro c i hi
  rcases (show i = 0 ∨ i = 1 ∨ i = 2 by omega) with rfl | rfl | rfl
  · exact (smv_ty (h.1 0 hi)).symm
  · exact (smv_ty (h.1 1 hi)).symm
  · exact (smv_ty (h.1 2 hi)).symm
theorem wfS_run {cnt np k n tr : Nat} {T : tm} {P : Nat → pr} {seed : Int32} {cin : Nat → vV} (hW : wfA cnt T np P) (hk : k < np) (htr : tr + n + 200 ≤ 3000) : wfS np P (runS T (P k) k n seed tr cin) := by
  have hp := hW.2.2.2 k hk
  obtain ⟨h1, h2, h3⟩ := runL_inv (T := T) (no := k) (drI_ty (seed := seed) hp) n 0 (rS0 tr cin) tyS_0
  have h1 : (runL T (P k) k (drI (P k) seed) n 0 (rS0 tr cin)).1 ≤ tr + n := h1
  have h2 : (runL T (P k) k (drI (P k) seed) n 0 (rS0 tr cin)).2.1 7 = 0 := h2
  unfold runS
  split
  · exact wfS_of hk (by omega) (Or.inl h2) h3
  · obtain ⟨h4, h5⟩ := mkS_inv (T := T) 200 0 _ h3
    exact wfS_of hk (Nat.le_trans (show (mkS T (P k) 200 0 (runL T (P k) k (drI (P k) seed) n 0 (rS0 tr cin))).1 ≤ tr + n + 200 by omega) htr) (setl_7 _) h5
theorem wfS_small {cnt np k m tr : Nat} {T : tm} {P : Nat → pr} {cin : Nat → vV} (hW : wfA cnt T np P) (hk : k < np) (htr : tr + alS (P k) m ≤ 3000) : wfS np P (smlS T (P k) k m tr cin) := by
  have hp := hW.2.2.2 k hk
  obtain ⟨h1, h2, h3⟩ := runL_inv (T := T) (no := k) (smI_ty (m := m) hp) (alS (P k) m) 0 (rS0 tr cin) tyS_0
  have h1 : (runL T (P k) k (smI (P k) m) (alS (P k) m) 0 (rS0 tr cin)).1 ≤ tr + alS (P k) m := h1
  have h2 : (runL T (P k) k (smI (P k) m) (alS (P k) m) 0 (rS0 tr cin)).2.1 7 = 0 := h2
  exact wfS_of hk (Nat.le_trans h1 htr) (Or.inl h2) h3
theorem wfS_again {np : Nat} {P : Nat → pr} {s : rS} (h : wfS np P s) (h3 : s.1 < 3000) : wfS np P (s.1 + 1, s.2.1, s.2.2.1, s.2.2.2.1, s.2.2.2.2) := ⟨h3, h.2.1, h.2.2⟩
theorem wfS_upN {np : Nat} {P : Nat → pr} {s : rS} {p : pr} (h : wfS np P s) : wfS (np + 1) (upN P np p) s :=
  ⟨h.1, h.2.1, h.2.2.imp id (fun ⟨k, hk, e, hi⟩ => ⟨k, by omega, e, by rw [upN_n _ _ (show k ≠ np by omega)]; exact hi⟩)⟩
theorem hasB_no {cnt : Nat} {x : Int32} (hc : cnt < 2 ^ 31) (h : hasB cnt x = true) : isNo x cnt := by
  simp only [hasB, Bool.and_eq_true, decide_eq_true_eq] at h
  exact vp_lt hc h.1 h.2
theorem isNo_m {x : Int32} {n m : Nat} (h : isNo x n) (hm : n ≤ m) : isNo x m := by
  obtain ⟨j, hj, e⟩ := h
  exact ⟨j, by omega, e⟩
theorem wfA_upT {cnt np : Nat} {T : tm} {P : Nat → pr} {w a b c n : Int32} (h : wfA cnt T np P) (hc : cnt < 60) (ha : alwB w n = true) (hp : prtB cnt w.toNatClampNeg a b c = true) : wfA (cnt + 1) (upT T cnt w a b c n) np P := by
  obtain ⟨h1, h2, h3, h4⟩ := h
  refine ⟨by omega, ?_, h3, ?_⟩
  · intro t ht
    by_cases htc : t = cnt
    · subst htc
      obtain ⟨k, hk, rfl, h0⟩ := alw_w ha
      rw [nI_clamp (by omega)] at hp
      simp only [prtB, Bool.and_eq_true, Bool.or_eq_true, decide_eq_true_eq] at hp
      obtain ⟨⟨p1, p2⟩, p3⟩ := hp
      refine ⟨k, hk, by simp [upT], fun q => ?_, fun q => ?_, fun q => ?_, fun q => ?_⟩
      · rw [show upT T t (nI k) a b c n 1 t = a by simp [upT]]
        exact p1.elim (fun z => by omega) (fun z => hasB_no (by omega) z)
      · rw [show upT T t (nI k) a b c n 2 t = b by simp [upT]]
        exact p2.elim (fun z => by omega) (fun z => hasB_no (by omega) z)
      · rw [show upT T t (nI k) a b c n 3 t = c by simp [upT]]
        exact p3.elim (fun z => by omega) (fun z => hasB_no (by omega) z)
      · rw [show upT T t (nI k) a b c n 4 t = n by simp [upT]]
        exact h0 q
    · obtain ⟨k, hk, q0, q1, q2, q3, q4⟩ := h2 t (by omega)
      have e : ∀ f, upT T cnt w a b c n f t = T f t := fun f => if_neg htc
      exact ⟨k, hk, by rw [e]; exact q0, by rw [e]; exact q1, by rw [e]; exact q2, by rw [e]; exact q3, by rw [e]; exact q4⟩
  · intro k hk
    obtain ⟨q1, q2, q3, q4⟩ := h4 k hk
    exact ⟨q1, q2.imp id (fun z => isNo_m z (by omega)), isNo_m q3 (by omega), q4.imp id (fun z => isNo_m z (by omega))⟩
theorem typB_3 {t : Int32} (h : typB t = true) : t = -1 ∨ t = 0 ∨ t = 1 := by
  simp only [typB, Bool.and_eq_true, decide_eq_true_eq] at h
  obtain ⟨h1, h2⟩ := h
  rw [Int32.lt_iff_toInt_lt, show (-1 : Int32).toInt = -1 from rfl] at h1
  rw [Int32.lt_iff_toInt_lt, show (1 : Int32).toInt = 1 from rfl] at h2
  rcases (show t.toInt = -1 ∨ t.toInt = 0 ∨ t.toInt = 1 by omega) with h | h | h
  · exact Or.inl (Int32.toInt_inj.mp h)
  · exact Or.inr (Or.inl (Int32.toInt_inj.mp h))
  · exact Or.inr (Or.inr (Int32.toInt_inj.mp h))
theorem wfA_upN {cnt np : Nat} {T : tm} {P : Nat → pr} {p : pr} (h : wfA cnt T np P) (hn : np < 8) (hb : prpB cnt p = true) : wfA cnt T (np + 1) (upN P np p) := by
  obtain ⟨h1, h2, h3, h4⟩ := h
  refine ⟨h1, h2, by omega, fun k hk => ?_⟩
  by_cases hkn : k = np
  · subst hkn
    rw [upN_s]
    simp only [prpB, honB, Bool.and_eq_true, Bool.or_eq_true, decide_eq_true_eq] at hb
    obtain ⟨⟨⟨⟨⟨⟨⟨k0, k1⟩, k2⟩, k6⟩, k7⟩, k3⟩, k4⟩, k5⟩ := hb
    refine ⟨fun i hi => ?_, k3.imp id (hasB_no (by omega)), hasB_no (by omega) k4, k5.imp id (hasB_no (by omega))⟩
    rcases (show i = 0 ∨ i = 1 ∨ i = 2 by omega) with rfl | rfl | rfl
    · exact typB_3 k0
    · exact typB_3 k1
    · exact typB_3 k2
  · rw [upN_n _ _ hkn]
    exact h4 k (by omega)
