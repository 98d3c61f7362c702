theorem drw_ty {seed : Int32} {c i : Nat} {ty : Int32} (h : ty = -1 ∨ ty = 0 ∨ ty = 1) : tyV (drw seed c i ty) = ty := by
  rcases h with rfl | rfl | rfl
  · rfl
  · rfl
  · rfl
theorem drw_none (seed : Int32) (c i : Nat) : drw seed c i (-1) = none := rfl
theorem dI_kI {v : vV} {i : Nat} {M M' : aM} (h : dI v M) (h1 : M' 171 i = M 164 31) (h2 : ∀ j, j < 16 → M' 172 (16 * i + j) = M 186 j) : kI 171 172 v i M' := by
  rcases v with _ | x | r
  · exact trivial
  · exact h1.trans h
  · exact ⟨h.1, h1.trans h.2.1, fun j hj => (h2 j (by have := h.1; omega)).trans (h.2.2 j hj)⟩
def fD (M M' : aM) : Prop := (∀ q, q ≠ 164 → q ≠ 171 → q ≠ 172 → q ≠ 186 → M' q = M q) ∧ ∀ j, j ≠ 31 → M' 164 j = M 164 j
theorem fD_refl (M : aM) : fD M M := ⟨fun _ _ _ _ _ => rfl, fun _ _ => rfl⟩
theorem fD_trans {M M1 M2 : aM} (h1 : fD M M1) (h2 : fD M1 M2) : fD M M2 := ⟨fun q a b c e => (h2.1 q a b c e).trans (h1.1 q a b c e), fun j hj => (h2.2 j hj).trans (h1.2 j hj)⟩
theorem fD_V {M M' : aM} (h : fD M M') : fV M M' := ⟨fun q hq => h.1 q (by omega) (by omega) (by omega) (by omega), h.2 0 (by decide), h.2 23 (by decide)⟩
theorem fD_S {s : rS} {M M' : aM} (h : fD M M') (hS : mS s M) : mS s M' := mS_same hS (fun j _ hj => h.2 j hj) (h.1 185 (by decide) (by decide) (by decide) (by decide)) (h.1 187 (by decide) (by decide) (by decide) (by decide)) (h.1 188 (by decide) (by decide) (by decide) (by decide)) (h.1 189 (by decide) (by decide) (by decide) (by decide))
theorem nI_p1 {n : Nat} {x : Int32} (hn : n < 2 ^ 30) : nI n - 1 < x ↔ nI n ≤ x := by
  have h1 : (nI n - 1).toInt = (n : Int) - 1 := by
    rw [Int32.toInt_sub, nI_toInt (by omega), show (1 : Int32).toInt = 1 from by decide]
    exact Int.bmod_eq_of_le (by omega) (by omega)
  rw [Int32.lt_iff_toInt_lt, Int32.le_iff_toInt_le, h1, nI_toInt (by omega)]
  omega
section MRUN
variable {l : Launch} {K : aK} {d : Nat} {M : aM} {Q : Option Value → aE → aM → Prop}
theorem m_isTerm {cnt : Nat} {x : Int32} (hd : 1 ≤ d) (hc : cnt < 2 ^ 30) (hM : M 164 0 = nI cnt) (hQ : Q (some (.int (b2 (hasB cnt x)))) EE M) : aw l K mX8_isTerm d 0 0 0 [.ref 164, .int x] [] EE M Q := by
  refine aw_iload_n (n := 1) dX8_isTerm_0 rfl rfl ?_
  refine aw_iconst (n := 2) (v := 0) dX8_isTerm_1 (by decide) rfl ?_
  refine aw_aload_n (n := 3) dX8_isTerm_2 rfl rfl ?_
  refine aw_geti (n := 6) dX8_isTerm_3 fX8_92 E_164 rfl rfl ?_
  rw [hM]
  refine aw_iconst (n := 7) (v := 1) dX8_isTerm_6 (by decide) rfl ?_
  refine aw_isub (n := 8) dX8_isTerm_7 rfl ?_
  refine aw_s3 (d1 := d - 1) (n := 11) (Z := mX8_in) (L0 := [_, _, _]) dX8_isTerm_8 kX8_in gX8_95 syX8_in rfl rfl rfl (Nat.le_of_ble_eq_true rfl) rfl rfl (by omega) (Nat.le_of_ble_eq_true rfl) (m_in (fun hb => ?_) (fun hb1 hb2 => ?_))
  · dsimp only [aPush]
    refine aw_zret dX8_isTerm_11 rfl (by first | exact Or.inl rfl | exact Or.inr rfl | assumption) ?_
    have h9 : hasB cnt x = false := by
      unfold hasB
      rcases hb with hb | hb
      · rw [decide_eq_false (p := ¬ x < 0) (fun q => q hb), Bool.false_and]
      · rw [decide_eq_false (p := ¬ nI cnt ≤ x) (fun q => q ((nI_p1 hc).mp hb)), Bool.and_false]
    rw [h9] at hQ; exact hQ
  · dsimp only [aPush]
    refine aw_zret dX8_isTerm_11 rfl (by first | exact Or.inl rfl | exact Or.inr rfl | assumption) ?_
    have h9 : hasB cnt x = true := by
      unfold hasB
      rw [decide_eq_true hb1, decide_eq_true (p := ¬ nI cnt ≤ x) (fun q => hb2 ((nI_p1 hc).mpr q))]; rfl
    rw [h9] at hQ; exact hQ
theorem m_isProperty {np : Nat} {x : Int32} (hd : 1 ≤ d) (hc : np < 2 ^ 30) (hM : M 164 23 = nI np) (hQ : Q (some (.int (b2 (hasB np x)))) EE M) : aw l K mX8_isProperty d 0 0 0 [.ref 164, .int x] [] EE M Q := by
  refine aw_iload_n (n := 1) dX8_isProperty_0 rfl rfl ?_
  refine aw_iconst (n := 2) (v := 0) dX8_isProperty_1 (by decide) rfl ?_
  refine aw_aload_n (n := 3) dX8_isProperty_2 rfl rfl ?_
  refine aw_geti (n := 6) dX8_isProperty_3 fX8_175 E_164 rfl rfl ?_
  rw [hM]
  refine aw_iconst (n := 7) (v := 1) dX8_isProperty_6 (by decide) rfl ?_
  refine aw_isub (n := 8) dX8_isProperty_7 rfl ?_
  refine aw_s3 (d1 := d - 1) (n := 11) (Z := mX8_in) (L0 := [_, _, _]) dX8_isProperty_8 kX8_in gX8_95 syX8_in rfl rfl rfl (Nat.le_of_ble_eq_true rfl) rfl rfl (by omega) (Nat.le_of_ble_eq_true rfl) (m_in (fun hb => ?_) (fun hb1 hb2 => ?_))
  · dsimp only [aPush]
    refine aw_zret dX8_isProperty_11 rfl (by first | exact Or.inl rfl | exact Or.inr rfl | assumption) ?_
    have h9 : hasB np x = false := by
      unfold hasB
      rcases hb with hb | hb
      · rw [decide_eq_false (p := ¬ x < 0) (fun q => q hb), Bool.false_and]
      · rw [decide_eq_false (p := ¬ nI np ≤ x) (fun q => q ((nI_p1 hc).mp hb)), Bool.and_false]
    rw [h9] at hQ; exact hQ
  · dsimp only [aPush]
    refine aw_zret dX8_isProperty_11 rfl (by first | exact Or.inl rfl | exact Or.inr rfl | assumption) ?_
    have h9 : hasB np x = true := by
      unfold hasB
      rw [decide_eq_true hb1, decide_eq_true (p := ¬ nI np ≤ x) (fun q => hb2 ((nI_p1 hc).mpr q))]; rfl
    rw [h9] at hQ; exact hQ
theorem hasB_k {np k : Nat} (hk : k < np) (hn : np < 2 ^ 30) : hasB np (nI k) = true := by
  unfold hasB
  rw [decide_eq_true (nI_pos (by omega)), decide_eq_true (nI_ge hk (by omega))]; rfl
theorem m_runBad {np : Nat} {x n seed : Int32} (hd : 3 ≤ d) (hnp : np ≤ 8) (hM : M 164 23 = nI np) (hb : (hasB np x && nB' n) = false) (hQ : Q (some (.int (-1))) EE M) : aw l K mX8_run d 0 0 0 [.ref 164, .int x, .int n, .int seed, .null, .null, .null, .null] [] EE M Q := by
  rcases hh : hasB np x with _ | _
  · refine aw_aload_n (n := 1) dX8_run_0 rfl rfl ?_
    refine aw_iload_n (n := 2) dX8_run_1 rfl rfl ?_
    refine aw_v1 (d1 := d - 1) (n := 5) (Z := mX8_isProperty) (ci := 6) (L0 := [_, _]) dX8_run_2 kX8_isProperty gX8_231 iyX8_isProperty eyX8_isProperty rfl rfl E_164 rfl (Nat.le_of_ble_eq_true rfl) rfl rfl (by omega) (Nat.le_of_ble_eq_true rfl) (m_isProperty (by omega) (by omega) hM ?_)
    dsimp only [aPush]
    rw [hh]
    refine aw_if_eq (tg := 19) (n := 8) dX8_run_5 (by decide) rfl (fun c_5 => ?_) (fun c_5 => by exact absurd rfl c_5)
    refine aw_iconst (n := 20) (v := -1) dX8_run_19 (by decide) rfl ?_
    refine aw_iret dX8_run_20 rfl ?_
    exact hQ
  · rw [hh, Bool.true_and] at hb
    refine aw_aload_n (n := 1) dX8_run_0 rfl rfl ?_
    refine aw_iload_n (n := 2) dX8_run_1 rfl rfl ?_
    refine aw_v1 (d1 := d - 1) (n := 5) (Z := mX8_isProperty) (ci := 6) (L0 := [_, _]) dX8_run_2 kX8_isProperty gX8_231 iyX8_isProperty eyX8_isProperty rfl rfl E_164 rfl (Nat.le_of_ble_eq_true rfl) rfl rfl (by omega) (Nat.le_of_ble_eq_true rfl) (m_isProperty (by omega) (by omega) hM ?_)
    dsimp only [aPush]
    rw [hh]
    refine aw_if_eq (tg := 19) (n := 8) dX8_run_5 (by decide) rfl (fun c_5 => by exact absurd c_5 (by decide)) (fun c_5 => ?_)
    refine aw_iload_n (n := 9) dX8_run_8 rfl rfl ?_
    refine aw_iconst (n := 10) (v := 1) dX8_run_9 (by decide) rfl ?_
    refine aw_sipush (n := 13) (v := 200) dX8_run_10 (by decide) rfl ?_
    refine aw_s3 (d1 := d - 1) (n := 16) (Z := mX8_in) (L0 := [_, _, _]) dX8_run_13 kX8_in gX8_95 syX8_in rfl rfl rfl (Nat.le_of_ble_eq_true rfl) rfl rfl (by omega) (Nat.le_of_ble_eq_true rfl) (m_in (fun hb => ?_) (fun hb1 hb2 => ?_))
    · dsimp only [aPush]
      refine aw_if_ne (tg := 21) (n := 19) dX8_run_16 (by decide) rfl (fun c_16 => by exact absurd rfl c_16) (fun c_16 => ?_)
      refine aw_iconst (n := 20) (v := -1) dX8_run_19 (by decide) rfl ?_
      refine aw_iret dX8_run_20 rfl ?_
      exact hQ
    · dsimp only [aPush]
      refine absurd hb ?_
      unfold nB'
      rw [decide_eq_true hb1, decide_eq_true hb2]; decide
theorem m_runFull {np k n tr : Nat} {seed : Int32} (hd : 3 ≤ d) (hnp : np ≤ 8) (hM : M 164 23 = nI np) (hT : M 164 29 = nI tr) (htr : tr ≤ 3000) (hk : k < np) (hn1 : 1 ≤ n) (hn2 : n ≤ 200) (hb : ¬ tr + n + 200 ≤ 3000) (hQ : Q (some (.int (-2))) EE M) : aw l K mX8_run d 0 0 0 [.ref 164, .int (nI k), .int (nI n), .int seed, .null, .null, .null, .null] [] EE M Q := by
  have hh := hasB_k hk (by omega)
  refine aw_aload_n (n := 1) dX8_run_0 rfl rfl ?_
  refine aw_iload_n (n := 2) dX8_run_1 rfl rfl ?_
  refine aw_v1 (d1 := d - 1) (n := 5) (Z := mX8_isProperty) (ci := 6) (L0 := [_, _]) dX8_run_2 kX8_isProperty gX8_231 iyX8_isProperty eyX8_isProperty rfl rfl E_164 rfl (Nat.le_of_ble_eq_true rfl) rfl rfl (by omega) (Nat.le_of_ble_eq_true rfl) (m_isProperty (by omega) (by omega) hM ?_)
  dsimp only [aPush]
  rw [hh]
  refine aw_if_eq (tg := 19) (n := 8) dX8_run_5 (by decide) rfl (fun c_5 => by exact absurd c_5 (by decide)) (fun c_5 => ?_)
  refine aw_iload_n (n := 9) dX8_run_8 rfl rfl ?_
  refine aw_iconst (n := 10) (v := 1) dX8_run_9 (by decide) rfl ?_
  refine aw_sipush (n := 13) (v := 200) dX8_run_10 (by decide) rfl ?_
  refine aw_s3 (d1 := d - 1) (n := 16) (Z := mX8_in) (L0 := [_, _, _]) dX8_run_13 kX8_in gX8_95 syX8_in rfl rfl rfl (Nat.le_of_ble_eq_true rfl) rfl rfl (by omega) (Nat.le_of_ble_eq_true rfl) (m_in (fun hb => ?_) (fun hb1 hb2 => ?_))
  · dsimp only [aPush]
    exact absurd hb (fun q => q.elim (fun q => absurd ((nI_ltI (b := 1) (by omega) (by decide)).mp q) (by omega)) (fun q => absurd ((nI_ltI (a := 200) (by decide) (by omega)).mp q) (by omega)))
  · dsimp only [aPush]
    refine aw_if_ne (tg := 21) (n := 19) dX8_run_16 (by decide) rfl (fun c_16 => ?_) (fun c_16 => by exact absurd c_16 (by decide))
    refine aw_aload_n (n := 22) dX8_run_21 rfl rfl ?_
    refine aw_geti (n := 25) dX8_run_22 fX8_178 E_164 rfl rfl ?_
    rw [hT]
    refine aw_iload_n (n := 26) dX8_run_25 rfl rfl ?_
    refine aw_iadd (n := 27) dX8_run_26 rfl ?_
    rw [nI_add]
    refine aw_sipush (n := 30) (v := 200) dX8_run_27 (by decide) rfl ?_
    refine aw_iadd (n := 31) dX8_run_30 rfl ?_
    rw [show (200 : Int32) = nI 200 from rfl, nI_add]
    refine aw_sipush (n := 34) (v := 3000) dX8_run_31 (by decide) rfl ?_
    refine aw_icmp_le (tg := 40) (n := 37) dX8_run_34 (by decide) rfl (fun c_34 => by exact absurd ((nI_leI (b := 3000) (by omega) (by decide)).mp c_34) hb) (fun c_34 => ?_)
    refine aw_bipush (n := 39) (v := -2) dX8_run_37 (by decide) rfl ?_
    refine aw_iret dX8_run_39 rfl ?_
    exact hQ
theorem m_run {cnt np k n : Nat} {T : tm} {P : Nat → pr} {s : rS} {seed : Int32} (hd : 20 ≤ d) (hW : wfA cnt T np P) (hA : mA cnt T np P M) (hk : k < np) (hS : mS s M) (hn1 : 1 ≤ n) (hn2 : n ≤ 200) (htr : s.1 + n + 200 ≤ 3000)
    (hQ : ∀ M', mS (runS T (P k) k n seed s.1 s.2.2.2.2) M' → fV M M' → Q (some (.int (runA (runL T (P k) k (drI (P k) seed) n 0 (rS0 s.1 s.2.2.2.2)) n))) EE M') : aw l K mX8_run d 0 0 0 [.ref 164, .int (nI k), .int (nI n), .int seed, .null, .null, .null, .null] [] EE M Q := by
  have hnp : np ≤ 8 := hW.2.2.1
  have hh := hasB_k hk (by omega)
  have hwk := hW.2.2.2 k hk
  have hnn : ¬ nI k < 0 := nI_pos (by omega)
  obtain ⟨sL, hsL⟩ : ∃ sL, sL = runL T (P k) k (drI (P k) seed) n 0 (rS0 s.1 s.2.2.2.2) := ⟨_, rfl⟩
  have hrun : runS T (P k) k n seed s.1 s.2.2.2.2 = if sL.2.2.2.1 < 0 then sL else setl (mkS T (P k) 200 0 sL) := by rw [hsL]; rfl
  rw [← hsL, hrun] at hQ
  have fin : ∀ (M1 : aM) (x5 x6 x7 : Value), mS sL M1 → fV M M1 → (¬ sL.2.2.2.1 < 0 → sL.2.2.2.1 = nI k ∧ ∀ i, i < 3 → P k i = tyV (sL.2.2.2.2 i)) → sL.2.1 5 = 0 → aw l K mX8_run d 0 0 170 [.ref 164, .int (nI k), .int (nI n), .int seed, .int (if sL.2.2.2.1 < 0 then 0 else 1), x5, x6, x7] [] EE M1 Q := by
    intro M1 x5 x6 x7 h1 h2 h3 h5
    have m34 : M1 164 34 = sL.2.1 1 := h1.2.1 1 (by decide)
    by_cases hf : sL.2.2.2.1 < 0
    · rw [if_pos hf] at hQ ⊢
      have h9 := hQ _ h1 h2
      refine aw_iload (n := 172) dX8_run_170 rfl rfl ?_
      refine aw_if_eq (tg := 182) (n := 175) dX8_run_172 (by decide) rfl (fun _ => ?_) (fun c_172 => by first | exact absurd rfl c_172 | exact absurd c_172 (by decide))
      refine aw_bipush (n := 184) (v := 10) dX8_run_182 (by decide) rfl ?_
      refine aw_aload_n (n := 185) dX8_run_184 rfl rfl ?_
      refine aw_geti (n := 188) dX8_run_185 fX8_206 E_164 rfl rfl ?_
      rw [m34]
      refine aw_imul (n := 189) dX8_run_188 rfl ?_
      rw [Int32.mul_comm]
      refine aw_iload_n (n := 190) dX8_run_189 rfl rfl ?_
      refine aw_icmp_ge (tg := 197) (n := 193) dX8_run_190 (by decide) rfl (fun c_190 => ?_) (fun c_190 => ?_)
      · refine aw_iconst (n := 198) (v := 1) dX8_run_197 (by decide) rfl ?_
        refine aw_iret dX8_run_198 rfl ?_
        first
          | (rw [show runA sL n = 2 from (if_pos hf).trans (if_pos (i_nle.mp c_190))] at h9; exact h9)
          | (rw [show runA sL n = 1 from (if_pos hf).trans (if_neg (i_nlt.mpr c_190))] at h9; exact h9)
      · refine aw_iconst (n := 194) (v := 2) dX8_run_193 (by decide) rfl ?_
        refine aw_goto (n := 198) dX8_run_194 (by decide) ?_
        refine aw_iret dX8_run_198 rfl ?_
        first
          | (rw [show runA sL n = 2 from (if_pos hf).trans (if_pos (i_nle.mp c_190))] at h9; exact h9)
          | (rw [show runA sL n = 1 from (if_pos hf).trans (if_neg (i_nlt.mpr c_190))] at h9; exact h9)
    · rw [if_neg hf] at hQ ⊢
      refine aw_iload (n := 172) dX8_run_170 rfl rfl ?_
      refine aw_if_eq (tg := 182) (n := 175) dX8_run_172 (by decide) rfl (fun c_172 => by first | exact absurd rfl c_172 | exact absurd c_172 (by decide)) (fun _ => ?_)
      refine aw_aload_n (n := 176) dX8_run_175 rfl rfl ?_
      refine aw_iload_n (n := 177) dX8_run_176 rfl rfl ?_
      refine aw_v1 (d1 := d - 1) (n := 180) (Z := mX8_smaller) (ci := 6) (L0 := [_, _, .null, .null, .null]) dX8_run_177 kX8_smaller gX8_240 iyX8_smaller eyX8_smaller rfl rfl E_164 rfl (Nat.le_of_ble_eq_true rfl) rfl rfl (by omega) (Nat.le_of_ble_eq_true rfl) (m_smaller (by omega) hW (mA_same hA h2) hk h1 (h3 hf).1 (h3 hf).2 h5 (fun M2 g1 g2 => ?_))
      dsimp only [aPush]
      refine aw_iconst (n := 181) (v := 0) dX8_run_180 (by decide) rfl ?_
      refine aw_iret dX8_run_181 rfl ?_
      have h9 := hQ _ g1 (fV_trans h2 g2)
      rw [show runA sL n = 0 from if_neg hf] at h9
      exact h9
  have inner : ∀ m i c (M1 : aM) (x7 : Value), m + i = 3 → c < 200 → fV M M1 → (∀ j, j < i → kI 171 172 (drI (P k) seed c j) j M1) → (∀ (M2 : aM) (x7 : Value), (∀ j, j < 3 → kI 171 172 (drI (P k) seed c j) j M2) → fD M1 M2 → aw l K mX8_run d 0 0 157 [.ref 164, .int (nI k), .int (nI n), .int seed, .int 0, .int (nI c), .int (nI 3), x7] [] EE M2 Q) → aw l K mX8_run d 0 0 64 [.ref 164, .int (nI k), .int (nI n), .int seed, .int 0, .int (nI c), .int (nI i), x7] [] EE M1 Q := by
    intro m
    induction m with
    | zero =>
      intro i c M1 x7 hi hc hf h1 h2
      obtain rfl : i = 3 := by omega
      refine aw_iload (n := 66) dX8_run_64 rfl rfl ?_
      refine aw_iconst (n := 67) (v := 3) dX8_run_66 (by decide) rfl ?_
      refine aw_icmp_ge (tg := 157) (n := 70) dX8_run_67 (by decide) rfl (fun c_67 => ?_) (fun c_67 => by exact absurd (by decide) c_67)
      exact h2 M1 _ h1 (fD_refl M1)
    | succ m ih =>
      intro i c M1 x7 hi hc hf h1 h2
      have hi3 : i < 3 := by omega
      have hii : (nI i).toNatClampNeg = i := nI_clamp (by omega)
      have hini : vp_in (nI i) 3 := vp_in_nI hi3 (by decide)
      have hin2 : vp_in (nI (3 * k + i)) 24 := vp_in_nI (by omega) (by decide)
      have hk2 : (nI (3 * k + i)).toNatClampNeg = 3 * k + i := nI_clamp (by omega)
      have ek : (3 : Int32) * nI k + nI i = nI (3 * k + i) := by rw [show (3 : Int32) = nI 3 from rfl, pk_mul, nI_add]
      have hty : M1 180 (3 * k + i) = P k i := by rw [hf.1 180 (by omega)]; exact (hA.2.2.2 k hk).1 i hi3
      rcases hwk.1 i hi3 with ht | ht
      · refine aw_iload (n := 66) dX8_run_64 rfl rfl ?_
        refine aw_iconst (n := 67) (v := 3) dX8_run_66 (by decide) rfl ?_
        refine aw_icmp_ge (tg := 157) (n := 70) dX8_run_67 (by decide) rfl (fun c_67 => by exact absurd c_67 (nI_ge (b := 3) hi3 (by decide))) (fun c_67 => ?_)
        refine aw_aload_n (n := 71) dX8_run_70 rfl rfl ?_
        refine aw_getr (n := 74) dX8_run_71 fX8_55 E_164 rfl rfl ?_
        refine aw_iconst (n := 75) (v := 3) dX8_run_74 (by decide) rfl ?_
        refine aw_iload_n (n := 76) dX8_run_75 rfl rfl ?_
        refine aw_imul (n := 77) dX8_run_76 rfl ?_
        refine aw_iload (n := 79) dX8_run_77 rfl rfl ?_
        refine aw_iadd (n := 80) dX8_run_79 rfl ?_
        rw [ek]
        refine aw_iald (n := 81) dX8_run_80 E_180 (by assumption) rfl ?_
        rw [hk2, hty, ht]
        refine aw_if_lt (tg := 151) (n := 84) dX8_run_81 (by decide) rfl (fun _ => ?_) (fun c_81 => by first | exact absurd rfl c_81 | exact absurd c_81 (by decide))
        refine aw_incp (n := 154) (L' := [_, _, _, _, _, _, _, _]) dX8_run_151 rfl rfl rfl ?_
        refine aw_goto (n := 64) dX8_run_154 (by decide) ?_
        rw [nI_1]
        refine ih (i + 1) c M1 _ (by omega) hc hf (fun j hj => ?_) h2
        by_cases hji : j = i
        · subst hji
          show kI 171 172 (drw seed c j (P k j)) j M1
          rw [ht, drw_none]; exact trivial
        · exact h1 j (by omega)
      · have hpos : ¬ P k i < 0 := by rcases ht with ht | ht <;> rw [ht] <;> decide
        have cp : ∀ (m2 q : Nat) (M3 M4 : aM), m2 + q = 16 → (∀ a, a ≠ 172 → M4 a = M3 a) → (∀ j, j < 16 * i ∨ 16 * i + 16 ≤ j → M4 172 j = M3 172 j) → (∀ j, j < q → M4 172 (16 * i + j) = M3 186 j) → (∀ (M5 : aM) (x7 : Value), (∀ a, a ≠ 172 → M5 a = M3 a) → (∀ j, j < 16 * i ∨ 16 * i + 16 ≤ j → M5 172 j = M3 172 j) → (∀ j, j < 16 → M5 172 (16 * i + j) = M3 186 j) → aw l K mX8_run d 0 0 151 [.ref 164, .int (nI k), .int (nI n), .int seed, .int 0, .int (nI c), .int (nI i), x7] [] EE M5 Q) → aw l K mX8_run d 0 0 118 [.ref 164, .int (nI k), .int (nI n), .int seed, .int 0, .int (nI c), .int (nI i), .int (nI q)] [] EE M4 Q := by
          intro m2
          induction m2 with
          | zero =>
            intro q M3 M4 hq g1 g2 g3 g4
            obtain rfl : q = 16 := by omega
            refine aw_iload (n := 120) dX8_run_118 rfl rfl ?_
            refine aw_bipush (n := 122) (v := 16) dX8_run_120 (by decide) rfl ?_
            refine aw_icmp_ge (tg := 151) (n := 125) dX8_run_122 (by decide) rfl (fun c_122 => ?_) (fun c_122 => by exact absurd (by decide) c_122)
            exact g4 M4 _ g1 g2 g3
          | succ m2 ih2 =>
            intro q M3 M4 hq g1 g2 g3 g4
            have hinq : vp_in (nI q) 16 := vp_in_nI (by omega) (by decide)
            have hqq : (nI q).toNatClampNeg = q := nI_clamp (by omega)
            have hin : vp_in (nI (16 * i + q)) 48 := vp_in_nI (by omega) (by decide)
            have hkk : (nI (16 * i + q)).toNatClampNeg = 16 * i + q := nI_clamp (by omega)
            have e16 : (16 : Int32) * nI i + nI q = nI (16 * i + q) := by rw [show (16 : Int32) = nI 16 from rfl, pk_mul, nI_add]
            refine aw_iload (n := 120) dX8_run_118 rfl rfl ?_
            refine aw_bipush (n := 122) (v := 16) dX8_run_120 (by decide) rfl ?_
            refine aw_icmp_ge (tg := 151) (n := 125) dX8_run_122 (by decide) rfl (fun c_122 => by exact absurd c_122 (nI_ge (b := 16) (by omega) (by decide))) (fun c_122 => ?_)
            refine aw_aload_n (n := 126) dX8_run_125 rfl rfl ?_
            refine aw_getr (n := 129) dX8_run_126 fX8_31 E_164 rfl rfl ?_
            refine aw_bipush (n := 131) (v := 16) dX8_run_129 (by decide) rfl ?_
            refine aw_iload (n := 133) dX8_run_131 rfl rfl ?_
            refine aw_imul (n := 134) dX8_run_133 rfl ?_
            refine aw_iload (n := 136) dX8_run_134 rfl rfl ?_
            refine aw_iadd (n := 137) dX8_run_136 rfl ?_
            rw [e16]
            refine aw_aload_n (n := 138) dX8_run_137 rfl rfl ?_
            refine aw_getr (n := 141) dX8_run_138 fX8_73 E_164 rfl rfl ?_
            refine aw_iload (n := 143) dX8_run_141 rfl rfl ?_
            refine aw_iald (n := 144) dX8_run_143 E_186 (by assumption) rfl ?_
            rw [hqq, g1 186 (by decide)]
            refine aw_iast (n := 145) dX8_run_144 E_172 (by assumption) rfl ?_
            refine aw_incp (n := 148) (L' := [_, _, _, _, _, _, _, _]) dX8_run_145 rfl rfl rfl ?_
            refine aw_goto (n := 118) dX8_run_148 (by decide) ?_
            rw [hkk, nI_1]
            refine ih2 (q + 1) M3 _ (by omega) (fun a ha => by rw [up2_ra _ _ ha]; exact g1 a ha) (fun j hj => by rw [up2_k _ _ (by omega)]; exact g2 j hj) (fun j hj => ?_) g4
            by_cases hjq : j = q
            · subst hjq; rw [up2_s]
            · rw [up2_k _ _ (by omega)]; exact g3 j (by omega)
        refine aw_iload (n := 66) dX8_run_64 rfl rfl ?_
        refine aw_iconst (n := 67) (v := 3) dX8_run_66 (by decide) rfl ?_
        refine aw_icmp_ge (tg := 157) (n := 70) dX8_run_67 (by decide) rfl (fun c_67 => by exact absurd c_67 (nI_ge (b := 3) hi3 (by decide))) (fun c_67 => ?_)
        refine aw_aload_n (n := 71) dX8_run_70 rfl rfl ?_
        refine aw_getr (n := 74) dX8_run_71 fX8_55 E_164 rfl rfl ?_
        refine aw_iconst (n := 75) (v := 3) dX8_run_74 (by decide) rfl ?_
        refine aw_iload_n (n := 76) dX8_run_75 rfl rfl ?_
        refine aw_imul (n := 77) dX8_run_76 rfl ?_
        refine aw_iload (n := 79) dX8_run_77 rfl rfl ?_
        refine aw_iadd (n := 80) dX8_run_79 rfl ?_
        rw [ek]
        refine aw_iald (n := 81) dX8_run_80 E_180 (by assumption) rfl ?_
        rw [hk2, hty]
        refine aw_if_lt (tg := 151) (n := 84) dX8_run_81 (by decide) rfl (fun c_81 => by exact absurd c_81 hpos) (fun c_81 => ?_)
        refine aw_aload_n (n := 85) dX8_run_84 rfl rfl ?_
        refine aw_iload_n (n := 86) dX8_run_85 rfl rfl ?_
        refine aw_iload (n := 88) dX8_run_86 rfl rfl ?_
        refine aw_iload (n := 90) dX8_run_88 rfl rfl ?_
        refine aw_aload_n (n := 91) dX8_run_90 rfl rfl ?_
        refine aw_getr (n := 94) dX8_run_91 fX8_55 E_164 rfl rfl ?_
        refine aw_iconst (n := 95) (v := 3) dX8_run_94 (by decide) rfl ?_
        refine aw_iload_n (n := 96) dX8_run_95 rfl rfl ?_
        refine aw_imul (n := 97) dX8_run_96 rfl ?_
        refine aw_iload (n := 99) dX8_run_97 rfl rfl ?_
        refine aw_iadd (n := 100) dX8_run_99 rfl ?_
        rw [ek]
        refine aw_iald (n := 101) dX8_run_100 E_180 (by assumption) rfl ?_
        rw [hk2, hty]
        refine aw_v4 (d1 := d - 1) (n := 104) (Z := mX8_draw) (ci := 6) (L0 := [_, _, _, _, _, .null, .null, .null]) dX8_run_101 kX8_draw gX8_200 iyX8_draw eyX8_draw rfl rfl E_164 rfl rfl rfl rfl (Nat.le_of_ble_eq_true rfl) rfl rfl (by omega) (Nat.le_of_ble_eq_true rfl) (m_draw (by omega) hc hi3 ht (fun M2 g1 g2 g3 => ?_))
        dsimp only [aPush]
        refine aw_aload_n (n := 105) dX8_run_104 rfl rfl ?_
        refine aw_getr (n := 108) dX8_run_105 fX8_28 E_164 rfl rfl ?_
        refine aw_iload (n := 110) dX8_run_108 rfl rfl ?_
        refine aw_aload_n (n := 111) dX8_run_110 rfl rfl ?_
        refine aw_geti (n := 114) dX8_run_111 fX8_196 E_164 rfl rfl ?_
        refine aw_iast (n := 115) dX8_run_114 E_171 (by assumption) rfl ?_
        rw [hii]
        refine aw_iconst (n := 116) (v := 0) dX8_run_115 (by decide) rfl ?_
        refine aw_istore (n := 118) (L' := [_, _, _, _, _, _, _, _]) dX8_run_116 (Nat.le_of_ble_eq_true rfl) rfl rfl ?_
        refine cp 16 0 (up2 M2 171 i (M2 164 31)) _ (by omega) (fun _ _ => rfl) (fun _ _ => rfl) (fun j hj => by omega) (fun M5 x7 f1 f2 f3 => ?_)
        have hfd : fD M1 M5 := ⟨fun q a b c' e => by rw [f1 q c', up2_ra _ _ b, g3 q a e], fun j hj => by rw [f1 164 (by decide), up2_a _ _ (by decide), g2 j hj]⟩
        refine aw_incp (n := 154) (L' := [_, _, _, _, _, _, _, _]) dX8_run_151 rfl rfl rfl ?_
        refine aw_goto (n := 64) dX8_run_154 (by decide) ?_
        rw [nI_1]
        refine ih (i + 1) c M5 _ (by omega) hc (fV_trans hf (fD_V hfd)) (fun j hj => ?_) (fun M6 x7 g4 g5 => h2 M6 _ g4 (fD_trans hfd g5))
        by_cases hji : j = i
        · subst hji
          refine dI_kI g1 ?_ (fun jj hjj => ?_)
          · rw [f1 171 (by decide), up2_s]
          · rw [f3 jj hjj, up2_a _ _ (by decide)]
        · refine kI_same (h1 j (by omega)) ?_ (fun jj hjj => ?_)
          · rw [f1 171 (by decide), up2_k _ _ hji, g3 171 (by decide) (by decide)]
          · rw [f2 _ (by omega), up2_a _ _ (by decide), g3 172 (by decide) (by decide)]
  have loop : ∀ m c (s' : rS) (M1 : aM) (x6 x7 : Value), m + c = n → mS s' M1 → fV M M1 → (¬ s'.2.2.2.1 < 0 → s'.2.2.2.1 = nI k ∧ ∀ i, i < 3 → P k i = tyV (s'.2.2.2.2 i)) → s'.2.1 5 = 0 → sL = runL T (P k) k (drI (P k) seed) m c s' → aw l K mX8_run d 0 0 50 [.ref 164, .int (nI k), .int (nI n), .int seed, .int (if s'.2.2.2.1 < 0 then 0 else 1), .int (nI c), x6, x7] [] EE M1 Q := by
    intro m
    induction m with
    | zero =>
      intro c s' M1 x6 x7 hc h1 h2 h3 h5 he
      obtain rfl : sL = s' := he
      refine aw_iload (n := 52) dX8_run_50 rfl rfl ?_
      refine aw_iload_n (n := 53) dX8_run_52 rfl rfl ?_
      refine aw_icmp_ge (tg := 170) (n := 56) dX8_run_53 (by decide) rfl (fun c_53 => ?_) (fun c_53 => by exact absurd (nI_le (by omega) (by omega)) c_53)
      exact fin M1 _ _ _ h1 h2 h3 h5
    | succ m ih =>
      intro c s' M1 x6 x7 hc h1 h2 h3 h5 he
      by_cases hf : s'.2.2.2.1 < 0
      · rw [if_pos hf]
        have he2 : sL = runL T (P k) k (drI (P k) seed) m (c + 1) (tcS T (P k) k (drI (P k) seed c) s') := he.trans (if_pos hf)
        refine aw_iload (n := 52) dX8_run_50 rfl rfl ?_
        refine aw_iload_n (n := 53) dX8_run_52 rfl rfl ?_
        refine aw_icmp_ge (tg := 170) (n := 56) dX8_run_53 (by decide) rfl (fun c_53 => by exact absurd c_53 (nI_ge (by omega) (by omega))) (fun c_53 => ?_)
        refine aw_iload (n := 58) dX8_run_56 rfl rfl ?_
        refine aw_if_ne (tg := 170) (n := 61) dX8_run_58 (by decide) rfl (fun c_58 => by first | exact absurd rfl c_58 | exact absurd c_58 (by decide)) (fun _ => ?_)
        refine aw_iconst (n := 62) (v := 0) dX8_run_61 (by decide) rfl ?_
        refine aw_istore (n := 64) (L' := [_, _, _, _, _, _, _, _]) dX8_run_62 (Nat.le_of_ble_eq_true rfl) rfl rfl ?_
        refine inner 3 0 c M1 _ (by omega) (by omega) h2 (fun j hj => by omega) (fun M2 x7 g1 g2 => ?_)
        have hty : ∀ i, i < 3 → P k i = tyV (drI (P k) seed c i) := fun i hi => (drw_ty (hwk.1 i hi)).symm
        have f2 := fV_trans h2 (fD_V g2)
        refine aw_aload_n (n := 158) dX8_run_157 rfl rfl ?_
        refine aw_iload_n (n := 159) dX8_run_158 rfl rfl ?_
        refine aw_v1 (d1 := d - 1) (n := 162) (Z := mX8_isFailed) (ci := 6) (L0 := [_, _, .null]) dX8_run_159 kX8_isFailed gX8_237 iyX8_isFailed eyX8_isFailed rfl rfl E_164 rfl (Nat.le_of_ble_eq_true rfl) rfl rfl (by omega) (Nat.le_of_ble_eq_true rfl) (m_isFailed (T := T) (P := P) (inp := drI (P k) seed c) (by omega) hW (mA_same hA f2) hk hty g1 (fD_S g2 h1) hf (fun M3 k1 k2 => ?_))
        dsimp only [aPush]
        refine aw_istore (n := 164) (L' := [_, _, _, _, _, _, _, _]) dX8_run_162 (Nat.le_of_ble_eq_true rfl) rfl rfl ?_
        refine aw_incp (n := 167) (L' := [_, _, _, _, _, _, _, _]) dX8_run_164 rfl rfl rfl ?_
        refine aw_goto (n := 50) dX8_run_167 (by decide) ?_
        rw [nI_1]
        obtain ⟨o, ho⟩ : ∃ o, o = (outS T (drI (P k) seed c) (P k 3) (P k 4) (P k 6)).2 := ⟨_, rfl⟩
        rw [← ho]
        have hfl : (tcS T (P k) k (drI (P k) seed c) s').2.2.2.1 = if 0 < o then nI k else s'.2.2.2.1 := by rw [ho]; rfl
        have hcn : (tcS T (P k) k (drI (P k) seed c) s').2.2.2.2 = if 0 < o then drI (P k) seed c else s'.2.2.2.2 := by rw [ho]; rfl
        have hv : (if 0 < o then (1 : Int32) else 0) = if (tcS T (P k) k (drI (P k) seed c) s').2.2.2.1 < 0 then 0 else 1 := by
          rw [hfl]
          by_cases h0 : 0 < o
          · rw [if_pos h0, if_pos h0, if_neg hnn]
          · rw [if_neg h0, if_neg h0, if_pos hf]
        rw [hv]
        refine ih (c + 1) _ M3 _ _ (by omega) k1 (fV_trans f2 k2) (fun hn => ?_) ?_ he2
        · rw [hfl] at hn ⊢
          rw [hcn]
          by_cases h0 : 0 < o
          · rw [if_pos h0, if_pos h0]; exact ⟨rfl, hty⟩
          · rw [if_neg h0] at hn; exact absurd hf hn
        · show (if _ then _ else if _ then _ else _ : Nat → Int32) 5 = 0
          split
          · exact h5
          · split
            · exact h5
            · exact h5
      · rw [if_neg hf]
        have he2 : sL = s' := he.trans (if_neg hf)
        have hfn := fin M1 (.int (nI c)) x6 x7 (by rw [he2]; exact h1) h2 (by rw [he2]; exact h3) (by rw [he2]; exact h5)
        rw [he2, if_neg hf] at hfn
        refine aw_iload (n := 52) dX8_run_50 rfl rfl ?_
        refine aw_iload_n (n := 53) dX8_run_52 rfl rfl ?_
        refine aw_icmp_ge (tg := 170) (n := 56) dX8_run_53 (by decide) rfl (fun c_53 => by exact absurd c_53 (nI_ge (by omega) (by omega))) (fun c_53 => ?_)
        refine aw_iload (n := 58) dX8_run_56 rfl rfl ?_
        refine aw_if_ne (tg := 170) (n := 61) dX8_run_58 (by decide) rfl (fun _ => ?_) (fun c_58 => by first | exact absurd rfl c_58 | exact absurd c_58 (by decide))
        exact hfn
  have le1 : s.1 + n + 200 ≤ 3000 := htr
  refine aw_aload_n (n := 1) dX8_run_0 rfl rfl ?_
  refine aw_iload_n (n := 2) dX8_run_1 rfl rfl ?_
  refine aw_v1 (d1 := d - 1) (n := 5) (Z := mX8_isProperty) (ci := 6) (L0 := [_, _]) dX8_run_2 kX8_isProperty gX8_231 iyX8_isProperty eyX8_isProperty rfl rfl E_164 rfl (Nat.le_of_ble_eq_true rfl) rfl rfl (by omega) (Nat.le_of_ble_eq_true rfl) (m_isProperty (by omega) (by omega) hA.2.2.1 ?_)
  dsimp only [aPush]
  rw [hh]
  refine aw_if_eq (tg := 19) (n := 8) dX8_run_5 (by decide) rfl (fun c_5 => by exact absurd c_5 (by decide)) (fun c_5 => ?_)
  refine aw_iload_n (n := 9) dX8_run_8 rfl rfl ?_
  refine aw_iconst (n := 10) (v := 1) dX8_run_9 (by decide) rfl ?_
  refine aw_sipush (n := 13) (v := 200) dX8_run_10 (by decide) rfl ?_
  refine aw_s3 (d1 := d - 1) (n := 16) (Z := mX8_in) (L0 := [_, _, _]) dX8_run_13 kX8_in gX8_95 syX8_in rfl rfl rfl (Nat.le_of_ble_eq_true rfl) rfl rfl (by omega) (Nat.le_of_ble_eq_true rfl) (m_in (fun hb => ?_) (fun hb1 hb2 => ?_))
  · dsimp only [aPush]
    exact absurd hb (fun q => q.elim (fun q => absurd ((nI_ltI (b := 1) (by omega) (by decide)).mp q) (by omega)) (fun q => absurd ((nI_ltI (a := 200) (by decide) (by omega)).mp q) (by omega)))
  · dsimp only [aPush]
    refine aw_if_ne (tg := 21) (n := 19) dX8_run_16 (by decide) rfl (fun c_16 => ?_) (fun c_16 => by exact absurd c_16 (by decide))
    refine aw_aload_n (n := 22) dX8_run_21 rfl rfl ?_
    refine aw_geti (n := 25) dX8_run_22 fX8_178 E_164 rfl rfl ?_
    rw [hS.1]
    refine aw_iload_n (n := 26) dX8_run_25 rfl rfl ?_
    refine aw_iadd (n := 27) dX8_run_26 rfl ?_
    rw [nI_add]
    refine aw_sipush (n := 30) (v := 200) dX8_run_27 (by decide) rfl ?_
    refine aw_iadd (n := 31) dX8_run_30 rfl ?_
    rw [show (200 : Int32) = nI 200 from rfl, nI_add]
    refine aw_sipush (n := 34) (v := 3000) dX8_run_31 (by decide) rfl ?_
    refine aw_icmp_le (tg := 40) (n := 37) dX8_run_34 (by decide) rfl (fun c_34 => ?_) (fun c_34 => by exact absurd ((nI_leI (b := 3000) (by omega) (by decide)).mpr htr) c_34)
    refine aw_aload_n (n := 41) dX8_run_40 rfl rfl ?_
    refine aw_v0 (d1 := d - 1) (n := 44) (Z := mX8_anew) (ci := 6) (L0 := [_, .null]) dX8_run_41 kX8_anew gX8_234 iyX8_anew eyX8_anew rfl rfl E_164 (Nat.le_of_ble_eq_true rfl) rfl rfl (by omega) (Nat.le_of_ble_eq_true rfl) (m_anew (fun M1 g1 g2 g3 g4 g5 => ?_))
    dsimp only [aPush]
    refine aw_iconst (n := 45) (v := 0) dX8_run_44 (by decide) rfl ?_
    refine aw_istore (n := 47) (L' := [_, _, _, _, _, _, _, _]) dX8_run_45 (Nat.le_of_ble_eq_true rfl) rfl rfl ?_
    refine aw_iconst (n := 48) (v := 0) dX8_run_47 (by decide) rfl ?_
    refine aw_istore (n := 50) (L' := [_, _, _, _, _, _, _, _]) dX8_run_48 (Nat.le_of_ble_eq_true rfl) rfl rfl ?_
    refine loop n 0 (rS0 s.1 s.2.2.2.2) M1 _ _ (by omega) ⟨?_, g1, g3, g2, fun hn => absurd (show (-1 : Int32) < 0 by decide) hn⟩ ⟨fun q hq => g5 q (by omega) (by omega), g4 0 (by omega), g4 23 (by omega)⟩ (fun hn => absurd (show (-1 : Int32) < 0 by decide) hn) rfl hsL
    rw [g4 29 (by omega)]; exact hS.1
end MRUN
