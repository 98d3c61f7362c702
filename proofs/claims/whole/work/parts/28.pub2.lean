theorem alw_w {w n : Int32} (h : alwB w n = true) : ∃ k, k ≤ 20 ∧ w = nI k ∧ (k = 0 → isNo n 3) := by
  simp only [alwB, Bool.and_eq_true, Bool.or_eq_true, decide_eq_true_eq] at h
  obtain ⟨⟨h1, h2⟩, h3⟩ := h
  obtain ⟨k, hk, rfl⟩ := nI_of2 (M := 20) (n := 20) (by decide) h1 (i_nlt.mp h2)
  refine ⟨k, hk, rfl, fun h0 => ?_⟩
  rcases h3 with h3 | ⟨h3, h4⟩
  · exact absurd (by rw [h0]; rfl) h3
  · exact vp_lt (n := 3) (by decide) h3 h4
theorem zb {b : Bool} (h : b2 b = 0) : b = false := by cases b with | false => rfl | true => exact absurd h (by decide)
theorem nzb {b : Bool} (h : ¬ b2 b = 0) : b = true := by cases b with | true => rfl | false => exact absurd rfl h
/-- only the class's own cells have changed -/
def fC (M M' : aM) : Prop := ∀ q, 164 ≤ q → M' q = M q
section PUB2
variable {l : Launch} {K : aK} {d : Nat} {M : aM} {Q : Option Value → aE → aM → Prop}
theorem t_termBad {cnt : Nat} {w a b c n : Int32} (hd : 2 ≤ d) (hM : M 2 5 = nI cnt) (hb : (alwB w n && prtB cnt w.toNatClampNeg a b c) = false) (hQ : Q (some (.int (-1))) EE M) : aw l K mX7_term d 0 0 0 [.ref 0, .int w, .int a, .int b, .int c, .int n] [] EE M Q := by
  have e0 := E_0
  have e2 := E_2
  by_cases ha : alwB w n = true
  · obtain ⟨k, hk, rfl, -⟩ := alw_w ha
    have hkk : (nI k).toNatClampNeg = k := nI_clamp (by omega)
    have hp : prtB cnt k a b c = false := by rw [ha, hkk] at hb; exact hb
    refine aw_aload_n (n := 1) dX7_term_0 rfl rfl ?_
    refine aw_getr (n := 4) dX7_term_1 fX7_20 (by assumption) rfl rfl ?_
    refine aw_iload_n (n := 5) dX7_term_4 rfl rfl ?_
    refine aw_iload (n := 7) dX7_term_5 rfl rfl ?_
    refine aw_v2 (d1 := d - 1) (n := 10) (Z := mX4_allows) (ci := 2) (L0 := [_, _, _]) dX7_term_7 kX4_allows gX7_63 iyX4_allows eyX4_allows rfl rfl (by assumption) rfl rfl (Nat.le_of_ble_eq_true rfl) rfl rfl (by omega) (Nat.le_of_ble_eq_true rfl) (t_allows ?_)
    dsimp only [aPush]
    rw [ha]
    refine aw_if_eq (tg := 28) (n := 13) dX7_term_10 (by decide) rfl (fun c_10 => by exact absurd c_10 (by decide)) (fun c_10 => ?_)
    refine aw_aload_n (n := 14) dX7_term_13 rfl rfl ?_
    refine aw_getr (n := 17) dX7_term_14 fX7_20 (by assumption) rfl rfl ?_
    refine aw_iload_n (n := 18) dX7_term_17 rfl rfl ?_
    refine aw_iload_n (n := 19) dX7_term_18 rfl rfl ?_
    refine aw_iload_n (n := 20) dX7_term_19 rfl rfl ?_
    refine aw_iload (n := 22) dX7_term_20 rfl rfl ?_
    refine aw_v4 (d1 := d - 1) (n := 25) (Z := mX4_hasParts) (ci := 2) (L0 := [_, _, _, _, _, .null]) dX7_term_22 kX4_hasParts gX7_69 iyX4_hasParts eyX4_hasParts rfl rfl (by assumption) rfl rfl rfl rfl (Nat.le_of_ble_eq_true rfl) rfl rfl (by omega) (Nat.le_of_ble_eq_true rfl) (t_hasParts (w := k) (by omega) hk hM ?_)
    dsimp only [aPush]
    rw [hp]
    refine aw_if_ne (tg := 30) (n := 28) dX7_term_25 (by decide) rfl (fun c_25 => by exact absurd rfl c_25) (fun c_25 => ?_)
    refine aw_iconst (n := 29) (v := -1) dX7_term_28 (by decide) rfl ?_
    refine aw_iret dX7_term_29 rfl ?_
    exact hQ
  · have ha : alwB w n = false := by cases h : alwB w n with | false => rfl | true => exact absurd h ha
    refine aw_aload_n (n := 1) dX7_term_0 rfl rfl ?_
    refine aw_getr (n := 4) dX7_term_1 fX7_20 (by assumption) rfl rfl ?_
    refine aw_iload_n (n := 5) dX7_term_4 rfl rfl ?_
    refine aw_iload (n := 7) dX7_term_5 rfl rfl ?_
    refine aw_v2 (d1 := d - 1) (n := 10) (Z := mX4_allows) (ci := 2) (L0 := [_, _, _]) dX7_term_7 kX4_allows gX7_63 iyX4_allows eyX4_allows rfl rfl (by assumption) rfl rfl (Nat.le_of_ble_eq_true rfl) rfl rfl (by omega) (Nat.le_of_ble_eq_true rfl) (t_allows ?_)
    dsimp only [aPush]
    rw [ha]
    refine aw_if_eq (tg := 28) (n := 13) dX7_term_10 (by decide) rfl (fun c_10 => ?_) (fun c_10 => by exact absurd rfl c_10)
    refine aw_iconst (n := 29) (v := -1) dX7_term_28 (by decide) rfl ?_
    refine aw_iret dX7_term_29 rfl ?_
    exact hQ
theorem t_termFull {w a b c n : Int32} (hd : 2 ≤ d) (hM : M 2 5 = nI 60) (ha : alwB w n = true) (hp : prtB 60 w.toNatClampNeg a b c = true) (hQ : Q (some (.int (-2))) EE M) : aw l K mX7_term d 0 0 0 [.ref 0, .int w, .int a, .int b, .int c, .int n] [] EE M Q := by
  have e0 := E_0
  have e2 := E_2
  obtain ⟨k, hk, rfl, -⟩ := alw_w ha
  have hkk : (nI k).toNatClampNeg = k := nI_clamp (by omega)
  rw [hkk] at hp
  refine aw_aload_n (n := 1) dX7_term_0 rfl rfl ?_
  refine aw_getr (n := 4) dX7_term_1 fX7_20 (by assumption) rfl rfl ?_
  refine aw_iload_n (n := 5) dX7_term_4 rfl rfl ?_
  refine aw_iload (n := 7) dX7_term_5 rfl rfl ?_
  refine aw_v2 (d1 := d - 1) (n := 10) (Z := mX4_allows) (ci := 2) (L0 := [_, _, _]) dX7_term_7 kX4_allows gX7_63 iyX4_allows eyX4_allows rfl rfl (by assumption) rfl rfl (Nat.le_of_ble_eq_true rfl) rfl rfl (by omega) (Nat.le_of_ble_eq_true rfl) (t_allows ?_)
  dsimp only [aPush]
  rw [ha]
  refine aw_if_eq (tg := 28) (n := 13) dX7_term_10 (by decide) rfl (fun c_10 => by exact absurd c_10 (by decide)) (fun c_10 => ?_)
  refine aw_aload_n (n := 14) dX7_term_13 rfl rfl ?_
  refine aw_getr (n := 17) dX7_term_14 fX7_20 (by assumption) rfl rfl ?_
  refine aw_iload_n (n := 18) dX7_term_17 rfl rfl ?_
  refine aw_iload_n (n := 19) dX7_term_18 rfl rfl ?_
  refine aw_iload_n (n := 20) dX7_term_19 rfl rfl ?_
  refine aw_iload (n := 22) dX7_term_20 rfl rfl ?_
  refine aw_v4 (d1 := d - 1) (n := 25) (Z := mX4_hasParts) (ci := 2) (L0 := [_, _, _, _, _, .null]) dX7_term_22 kX4_hasParts gX7_69 iyX4_hasParts eyX4_hasParts rfl rfl (by assumption) rfl rfl rfl rfl (Nat.le_of_ble_eq_true rfl) rfl rfl (by omega) (Nat.le_of_ble_eq_true rfl) (t_hasParts (w := k) (by omega) hk hM ?_)
  dsimp only [aPush]
  rw [hp]
  refine aw_if_ne (tg := 30) (n := 28) dX7_term_25 (by decide) rfl (fun c_25 => ?_) (fun c_25 => by exact absurd c_25 (by decide))
  refine aw_aload_n (n := 31) dX7_term_30 rfl rfl ?_
  refine aw_getr (n := 34) dX7_term_31 fX7_20 (by assumption) rfl rfl ?_
  refine aw_geti (n := 37) dX7_term_34 fX7_73 (by assumption) rfl rfl ?_
  rw [hM]
  refine aw_bipush (n := 39) (v := 60) dX7_term_37 (by decide) rfl ?_
  refine aw_icmp_lt (tg := 45) (n := 42) dX7_term_39 (by decide) rfl (fun c_39 => by exact absurd c_39 (by decide)) (fun c_39 => ?_)
  refine aw_bipush (n := 44) (v := -2) dX7_term_42 (by decide) rfl ?_
  refine aw_iret dX7_term_44 rfl ?_
  exact hQ
theorem t_term {cnt np : Nat} {T : tm} {P : Nat → pr} {s : rS} {w a b c n : Int32} (hd : 2 ≤ d) (hc : cnt < 60) (hA : cA cnt T np P M) (hS : cS s M) (ha : alwB w n = true) (hp : prtB cnt w.toNatClampNeg a b c = true) (hnp : np ≤ 8)
    (hQ : ∀ M', cA (cnt + 1) (upT T cnt w a b c n) np P M' → cS s M' → fC M M' → Q (some (.int (nI cnt))) EE M') : aw l K mX7_term d 0 0 0 [.ref 0, .int w, .int a, .int b, .int c, .int n] [] EE M Q := by
  have e0 := E_0
  have e2 := E_2
  have e3 := E_3
  have e4 := E_4
  have e5 := E_5
  have e6 := E_6
  have e7 := E_7
  obtain ⟨hM, hT, hN, hP⟩ := hA
  obtain ⟨k, hk, rfl, -⟩ := alw_w ha
  have hkk : (nI k).toNatClampNeg = k := nI_clamp (by omega)
  rw [hkk] at hp
  have hin : vp_in (nI cnt) 60 := vp_in_nI hc (by decide)
  have hcc : (nI cnt).toNatClampNeg = cnt := nI_clamp (by omega)
  refine aw_aload_n (n := 1) dX7_term_0 rfl rfl ?_
  refine aw_getr (n := 4) dX7_term_1 fX7_20 (by assumption) rfl rfl ?_
  refine aw_iload_n (n := 5) dX7_term_4 rfl rfl ?_
  refine aw_iload (n := 7) dX7_term_5 rfl rfl ?_
  refine aw_v2 (d1 := d - 1) (n := 10) (Z := mX4_allows) (ci := 2) (L0 := [_, _, _]) dX7_term_7 kX4_allows gX7_63 iyX4_allows eyX4_allows rfl rfl (by assumption) rfl rfl (Nat.le_of_ble_eq_true rfl) rfl rfl (by omega) (Nat.le_of_ble_eq_true rfl) (t_allows ?_)
  dsimp only [aPush]
  rw [ha]
  refine aw_if_eq (tg := 28) (n := 13) dX7_term_10 (by decide) rfl (fun c_10 => by exact absurd c_10 (by decide)) (fun c_10 => ?_)
  refine aw_aload_n (n := 14) dX7_term_13 rfl rfl ?_
  refine aw_getr (n := 17) dX7_term_14 fX7_20 (by assumption) rfl rfl ?_
  refine aw_iload_n (n := 18) dX7_term_17 rfl rfl ?_
  refine aw_iload_n (n := 19) dX7_term_18 rfl rfl ?_
  refine aw_iload_n (n := 20) dX7_term_19 rfl rfl ?_
  refine aw_iload (n := 22) dX7_term_20 rfl rfl ?_
  refine aw_v4 (d1 := d - 1) (n := 25) (Z := mX4_hasParts) (ci := 2) (L0 := [_, _, _, _, _, .null]) dX7_term_22 kX4_hasParts gX7_69 iyX4_hasParts eyX4_hasParts rfl rfl (by assumption) rfl rfl rfl rfl (Nat.le_of_ble_eq_true rfl) rfl rfl (by omega) (Nat.le_of_ble_eq_true rfl) (t_hasParts (w := k) (by omega) hk hM ?_)
  dsimp only [aPush]
  rw [hp]
  refine aw_if_ne (tg := 30) (n := 28) dX7_term_25 (by decide) rfl (fun c_25 => ?_) (fun c_25 => by exact absurd c_25 (by decide))
  refine aw_aload_n (n := 31) dX7_term_30 rfl rfl ?_
  refine aw_getr (n := 34) dX7_term_31 fX7_20 (by assumption) rfl rfl ?_
  refine aw_geti (n := 37) dX7_term_34 fX7_73 (by assumption) rfl rfl ?_
  rw [hM]
  refine aw_bipush (n := 39) (v := 60) dX7_term_37 (by decide) rfl ?_
  refine aw_icmp_lt (tg := 45) (n := 42) dX7_term_39 (by decide) rfl (fun c_39 => ?_) (fun c_39 => by exact absurd ((nI_ltI (b := 60) (by omega) (by decide)).mpr hc) c_39)
  refine aw_aload_n (n := 46) dX7_term_45 rfl rfl ?_
  refine aw_getr (n := 49) dX7_term_46 fX7_20 (by assumption) rfl rfl ?_
  refine aw_iload_n (n := 50) dX7_term_49 rfl rfl ?_
  refine aw_iload_n (n := 51) dX7_term_50 rfl rfl ?_
  refine aw_iload_n (n := 52) dX7_term_51 rfl rfl ?_
  refine aw_iload (n := 54) dX7_term_52 rfl rfl ?_
  refine aw_iload (n := 56) dX7_term_54 rfl rfl ?_
  refine aw_v5 (d1 := d - 1) (n := 59) (Z := mX4_add) (ci := 2) (L0 := [_, _, _, _, _, _]) dX7_term_56 kX4_add gX7_76 iyX4_add eyX4_add rfl rfl (by assumption) rfl rfl rfl rfl rfl (Nat.le_of_ble_eq_true rfl) rfl rfl (by omega) (Nat.le_of_ble_eq_true rfl) ?_
  refine aw_aload_n (n := 1) dX4_add_0 rfl rfl ?_
  refine aw_getr (n := 4) dX4_add_1 fX4_9 (by assumption) rfl rfl ?_
  refine aw_aload_n (n := 5) dX4_add_4 rfl rfl ?_
  refine aw_geti (n := 8) dX4_add_5 fX4_27 (by assumption) rfl rfl ?_
  rw [hM]
  refine aw_iload_n (n := 9) dX4_add_8 rfl rfl ?_
  refine aw_iast (n := 10) dX4_add_9 (by assumption) (by assumption) rfl ?_
  refine aw_aload_n (n := 11) dX4_add_10 rfl rfl ?_
  refine aw_getr (n := 14) dX4_add_11 fX4_15 (by assumption) rfl rfl ?_
  refine aw_aload_n (n := 15) dX4_add_14 rfl rfl ?_
  refine aw_geti (n := 18) dX4_add_15 fX4_27 (by assumption) rfl rfl ?_
  rw [hcc, up2_a _ _ (by decide), hM]
  refine aw_iload_n (n := 19) dX4_add_18 rfl rfl ?_
  refine aw_iast (n := 20) dX4_add_19 (by assumption) (by assumption) rfl ?_
  refine aw_aload_n (n := 21) dX4_add_20 rfl rfl ?_
  refine aw_getr (n := 24) dX4_add_21 fX4_18 (by assumption) rfl rfl ?_
  refine aw_aload_n (n := 25) dX4_add_24 rfl rfl ?_
  refine aw_geti (n := 28) dX4_add_25 fX4_27 (by assumption) rfl rfl ?_
  rw [up2_a _ _ (by decide), hcc, up2_a _ _ (by decide), hM]
  refine aw_iload_n (n := 29) dX4_add_28 rfl rfl ?_
  refine aw_iast (n := 30) dX4_add_29 (by assumption) (by assumption) rfl ?_
  refine aw_aload_n (n := 31) dX4_add_30 rfl rfl ?_
  refine aw_getr (n := 34) dX4_add_31 fX4_21 (by assumption) rfl rfl ?_
  refine aw_aload_n (n := 35) dX4_add_34 rfl rfl ?_
  refine aw_geti (n := 38) dX4_add_35 fX4_27 (by assumption) rfl rfl ?_
  rw [up2_a _ _ (by decide), up2_a _ _ (by decide), hcc, up2_a _ _ (by decide), hM]
  refine aw_iload (n := 40) dX4_add_38 rfl rfl ?_
  refine aw_iast (n := 41) dX4_add_40 (by assumption) (by assumption) rfl ?_
  refine aw_aload_n (n := 42) dX4_add_41 rfl rfl ?_
  refine aw_getr (n := 45) dX4_add_42 fX4_24 (by assumption) rfl rfl ?_
  refine aw_aload_n (n := 46) dX4_add_45 rfl rfl ?_
  refine aw_geti (n := 49) dX4_add_46 fX4_27 (by assumption) rfl rfl ?_
  rw [up2_a _ _ (by decide), up2_a _ _ (by decide), up2_a _ _ (by decide), hcc, up2_a _ _ (by decide), hM]
  refine aw_iload (n := 51) dX4_add_49 rfl rfl ?_
  refine aw_iast (n := 52) dX4_add_51 (by assumption) (by assumption) rfl ?_
  refine aw_aload_n (n := 53) dX4_add_52 rfl rfl ?_
  refine aw_dup (n := 54) dX4_add_53 rfl rfl ?_
  refine aw_geti (n := 57) dX4_add_54 fX4_27 (by assumption) rfl rfl ?_
  rw [hcc]
  obtain ⟨M5, hM5⟩ : ∃ M5, M5 = up2 (up2 (up2 (up2 (up2 M 3 cnt (nI k)) 4 cnt a) 5 cnt b) 6 cnt c) 7 cnt n := ⟨_, rfl⟩
  rw [← hM5]
  have m25 : M5 2 5 = nI cnt := by rw [hM5, up2_a _ _ (by decide), up2_a _ _ (by decide), up2_a _ _ (by decide), up2_a _ _ (by decide), up2_a _ _ (by decide)]; exact hM
  rw [m25]
  refine aw_iconst (n := 58) (v := 1) dX4_add_57 (by decide) rfl ?_
  refine aw_iadd (n := 59) dX4_add_58 rfl ?_
  refine aw_puti (n := 62) dX4_add_59 pX4_27 (by assumption) rfl rfl ?_
  refine aw_aload_n (n := 63) dX4_add_62 rfl rfl ?_
  refine aw_geti (n := 66) dX4_add_63 fX4_27 (by assumption) rfl rfl ?_
  rw [up2_s]
  refine aw_iconst (n := 67) (v := 1) dX4_add_66 (by decide) rfl ?_
  refine aw_isub (n := 68) dX4_add_67 rfl ?_
  refine aw_iret dX4_add_68 rfl ?_
  dsimp only [aPush]
  refine aw_iret dX7_term_59 rfl ?_
  rw [nI_1, show nI (cnt + 1) - 1 = nI cnt from nI_pred cnt]
  have fr : ∀ q, q ≠ 2 → q ≠ 3 → q ≠ 4 → q ≠ 5 → q ≠ 6 → q ≠ 7 → up2 M5 2 5 (nI (cnt + 1)) q = M q := by
    intro q z2 z3 z4 z5 z6 z7
    rw [hM5, up2_ra _ _ z2, up2_ra _ _ z7, up2_ra _ _ z6, up2_ra _ _ z5, up2_ra _ _ z4, up2_ra _ _ z3]
  refine hQ _ ⟨?_, ?_, ?_, ?_⟩ ?_ ?_
  · rw [up2_s]
  · intro t ht
    rw [up2_ra _ _ (by decide), up2_ra _ _ (by decide), up2_ra _ _ (by decide), up2_ra _ _ (by decide), up2_ra _ _ (by decide)]
    by_cases htc : t = cnt
    · subst htc
      rw [hM5]
      refine ⟨?_, ?_, ?_, ?_, ?_⟩ <;> simp [up2, upT]
    · obtain ⟨g0, g1, g2, g3, g4⟩ := hT t (by omega)
      rw [hM5]
      refine ⟨?_, ?_, ?_, ?_, ?_⟩ <;> simp [up2, upT, htc, g0, g1, g2, g3, g4]
  · rw [fr 0 (by decide) (by decide) (by decide) (by decide) (by decide) (by decide)]; exact hN
  · intro j hj
    obtain ⟨g1, g2⟩ := hP j hj
    unfold cP1
    rw [fr (146 + 2 * j) (by omega) (by omega) (by omega) (by omega) (by omega) (by omega), fr (146 + 2 * j + 1) (by omega) (by omega) (by omega) (by omega) (by omega) (by omega)]
    exact ⟨g1, g2⟩
  · exact cS_R0 hS (by rw [fr 1 (by decide) (by decide) (by decide) (by decide) (by decide) (by decide)]) (fr 162 (by decide) (by decide) (by decide) (by decide) (by decide) (by decide)) (fr 163 (by decide) (by decide) (by decide) (by decide) (by decide) (by decide)) (by rw [fr 0 (by decide) (by decide) (by decide) (by decide) (by decide) (by decide)]) (fun q q1 q2 => fr q (by omega) (by omega) (by omega) (by omega) (by omega) (by omega))
  · exact fun q hq => fr q (by omega) (by omega) (by omega) (by omega) (by omega) (by omega)
theorem t_isType {E : aE} {t : Int32} (hQ : Q (some (.int (b2 (typB t)))) E M) : aw l K mX7_isType d 0 0 0 [.int t] [] E M Q := by
  refine aw_iload_n (n := 1) dX7_isType_0 rfl rfl ?_
  refine aw_iconst (n := 2) (v := -1) dX7_isType_1 (by decide) rfl ?_
  refine aw_icmp_lt (tg := 14) (n := 5) dX7_isType_2 (by decide) rfl (fun c_2 => ?_) (fun c_2 => ?_)
  · refine aw_iconst (n := 15) (v := 0) dX7_isType_14 (by decide) rfl ?_
    refine aw_zret dX7_isType_15 rfl (by first | exact Or.inl rfl | exact Or.inr rfl | assumption) ?_
    rw [show typB t = false by simp [typB, c_2]] at hQ; exact hQ
  · refine aw_iload_n (n := 6) dX7_isType_5 rfl rfl ?_
    refine aw_iconst (n := 7) (v := 1) dX7_isType_6 (by decide) rfl ?_
    refine aw_icmp_gt (tg := 14) (n := 10) dX7_isType_7 (by decide) rfl (fun c_7 => ?_) (fun c_7 => ?_)
    · refine aw_iconst (n := 15) (v := 0) dX7_isType_14 (by decide) rfl ?_
      refine aw_zret dX7_isType_15 rfl (by first | exact Or.inl rfl | exact Or.inr rfl | assumption) ?_
      rw [show typB t = false by simp [typB, c_7]] at hQ; exact hQ
    · refine aw_iconst (n := 11) (v := 1) dX7_isType_10 (by decide) rfl ?_
      refine aw_goto (n := 15) dX7_isType_11 (by decide) ?_
      refine aw_zret dX7_isType_15 rfl (by first | exact Or.inl rfl | exact Or.inr rfl | assumption) ?_
      rw [show typB t = true by simp [typB, c_2, c_7]] at hQ; exact hQ
theorem t_propBad {cnt : Nat} {p : pr} (hd : 3 ≤ d) (hM : M 2 5 = nI cnt) (hb : prpB cnt p = false) (hQ : Q (some (.int (-1))) EE M) : aw l K mX7_property d 0 0 0 [.ref 0, .int (p 0), .int (p 1), .int (p 2), .int (p 3), .int (p 4), .int (p 5), .int (p 6), .null] [] EE M Q := by
  have e0 := E_0
  have e2 := E_2
  refine aw_iload_n (n := 1) dX7_property_0 rfl rfl ?_
  refine aw_s1 (d1 := d - 1) (n := 4) (Z := mX7_isType) (L0 := [_]) dX7_property_1 kX7_isType gX7_80 syX7_isType rfl (Nat.le_of_ble_eq_true rfl) rfl rfl (by omega) (Nat.le_of_ble_eq_true rfl) (t_isType ?_)
  dsimp only [aPush]
  refine aw_if_eq (tg := 33) (n := 7) dX7_property_4 (by decide) rfl (fun c_4 => ?_) (fun c_4 => ?_)
  · refine aw_iconst (n := 34) (v := -1) dX7_property_33 (by decide) rfl ?_
    refine aw_iret dX7_property_34 rfl ?_
    exact hQ
  · refine aw_iload_n (n := 8) dX7_property_7 rfl rfl ?_
    refine aw_s1 (d1 := d - 1) (n := 11) (Z := mX7_isType) (L0 := [_]) dX7_property_8 kX7_isType gX7_80 syX7_isType rfl (Nat.le_of_ble_eq_true rfl) rfl rfl (by omega) (Nat.le_of_ble_eq_true rfl) (t_isType ?_)
    dsimp only [aPush]
    refine aw_if_eq (tg := 33) (n := 14) dX7_property_11 (by decide) rfl (fun c_11 => ?_) (fun c_11 => ?_)
    · refine aw_iconst (n := 34) (v := -1) dX7_property_33 (by decide) rfl ?_
      refine aw_iret dX7_property_34 rfl ?_
      exact hQ
    · refine aw_iload_n (n := 15) dX7_property_14 rfl rfl ?_
      refine aw_s1 (d1 := d - 1) (n := 18) (Z := mX7_isType) (L0 := [_]) dX7_property_15 kX7_isType gX7_80 syX7_isType rfl (Nat.le_of_ble_eq_true rfl) rfl rfl (by omega) (Nat.le_of_ble_eq_true rfl) (t_isType ?_)
      dsimp only [aPush]
      refine aw_if_eq (tg := 33) (n := 21) dX7_property_18 (by decide) rfl (fun c_18 => ?_) (fun c_18 => ?_)
      · refine aw_iconst (n := 34) (v := -1) dX7_property_33 (by decide) rfl ?_
        refine aw_iret dX7_property_34 rfl ?_
        exact hQ
      · refine aw_iload (n := 23) dX7_property_21 rfl rfl ?_
        refine aw_if_lt (tg := 33) (n := 26) dX7_property_23 (by decide) rfl (fun c_23 => ?_) (fun c_23 => ?_)
        · refine aw_iconst (n := 34) (v := -1) dX7_property_33 (by decide) rfl ?_
          refine aw_iret dX7_property_34 rfl ?_
          exact hQ
        · refine aw_iload (n := 28) dX7_property_26 rfl rfl ?_
          refine aw_bipush (n := 30) (v := 7) dX7_property_28 (by decide) rfl ?_
          refine aw_icmp_le (tg := 35) (n := 33) dX7_property_30 (by decide) rfl (fun c_30 => ?_) (fun c_30 => ?_)
          · refine aw_aload_n (n := 36) dX7_property_35 rfl rfl ?_
            refine aw_getr (n := 39) dX7_property_36 fX7_20 (by assumption) rfl rfl ?_
            refine aw_iload (n := 41) dX7_property_39 rfl rfl ?_
            refine aw_v1 (d1 := d - 1) (n := 44) (Z := mX4_hasOrNone) (ci := 2) (L0 := [_, _]) dX7_property_41 kX4_hasOrNone gX7_84 iyX4_hasOrNone eyX4_hasOrNone rfl rfl (by assumption) rfl (Nat.le_of_ble_eq_true rfl) rfl rfl (by omega) (Nat.le_of_ble_eq_true rfl) (t_hon (by omega) hM ?_)
            dsimp only [aPush]
            refine aw_if_eq (tg := 71) (n := 47) dX7_property_44 (by decide) rfl (fun c_44 => ?_) (fun c_44 => ?_)
            · refine aw_iconst (n := 72) (v := -1) dX7_property_71 (by decide) rfl ?_
              refine aw_iret dX7_property_72 rfl ?_
              exact hQ
            · refine aw_aload_n (n := 48) dX7_property_47 rfl rfl ?_
              refine aw_getr (n := 51) dX7_property_48 fX7_20 (by assumption) rfl rfl ?_
              refine aw_iload (n := 53) dX7_property_51 rfl rfl ?_
              refine aw_v1 (d1 := d - 1) (n := 56) (Z := mX4_has) (ci := 2) (L0 := [_, _]) dX7_property_53 kX4_has gX7_87 iyX4_has eyX4_has rfl rfl (by assumption) rfl (Nat.le_of_ble_eq_true rfl) rfl rfl (by omega) (Nat.le_of_ble_eq_true rfl) (t_has hM ?_)
              dsimp only [aPush]
              refine aw_if_eq (tg := 71) (n := 59) dX7_property_56 (by decide) rfl (fun c_56 => ?_) (fun c_56 => ?_)
              · refine aw_iconst (n := 72) (v := -1) dX7_property_71 (by decide) rfl ?_
                refine aw_iret dX7_property_72 rfl ?_
                exact hQ
              · refine aw_aload_n (n := 60) dX7_property_59 rfl rfl ?_
                refine aw_getr (n := 63) dX7_property_60 fX7_20 (by assumption) rfl rfl ?_
                refine aw_iload (n := 65) dX7_property_63 rfl rfl ?_
                refine aw_v1 (d1 := d - 1) (n := 68) (Z := mX4_hasOrNone) (ci := 2) (L0 := [_, _]) dX7_property_65 kX4_hasOrNone gX7_84 iyX4_hasOrNone eyX4_hasOrNone rfl rfl (by assumption) rfl (Nat.le_of_ble_eq_true rfl) rfl rfl (by omega) (Nat.le_of_ble_eq_true rfl) (t_hon (by omega) hM ?_)
                dsimp only [aPush]
                refine aw_if_ne (tg := 73) (n := 71) dX7_property_68 (by decide) rfl (fun c_68 => ?_) (fun c_68 => ?_)
                · exact absurd hb (by
                    unfold prpB
                    rw [nzb c_4, nzb c_11, nzb c_18, decide_eq_true c_23, decide_eq_true (i_nlt.mpr c_30), nzb c_44, nzb c_56, nzb c_68]
                    decide)
                · refine aw_iconst (n := 72) (v := -1) dX7_property_71 (by decide) rfl ?_
                  refine aw_iret dX7_property_72 rfl ?_
                  exact hQ
          · refine aw_iconst (n := 34) (v := -1) dX7_property_33 (by decide) rfl ?_
            refine aw_iret dX7_property_34 rfl ?_
            exact hQ
theorem t_propFull {cnt : Nat} {p : pr} (hd : 3 ≤ d) (hM : M 2 5 = nI cnt) (hN : M 0 7 = nI 8) (hb : prpB cnt p = true) (hQ : Q (some (.int (-2))) EE M) : aw l K mX7_property d 0 0 0 [.ref 0, .int (p 0), .int (p 1), .int (p 2), .int (p 3), .int (p 4), .int (p 5), .int (p 6), .null] [] EE M Q := by
  have e0 := E_0
  have e2 := E_2
  simp only [prpB, Bool.and_eq_true, decide_eq_true_eq] at hb
  obtain ⟨⟨⟨⟨⟨⟨⟨k0, k1⟩, k2⟩, k6⟩, k7⟩, k3⟩, k4⟩, k5⟩ := hb
  refine aw_iload_n (n := 1) dX7_property_0 rfl rfl ?_
  refine aw_s1 (d1 := d - 1) (n := 4) (Z := mX7_isType) (L0 := [_]) dX7_property_1 kX7_isType gX7_80 syX7_isType rfl (Nat.le_of_ble_eq_true rfl) rfl rfl (by omega) (Nat.le_of_ble_eq_true rfl) (t_isType ?_)
  dsimp only [aPush]
  rw [k0]
  refine aw_if_eq (tg := 33) (n := 7) dX7_property_4 (by decide) rfl (fun c_4 => by exact absurd c_4 (by decide)) (fun c_4 => ?_)
  refine aw_iload_n (n := 8) dX7_property_7 rfl rfl ?_
  refine aw_s1 (d1 := d - 1) (n := 11) (Z := mX7_isType) (L0 := [_]) dX7_property_8 kX7_isType gX7_80 syX7_isType rfl (Nat.le_of_ble_eq_true rfl) rfl rfl (by omega) (Nat.le_of_ble_eq_true rfl) (t_isType ?_)
  dsimp only [aPush]
  rw [k1]
  refine aw_if_eq (tg := 33) (n := 14) dX7_property_11 (by decide) rfl (fun c_11 => by exact absurd c_11 (by decide)) (fun c_11 => ?_)
  refine aw_iload_n (n := 15) dX7_property_14 rfl rfl ?_
  refine aw_s1 (d1 := d - 1) (n := 18) (Z := mX7_isType) (L0 := [_]) dX7_property_15 kX7_isType gX7_80 syX7_isType rfl (Nat.le_of_ble_eq_true rfl) rfl rfl (by omega) (Nat.le_of_ble_eq_true rfl) (t_isType ?_)
  dsimp only [aPush]
  rw [k2]
  refine aw_if_eq (tg := 33) (n := 21) dX7_property_18 (by decide) rfl (fun c_18 => by exact absurd c_18 (by decide)) (fun c_18 => ?_)
  refine aw_iload (n := 23) dX7_property_21 rfl rfl ?_
  refine aw_if_lt (tg := 33) (n := 26) dX7_property_23 (by decide) rfl (fun c_23 => by exact absurd c_23 k6) (fun c_23 => ?_)
  refine aw_iload (n := 28) dX7_property_26 rfl rfl ?_
  refine aw_bipush (n := 30) (v := 7) dX7_property_28 (by decide) rfl ?_
  refine aw_icmp_le (tg := 35) (n := 33) dX7_property_30 (by decide) rfl (fun c_30 => ?_) (fun c_30 => by exact absurd (i_nlt.mp k7) c_30)
  refine aw_aload_n (n := 36) dX7_property_35 rfl rfl ?_
  refine aw_getr (n := 39) dX7_property_36 fX7_20 (by assumption) rfl rfl ?_
  refine aw_iload (n := 41) dX7_property_39 rfl rfl ?_
  refine aw_v1 (d1 := d - 1) (n := 44) (Z := mX4_hasOrNone) (ci := 2) (L0 := [_, _]) dX7_property_41 kX4_hasOrNone gX7_84 iyX4_hasOrNone eyX4_hasOrNone rfl rfl (by assumption) rfl (Nat.le_of_ble_eq_true rfl) rfl rfl (by omega) (Nat.le_of_ble_eq_true rfl) (t_hon (by omega) hM ?_)
  dsimp only [aPush]
  rw [k3]
  refine aw_if_eq (tg := 71) (n := 47) dX7_property_44 (by decide) rfl (fun c_44 => by exact absurd c_44 (by decide)) (fun c_44 => ?_)
  refine aw_aload_n (n := 48) dX7_property_47 rfl rfl ?_
  refine aw_getr (n := 51) dX7_property_48 fX7_20 (by assumption) rfl rfl ?_
  refine aw_iload (n := 53) dX7_property_51 rfl rfl ?_
  refine aw_v1 (d1 := d - 1) (n := 56) (Z := mX4_has) (ci := 2) (L0 := [_, _]) dX7_property_53 kX4_has gX7_87 iyX4_has eyX4_has rfl rfl (by assumption) rfl (Nat.le_of_ble_eq_true rfl) rfl rfl (by omega) (Nat.le_of_ble_eq_true rfl) (t_has hM ?_)
  dsimp only [aPush]
  rw [k4]
  refine aw_if_eq (tg := 71) (n := 59) dX7_property_56 (by decide) rfl (fun c_56 => by exact absurd c_56 (by decide)) (fun c_56 => ?_)
  refine aw_aload_n (n := 60) dX7_property_59 rfl rfl ?_
  refine aw_getr (n := 63) dX7_property_60 fX7_20 (by assumption) rfl rfl ?_
  refine aw_iload (n := 65) dX7_property_63 rfl rfl ?_
  refine aw_v1 (d1 := d - 1) (n := 68) (Z := mX4_hasOrNone) (ci := 2) (L0 := [_, _]) dX7_property_65 kX4_hasOrNone gX7_84 iyX4_hasOrNone eyX4_hasOrNone rfl rfl (by assumption) rfl (Nat.le_of_ble_eq_true rfl) rfl rfl (by omega) (Nat.le_of_ble_eq_true rfl) (t_hon (by omega) hM ?_)
  dsimp only [aPush]
  rw [k5]
  refine aw_if_ne (tg := 73) (n := 71) dX7_property_68 (by decide) rfl (fun c_68 => ?_) (fun c_68 => by exact absurd c_68 (by decide))
  refine aw_aload_n (n := 74) dX7_property_73 rfl rfl ?_
  refine aw_geti (n := 77) dX7_property_74 fX7_56 (by assumption) rfl rfl ?_
  refine aw_bipush (n := 79) (v := 8) dX7_property_77 (by decide) rfl ?_
  rw [hN]
  refine aw_icmp_lt (tg := 85) (n := 82) dX7_property_79 (by decide) rfl (fun c_79 => by exact absurd c_79 (by decide)) (fun c_79 => ?_)
  refine aw_bipush (n := 84) (v := -2) dX7_property_82 (by decide) rfl ?_
  refine aw_iret dX7_property_84 rfl ?_
  exact hQ
theorem t_property {cnt np : Nat} {T : tm} {P : Nat → pr} {s : rS} {p : pr} (hd : 3 ≤ d) (hn : np < 8) (hA : cA cnt T np P M) (hS : cS s M) (hb : prpB cnt p = true)
    (hQ : ∀ M', cA cnt T (np + 1) (upN P np p) M' → cS s M' → fC M M' → Q (some (.int (nI np))) EE M') : aw l K mX7_property d 0 0 0 [.ref 0, .int (p 0), .int (p 1), .int (p 2), .int (p 3), .int (p 4), .int (p 5), .int (p 6), .null] [] EE M Q := by
  have e0 := E_0
  have e2 := E_2
  have e145 := E_145r
  obtain ⟨hM, hT, hN, hP⟩ := hA
  simp only [prpB, Bool.and_eq_true, decide_eq_true_eq] at hb
  obtain ⟨⟨⟨⟨⟨⟨⟨k0, k1⟩, k2⟩, k6⟩, k7⟩, k3⟩, k4⟩, k5⟩ := hb
  have hinp : vp_in (nI np) rPr.length := vp_in_nI (show np < 8 by omega) (by decide)
  have hrp : rPr[(nI np).toNatClampNeg]? = some (some (146 + 2 * np)) := by rw [nI_clamp (by omega)]; exact rPr_at np hn
  obtain ⟨ip1, ip2⟩ := iP_at np hn
  have i0 : vp_in 0 3 := vp_in_nI (n := 0) (by decide) (by decide)
  have i1 : vp_in 1 3 := vp_in_nI (n := 1) (by decide) (by decide)
  have i2 : vp_in 2 3 := vp_in_nI (n := 2) (by decide) (by decide)
  have z0 : (0 : Int32).toNatClampNeg = 0 := by decide
  have z1 : (1 : Int32).toNatClampNeg = 1 := by decide
  have z2 : (2 : Int32).toNatClampNeg = 2 := by decide
  refine aw_iload_n (n := 1) dX7_property_0 rfl rfl ?_
  refine aw_s1 (d1 := d - 1) (n := 4) (Z := mX7_isType) (L0 := [_]) dX7_property_1 kX7_isType gX7_80 syX7_isType rfl (Nat.le_of_ble_eq_true rfl) rfl rfl (by omega) (Nat.le_of_ble_eq_true rfl) (t_isType ?_)
  dsimp only [aPush]
  rw [k0]
  refine aw_if_eq (tg := 33) (n := 7) dX7_property_4 (by decide) rfl (fun c_4 => by exact absurd c_4 (by decide)) (fun c_4 => ?_)
  refine aw_iload_n (n := 8) dX7_property_7 rfl rfl ?_
  refine aw_s1 (d1 := d - 1) (n := 11) (Z := mX7_isType) (L0 := [_]) dX7_property_8 kX7_isType gX7_80 syX7_isType rfl (Nat.le_of_ble_eq_true rfl) rfl rfl (by omega) (Nat.le_of_ble_eq_true rfl) (t_isType ?_)
  dsimp only [aPush]
  rw [k1]
  refine aw_if_eq (tg := 33) (n := 14) dX7_property_11 (by decide) rfl (fun c_11 => by exact absurd c_11 (by decide)) (fun c_11 => ?_)
  refine aw_iload_n (n := 15) dX7_property_14 rfl rfl ?_
  refine aw_s1 (d1 := d - 1) (n := 18) (Z := mX7_isType) (L0 := [_]) dX7_property_15 kX7_isType gX7_80 syX7_isType rfl (Nat.le_of_ble_eq_true rfl) rfl rfl (by omega) (Nat.le_of_ble_eq_true rfl) (t_isType ?_)
  dsimp only [aPush]
  rw [k2]
  refine aw_if_eq (tg := 33) (n := 21) dX7_property_18 (by decide) rfl (fun c_18 => by exact absurd c_18 (by decide)) (fun c_18 => ?_)
  refine aw_iload (n := 23) dX7_property_21 rfl rfl ?_
  refine aw_if_lt (tg := 33) (n := 26) dX7_property_23 (by decide) rfl (fun c_23 => by exact absurd c_23 k6) (fun c_23 => ?_)
  refine aw_iload (n := 28) dX7_property_26 rfl rfl ?_
  refine aw_bipush (n := 30) (v := 7) dX7_property_28 (by decide) rfl ?_
  refine aw_icmp_le (tg := 35) (n := 33) dX7_property_30 (by decide) rfl (fun c_30 => ?_) (fun c_30 => by exact absurd (i_nlt.mp k7) c_30)
  refine aw_aload_n (n := 36) dX7_property_35 rfl rfl ?_
  refine aw_getr (n := 39) dX7_property_36 fX7_20 (by assumption) rfl rfl ?_
  refine aw_iload (n := 41) dX7_property_39 rfl rfl ?_
  refine aw_v1 (d1 := d - 1) (n := 44) (Z := mX4_hasOrNone) (ci := 2) (L0 := [_, _]) dX7_property_41 kX4_hasOrNone gX7_84 iyX4_hasOrNone eyX4_hasOrNone rfl rfl (by assumption) rfl (Nat.le_of_ble_eq_true rfl) rfl rfl (by omega) (Nat.le_of_ble_eq_true rfl) (t_hon (by omega) hM ?_)
  dsimp only [aPush]
  rw [k3]
  refine aw_if_eq (tg := 71) (n := 47) dX7_property_44 (by decide) rfl (fun c_44 => by exact absurd c_44 (by decide)) (fun c_44 => ?_)
  refine aw_aload_n (n := 48) dX7_property_47 rfl rfl ?_
  refine aw_getr (n := 51) dX7_property_48 fX7_20 (by assumption) rfl rfl ?_
  refine aw_iload (n := 53) dX7_property_51 rfl rfl ?_
  refine aw_v1 (d1 := d - 1) (n := 56) (Z := mX4_has) (ci := 2) (L0 := [_, _]) dX7_property_53 kX4_has gX7_87 iyX4_has eyX4_has rfl rfl (by assumption) rfl (Nat.le_of_ble_eq_true rfl) rfl rfl (by omega) (Nat.le_of_ble_eq_true rfl) (t_has hM ?_)
  dsimp only [aPush]
  rw [k4]
  refine aw_if_eq (tg := 71) (n := 59) dX7_property_56 (by decide) rfl (fun c_56 => by exact absurd c_56 (by decide)) (fun c_56 => ?_)
  refine aw_aload_n (n := 60) dX7_property_59 rfl rfl ?_
  refine aw_getr (n := 63) dX7_property_60 fX7_20 (by assumption) rfl rfl ?_
  refine aw_iload (n := 65) dX7_property_63 rfl rfl ?_
  refine aw_v1 (d1 := d - 1) (n := 68) (Z := mX4_hasOrNone) (ci := 2) (L0 := [_, _]) dX7_property_65 kX4_hasOrNone gX7_84 iyX4_hasOrNone eyX4_hasOrNone rfl rfl (by assumption) rfl (Nat.le_of_ble_eq_true rfl) rfl rfl (by omega) (Nat.le_of_ble_eq_true rfl) (t_hon (by omega) hM ?_)
  dsimp only [aPush]
  rw [k5]
  refine aw_if_ne (tg := 73) (n := 71) dX7_property_68 (by decide) rfl (fun c_68 => ?_) (fun c_68 => by exact absurd c_68 (by decide))
  refine aw_aload_n (n := 74) dX7_property_73 rfl rfl ?_
  refine aw_geti (n := 77) dX7_property_74 fX7_56 (by assumption) rfl rfl ?_
  refine aw_bipush (n := 79) (v := 8) dX7_property_77 (by decide) rfl ?_
  rw [hN]
  refine aw_icmp_lt (tg := 85) (n := 82) dX7_property_79 (by decide) rfl (fun c_79 => ?_) (fun c_79 => by exact absurd ((nI_ltI (b := 8) (by omega) (by decide)).mpr hn) c_79)
  refine aw_aload_n (n := 86) dX7_property_85 rfl rfl ?_
  refine aw_getr (n := 89) dX7_property_86 fX7_44 (by assumption) rfl rfl ?_
  refine aw_aload_n (n := 90) dX7_property_89 rfl rfl ?_
  refine aw_geti (n := 93) dX7_property_90 fX7_56 (by assumption) rfl rfl ?_
  rw [hN]
  refine aw_aald (n := 94) dX7_property_93 (by assumption) (by decide) (by assumption) (by assumption) rfl ?_
  refine aw_astore (n := 96) (L' := [_, _, _, _, _, _, _, _, _]) dX7_property_94 (Nat.le_of_ble_eq_true rfl) rfl rfl ?_
  refine aw_aload (n := 98) dX7_property_96 rfl rfl ?_
  refine aw_iload_n (n := 99) dX7_property_98 rfl rfl ?_
  refine aw_iload_n (n := 100) dX7_property_99 rfl rfl ?_
  refine aw_iload_n (n := 101) dX7_property_100 rfl rfl ?_
  refine aw_v3 (d1 := d - 1) (n := 104) (Z := mX1_setTypes) (ci := 0) (L0 := [_, _, _, _]) dX7_property_101 kX1_setTypes gX7_90 iyX1_setTypes eyX1_setTypes rfl rfl (by assumption) rfl rfl rfl (Nat.le_of_ble_eq_true rfl) rfl rfl (by omega) (Nat.le_of_ble_eq_true rfl) ?_
  refine aw_aload_n (n := 1) dX1_setTypes_0 rfl rfl ?_
  refine aw_getr (n := 4) dX1_setTypes_1 fX1_9 (by assumption) rfl rfl ?_
  refine aw_iconst (n := 5) (v := 0) dX1_setTypes_4 (by decide) rfl ?_
  refine aw_iload_n (n := 6) dX1_setTypes_5 rfl rfl ?_
  refine aw_iast (n := 7) dX1_setTypes_6 (by assumption) (by assumption) rfl ?_
  refine aw_aload_n (n := 8) dX1_setTypes_7 rfl rfl ?_
  refine aw_getr (n := 11) dX1_setTypes_8 fX1_9 (by assumption) rfl rfl ?_
  refine aw_iconst (n := 12) (v := 1) dX1_setTypes_11 (by decide) rfl ?_
  refine aw_iload_n (n := 13) dX1_setTypes_12 rfl rfl ?_
  refine aw_iast (n := 14) dX1_setTypes_13 (by assumption) (by assumption) rfl ?_
  refine aw_aload_n (n := 15) dX1_setTypes_14 rfl rfl ?_
  refine aw_getr (n := 18) dX1_setTypes_15 fX1_9 (by assumption) rfl rfl ?_
  refine aw_iconst (n := 19) (v := 2) dX1_setTypes_18 (by decide) rfl ?_
  refine aw_iload_n (n := 20) dX1_setTypes_19 rfl rfl ?_
  refine aw_iast (n := 21) dX1_setTypes_20 (by assumption) (by assumption) rfl ?_
  refine aw_vret dX1_setTypes_21 rfl ?_
  dsimp only [aPush]
  refine aw_aload (n := 106) dX7_property_104 rfl rfl ?_
  refine aw_iload (n := 108) dX7_property_106 rfl rfl ?_
  refine aw_iload (n := 110) dX7_property_108 rfl rfl ?_
  refine aw_iload (n := 112) dX7_property_110 rfl rfl ?_
  refine aw_iload (n := 114) dX7_property_112 rfl rfl ?_
  refine aw_v4 (d1 := d - 1) (n := 117) (Z := mX1_setTerms) (ci := 0) (L0 := [_, _, _, _, _]) dX7_property_114 kX1_setTerms gX7_94 iyX1_setTerms eyX1_setTerms rfl rfl (by assumption) rfl rfl rfl rfl (Nat.le_of_ble_eq_true rfl) rfl rfl (by omega) (Nat.le_of_ble_eq_true rfl) ?_
  refine aw_aload_n (n := 1) dX1_setTerms_0 rfl rfl ?_
  refine aw_iload_n (n := 2) dX1_setTerms_1 rfl rfl ?_
  refine aw_puti (n := 5) dX1_setTerms_2 pX1_15 (by assumption) rfl rfl ?_
  refine aw_aload_n (n := 6) dX1_setTerms_5 rfl rfl ?_
  refine aw_iload_n (n := 7) dX1_setTerms_6 rfl rfl ?_
  refine aw_puti (n := 10) dX1_setTerms_7 pX1_19 (by assumption) rfl rfl ?_
  refine aw_aload_n (n := 11) dX1_setTerms_10 rfl rfl ?_
  refine aw_iload_n (n := 12) dX1_setTerms_11 rfl rfl ?_
  refine aw_puti (n := 15) dX1_setTerms_12 pX1_22 (by assumption) rfl rfl ?_
  refine aw_aload_n (n := 16) dX1_setTerms_15 rfl rfl ?_
  refine aw_iload (n := 18) dX1_setTerms_16 rfl rfl ?_
  refine aw_puti (n := 21) dX1_setTerms_18 pX1_25 (by assumption) rfl rfl ?_
  refine aw_vret dX1_setTerms_21 rfl ?_
  dsimp only [aPush]
  rw [z0, z1, z2]
  obtain ⟨M5, hM5⟩ : ∃ M5, M5 = up2 (up2 (up2 (up2 (up2 (up2 (up2 M (146 + 2 * np + 1) 0 (p 0)) (146 + 2 * np + 1) 1 (p 1)) (146 + 2 * np + 1) 2 (p 2)) (146 + 2 * np) 1 (p 3)) (146 + 2 * np) 2 (p 4)) (146 + 2 * np) 3 (p 5)) (146 + 2 * np) 4 (p 6) := ⟨_, rfl⟩
  rw [← hM5]
  have fr : ∀ q, q ≠ 146 + 2 * np → q ≠ 146 + 2 * np + 1 → M5 q = M q := by
    intro q z2 z3
    rw [hM5, up2_ra _ _ z2, up2_ra _ _ z2, up2_ra _ _ z2, up2_ra _ _ z2, up2_ra _ _ z3, up2_ra _ _ z3, up2_ra _ _ z3]
  have m07 : M5 0 7 = nI np := by rw [fr 0 (by omega) (by omega)]; exact hN
  refine aw_aload_n (n := 118) dX7_property_117 rfl rfl ?_
  refine aw_dup (n := 119) dX7_property_118 rfl rfl ?_
  refine aw_geti (n := 122) dX7_property_119 fX7_56 (by assumption) rfl rfl ?_
  rw [m07]
  refine aw_iconst (n := 123) (v := 1) dX7_property_122 (by decide) rfl ?_
  refine aw_iadd (n := 124) dX7_property_123 rfl ?_
  refine aw_puti (n := 127) dX7_property_124 pX7_56 (by assumption) rfl rfl ?_
  refine aw_aload_n (n := 128) dX7_property_127 rfl rfl ?_
  refine aw_geti (n := 131) dX7_property_128 fX7_56 (by assumption) rfl rfl ?_
  rw [up2_s]
  refine aw_iconst (n := 132) (v := 1) dX7_property_131 (by decide) rfl ?_
  refine aw_isub (n := 133) dX7_property_132 rfl ?_
  refine aw_iret dX7_property_133 rfl ?_
  rw [nI_1, show nI (np + 1) - 1 = nI np from nI_pred np]
  have fr2 : ∀ q, q ≠ 0 → q ≠ 146 + 2 * np → q ≠ 146 + 2 * np + 1 → up2 M5 0 7 (nI (np + 1)) q = M q := fun q y0 y1 y2 => by rw [up2_ra _ _ y0]; exact fr q y1 y2
  refine hQ _ ⟨?_, ?_, ?_, ?_⟩ ?_ ?_
  · rw [fr2 2 (by omega) (by omega) (by omega)]; exact hM
  · intro t ht
    rw [fr2 3 (by omega) (by omega) (by omega), fr2 4 (by omega) (by omega) (by omega), fr2 5 (by omega) (by omega) (by omega), fr2 6 (by omega) (by omega) (by omega), fr2 7 (by omega) (by omega) (by omega)]
    exact hT t ht
  · rw [up2_s]
  · intro j hj
    by_cases hjn : j = np
    · subst hjn
      unfold cP1 upN
      rw [if_pos rfl, up2_ra _ _ (by omega), up2_ra _ _ (by omega), hM5]
      refine ⟨fun i hi => ?_, ?_, ?_, ?_, ?_⟩
      · rcases (show i = 0 ∨ i = 1 ∨ i = 2 by omega) with rfl | rfl | rfl <;> simp [up2]
      · simp [up2]
      · simp [up2]
      · simp [up2]
      · simp [up2]
    · obtain ⟨g1, g2⟩ := hP j (by omega)
      unfold cP1 upN
      rw [if_neg hjn, fr2 (146 + 2 * j) (by omega) (by omega) (by omega), fr2 (146 + 2 * j + 1) (by omega) (by omega) (by omega)]
      exact ⟨g1, g2⟩
  · exact cS_R0 hS (by rw [fr2 1 (by omega) (by omega) (by omega)]) (fr2 162 (by omega) (by omega) (by omega)) (fr2 163 (by omega) (by omega) (by omega)) (by rw [up2_k _ _ (by decide), fr 0 (by omega) (by omega)]) (fun q q1 q2 => fr2 q (by omega) (by omega) (by omega))
  · exact fun q hq => fr2 q (by omega) (by omega) (by omega)
end PUB2
