theorem b2_0 {b : Bool} : b2 b = 0 ↔ b = false := by cases b <;> simp [b2]
def tOK (cnt : Nat) (w a b c n : Int32) : Prop := ¬ w < 0 ∧ ¬ 20 < w ∧ (pts w.toNatClampNeg < 1 ∨ hasB cnt a = true) ∧ (pts w.toNatClampNeg < 2 ∨ hasB cnt b = true) ∧ (pts w.toNatClampNeg < 3 ∨ hasB cnt c = true) ∧ (¬ w = 0 ∨ (¬ n < 0 ∧ ¬ 2 < n))
theorem tOK_iff {cnt : Nat} {w a b c n : Int32} : (alwB w n && prtB cnt w.toNatClampNeg a b c) = true ↔ tOK cnt w a b c n := by
  have h2 : (¬ 2 < n) ↔ ¬ 3 ≤ n := not_congr lt2
  unfold tOK
  rw [h2]
  simp only [alwB, prtB, Bool.and_eq_true, Bool.or_eq_true, decide_eq_true_eq]
  constructor
  · rintro ⟨⟨⟨h1, h2⟩, h3⟩, ⟨⟨h4, h5⟩, h6⟩⟩
    exact ⟨h1, h2, h4, h5, h6, h3⟩
  · rintro ⟨h1, h2, h4, h5, h6, h3⟩
    exact ⟨⟨⟨h1, h2⟩, h3⟩, ⟨⟨h4, h5⟩, h6⟩⟩
def pOK (cnt : Nat) (p : pr) : Prop := (¬ p 0 < -1 ∧ ¬ 1 < p 0) ∧ (¬ p 1 < -1 ∧ ¬ 1 < p 1) ∧ (¬ p 2 < -1 ∧ ¬ 1 < p 2) ∧ (p 3 = -1 ∨ hasB cnt (p 3) = true) ∧ hasB cnt (p 4) = true ∧ (p 5 = -1 ∨ hasB cnt (p 5) = true) ∧ (¬ p 6 < 0 ∧ ¬ 7 < p 6)
theorem pOK_iff {cnt : Nat} {p : pr} : prpB cnt p = true ↔ pOK cnt p := by
  unfold pOK
  simp only [prpB, typB, honB, Bool.and_eq_true, Bool.or_eq_true, decide_eq_true_eq]
  constructor
  · rintro ⟨⟨⟨⟨⟨⟨⟨h0, h1⟩, h2⟩, h6⟩, h7⟩, h3⟩, h4⟩, h5⟩
    exact ⟨h0, h1, h2, h3, h4, h5, h6, h7⟩
  · rintro ⟨h0, h1, h2, h3, h4, h5, h6, h7⟩
    exact ⟨⟨⟨⟨⟨⟨⟨h0, h1⟩, h2⟩, h6⟩, h7⟩, h3⟩, h4⟩, h5⟩
def fB (M M' : aM) : Prop := ∀ q, q < 164 → M' q = M q
section MTERM
variable {l : Launch} {K : aK} {d : Nat} {M : aM} {Q : Option Value → aE → aM → Prop}
theorem m_termChk {cnt : Nat} {w a b c n : Int32} (hd : 3 ≤ d) (hc : cnt < 2 ^ 30) (hM : M 164 0 = nI cnt)
    (k0 : ¬ tOK cnt w a b c n → aw l K mX8_term d 0 0 72 [.ref 164, .int w, .int a, .int b, .int c, .int n] [] EE M Q)
    (k1 : tOK cnt w a b c n → aw l K mX8_term d 0 0 74 [.ref 164, .int w, .int a, .int b, .int c, .int n] [] EE M Q) : aw l K mX8_term d 0 0 0 [.ref 164, .int w, .int a, .int b, .int c, .int n] [] EE M Q := by
  by_cases hw : w < 0 ∨ 20 < w
  · refine aw_iload_n (n := 1) dX8_term_0 rfl rfl ?_
    refine aw_iconst (n := 2) (v := 0) dX8_term_1 (by decide) rfl ?_
    refine aw_bipush (n := 4) (v := 20) dX8_term_2 (by decide) rfl ?_
    refine aw_s3 (d1 := d - 1) (n := 7) (Z := mX8_in) (L0 := [_, _, _]) dX8_term_4 kX8_in gX8_95 syX8_in rfl rfl rfl (Nat.le_of_ble_eq_true rfl) rfl rfl (by omega) (Nat.le_of_ble_eq_true rfl) (m_in (fun hb => ?_) (fun hb1 hb2 => ?_))
    · dsimp only [aPush]
      refine aw_if_eq (tg := 72) (n := 10) dX8_term_7 (by decide) rfl (fun c_7 => ?_) (fun c_7 => by exact absurd rfl c_7)
      exact k0 (fun q => hw.elim q.1 q.2.1)
    · dsimp only [aPush]
      exact absurd hw (fun q => q.elim hb1 hb2)
  have hw1 : ¬ w < 0 := fun q => hw (Or.inl q)
  have hw2 : ¬ 20 < w := fun q => hw (Or.inr q)
  obtain ⟨k, hk, rfl⟩ := nI_of2 (M := 20) (n := 20) (by decide) hw1 (i_nlt.mp hw2)
  have hkk : (nI k).toNatClampNeg = k := nI_clamp (by omega)
  have hp3 : pts k ≤ 3 := by have := ptsLe k hk; omega
  unfold tOK at k0 k1
  rw [hkk] at k0 k1
  have n4 : (pts k < 1 ∨ hasB cnt a = true) → (pts k < 2 ∨ hasB cnt b = true) → (pts k < 3 ∨ hasB cnt c = true) → aw l K mX8_term d 0 0 58 [.ref 164, .int (nI k), .int a, .int b, .int c, .int n] [] EE M Q := by
    intro h1 h2 h3
    refine aw_iload_n (n := 59) dX8_term_58 rfl rfl ?_
    refine aw_if_ne (tg := 74) (n := 62) dX8_term_59 (by decide) rfl (fun c_59 => ?_) (fun c_59 => ?_)
    · exact k1 ⟨hw1, hw2, h1, h2, h3, Or.inl c_59⟩
    · refine aw_iload (n := 64) dX8_term_62 rfl rfl ?_
      refine aw_iconst (n := 65) (v := 0) dX8_term_64 (by decide) rfl ?_
      refine aw_iconst (n := 66) (v := 2) dX8_term_65 (by decide) rfl ?_
      refine aw_s3 (d1 := d - 1) (n := 69) (Z := mX8_in) (L0 := [_, _, _]) dX8_term_66 kX8_in gX8_95 syX8_in rfl rfl rfl (Nat.le_of_ble_eq_true rfl) rfl rfl (by omega) (Nat.le_of_ble_eq_true rfl) (m_in (fun hb => ?_) (fun hb1 hb2 => ?_))
      · dsimp only [aPush]
        refine aw_if_ne (tg := 74) (n := 72) dX8_term_69 (by decide) rfl (fun c_69 => by exact absurd rfl c_69) (fun c_69 => ?_)
        exact k0 (fun q => q.2.2.2.2.2.elim (fun z => z c_59) (fun z => hb.elim z.1 z.2))
      · dsimp only [aPush]
        refine aw_if_ne (tg := 74) (n := 72) dX8_term_69 (by decide) rfl (fun c_69 => ?_) (fun c_69 => by exact absurd c_69 (by decide))
        exact k1 ⟨hw1, hw2, h1, h2, h3, Or.inr ⟨hb1, hb2⟩⟩
  have n3 : (pts k < 1 ∨ hasB cnt a = true) → (pts k < 2 ∨ hasB cnt b = true) → aw l K mX8_term d 0 0 41 [.ref 164, .int (nI k), .int a, .int b, .int c, .int n] [] EE M Q := by
    intro h1 h2
    refine aw_iload_n (n := 42) dX8_term_41 rfl rfl ?_
    refine aw_s1 (d1 := d - 1) (n := 45) (Z := mX8_parts) (L0 := [_]) dX8_term_42 kX8_parts gX8_99 syX8_parts rfl (Nat.le_of_ble_eq_true rfl) rfl rfl (by omega) (Nat.le_of_ble_eq_true rfl) (m_parts hk ?_)
    dsimp only [aPush]
    refine aw_iconst (n := 46) (v := 2) dX8_term_45 (by decide) rfl ?_
    refine aw_icmp_le (tg := 58) (n := 49) dX8_term_46 (by decide) rfl (fun c_46 => ?_) (fun c_46 => ?_)
    · exact n4 h1 h2 (Or.inl (by have := (nI_leI (b := 2) (by omega) (by decide)).mp c_46; omega))
    · refine aw_aload_n (n := 50) dX8_term_49 rfl rfl ?_
      refine aw_iload (n := 52) dX8_term_50 rfl rfl ?_
      refine aw_v1 (d1 := d - 1) (n := 55) (Z := mX8_isTerm) (ci := 6) (L0 := [_, _]) dX8_term_52 kX8_isTerm gX8_103 iyX8_isTerm eyX8_isTerm rfl rfl E_164 rfl (Nat.le_of_ble_eq_true rfl) rfl rfl (by omega) (Nat.le_of_ble_eq_true rfl) (m_isTerm (by omega) hc hM ?_)
      dsimp only [aPush]
      refine aw_if_eq (tg := 72) (n := 58) dX8_term_55 (by decide) rfl (fun c_55 => ?_) (fun c_55 => ?_)
      · exact k0 (fun q => q.2.2.2.2.1.elim (fun z => c_46 ((nI_leI (b := 2) (by omega) (by decide)).mpr (by omega))) (fun z => absurd (b2_0.mp c_55) (by rw [z]; decide)))
      · exact n4 h1 h2 (Or.inr (by simpa [b2_0] using c_55))
  have n2 : (pts k < 1 ∨ hasB cnt a = true) → aw l K mX8_term d 0 0 25 [.ref 164, .int (nI k), .int a, .int b, .int c, .int n] [] EE M Q := by
    intro h1
    refine aw_iload_n (n := 26) dX8_term_25 rfl rfl ?_
    refine aw_s1 (d1 := d - 1) (n := 29) (Z := mX8_parts) (L0 := [_]) dX8_term_26 kX8_parts gX8_99 syX8_parts rfl (Nat.le_of_ble_eq_true rfl) rfl rfl (by omega) (Nat.le_of_ble_eq_true rfl) (m_parts hk ?_)
    dsimp only [aPush]
    refine aw_iconst (n := 30) (v := 1) dX8_term_29 (by decide) rfl ?_
    refine aw_icmp_le (tg := 41) (n := 33) dX8_term_30 (by decide) rfl (fun c_30 => ?_) (fun c_30 => ?_)
    · exact n3 h1 (Or.inl (by have := (nI_leI (b := 1) (by omega) (by decide)).mp c_30; omega))
    · refine aw_aload_n (n := 34) dX8_term_33 rfl rfl ?_
      refine aw_iload_n (n := 35) dX8_term_34 rfl rfl ?_
      refine aw_v1 (d1 := d - 1) (n := 38) (Z := mX8_isTerm) (ci := 6) (L0 := [_, _]) dX8_term_35 kX8_isTerm gX8_103 iyX8_isTerm eyX8_isTerm rfl rfl E_164 rfl (Nat.le_of_ble_eq_true rfl) rfl rfl (by omega) (Nat.le_of_ble_eq_true rfl) (m_isTerm (by omega) hc hM ?_)
      dsimp only [aPush]
      refine aw_if_eq (tg := 72) (n := 41) dX8_term_38 (by decide) rfl (fun c_38 => ?_) (fun c_38 => ?_)
      · exact k0 (fun q => q.2.2.2.1.elim (fun z => c_30 ((nI_leI (b := 1) (by omega) (by decide)).mpr (by omega))) (fun z => absurd (b2_0.mp c_38) (by rw [z]; decide)))
      · exact n3 h1 (Or.inr (by simpa [b2_0] using c_38))
  refine aw_iload_n (n := 1) dX8_term_0 rfl rfl ?_
  refine aw_iconst (n := 2) (v := 0) dX8_term_1 (by decide) rfl ?_
  refine aw_bipush (n := 4) (v := 20) dX8_term_2 (by decide) rfl ?_
  refine aw_s3 (d1 := d - 1) (n := 7) (Z := mX8_in) (L0 := [_, _, _]) dX8_term_4 kX8_in gX8_95 syX8_in rfl rfl rfl (Nat.le_of_ble_eq_true rfl) rfl rfl (by omega) (Nat.le_of_ble_eq_true rfl) (m_in (fun hb => ?_) (fun hb1 hb2 => ?_))
  · dsimp only [aPush]
    exact absurd hb (fun q => q.elim hw1 hw2)
  · dsimp only [aPush]
    refine aw_if_eq (tg := 72) (n := 10) dX8_term_7 (by decide) rfl (fun c_7 => by exact absurd c_7 (by decide)) (fun c_7 => ?_)
    refine aw_iload_n (n := 11) dX8_term_10 rfl rfl ?_
    refine aw_s1 (d1 := d - 1) (n := 14) (Z := mX8_parts) (L0 := [_]) dX8_term_11 kX8_parts gX8_99 syX8_parts rfl (Nat.le_of_ble_eq_true rfl) rfl rfl (by omega) (Nat.le_of_ble_eq_true rfl) (m_parts hk ?_)
    dsimp only [aPush]
    refine aw_if_le (tg := 25) (n := 17) dX8_term_14 (by decide) rfl (fun c_14 => ?_) (fun c_14 => ?_)
    · exact n2 (Or.inl (by have := (nI_leI (b := 0) (by omega) (by decide)).mp c_14; omega))
    · refine aw_aload_n (n := 18) dX8_term_17 rfl rfl ?_
      refine aw_iload_n (n := 19) dX8_term_18 rfl rfl ?_
      refine aw_v1 (d1 := d - 1) (n := 22) (Z := mX8_isTerm) (ci := 6) (L0 := [_, _]) dX8_term_19 kX8_isTerm gX8_103 iyX8_isTerm eyX8_isTerm rfl rfl E_164 rfl (Nat.le_of_ble_eq_true rfl) rfl rfl (by omega) (Nat.le_of_ble_eq_true rfl) (m_isTerm (by omega) hc hM ?_)
      dsimp only [aPush]
      refine aw_if_eq (tg := 72) (n := 25) dX8_term_22 (by decide) rfl (fun c_22 => ?_) (fun c_22 => ?_)
      · exact k0 (fun q => q.2.2.1.elim (fun z => c_14 ((nI_leI (b := 0) (by omega) (by decide)).mpr (by omega))) (fun z => absurd (b2_0.mp c_22) (by rw [z]; decide)))
      · exact n2 (Or.inr (by simpa [b2_0] using c_22))
theorem m_termBad {cnt : Nat} {w a b c n : Int32} (hd : 3 ≤ d) (hc : cnt < 2 ^ 30) (hM : M 164 0 = nI cnt) (hb : (alwB w n && prtB cnt w.toNatClampNeg a b c) = false) (hQ : Q (some (.int (-1))) EE M) : aw l K mX8_term d 0 0 0 [.ref 164, .int w, .int a, .int b, .int c, .int n] [] EE M Q := by
  refine m_termChk hd hc hM (fun _ => ?_) (fun h => absurd (tOK_iff.mpr h) (by rw [hb]; decide))
  refine aw_iconst (n := 73) (v := -1) dX8_term_72 (by decide) rfl ?_
  refine aw_iret dX8_term_73 rfl ?_
  exact hQ
theorem m_termFull {w a b c n : Int32} (hd : 3 ≤ d) (hM : M 164 0 = nI 60) (hb : (alwB w n && prtB 60 w.toNatClampNeg a b c) = true) (hQ : Q (some (.int (-2))) EE M) : aw l K mX8_term d 0 0 0 [.ref 164, .int w, .int a, .int b, .int c, .int n] [] EE M Q := by
  refine m_termChk hd (by decide) hM (fun h => absurd (tOK_iff.mp hb) h) (fun _ => ?_)
  refine aw_aload_n (n := 75) dX8_term_74 rfl rfl ?_
  refine aw_geti (n := 78) dX8_term_75 fX8_92 E_164 rfl rfl ?_
  rw [hM]
  refine aw_bipush (n := 80) (v := 60) dX8_term_78 (by decide) rfl ?_
  refine aw_icmp_ne (tg := 86) (n := 83) dX8_term_80 (by decide) rfl (fun c_80 => by exact absurd rfl c_80) (fun c_80 => ?_)
  refine aw_bipush (n := 85) (v := -2) dX8_term_83 (by decide) rfl ?_
  refine aw_iret dX8_term_85 rfl ?_
  exact hQ
theorem m_term {cnt np : Nat} {T : tm} {P : Nat → pr} {s : rS} {w a b c n : Int32} (hd : 3 ≤ d) (hc : cnt < 60) (hA : mA cnt T np P M) (hS : mS s M) (hb : (alwB w n && prtB cnt w.toNatClampNeg a b c) = true)
    (hQ : ∀ M', mA (cnt + 1) (upT T cnt w a b c n) np P M' → mS s M' → fB M M' → Q (some (.int (nI cnt))) EE M') : aw l K mX8_term d 0 0 0 [.ref 164, .int w, .int a, .int b, .int c, .int n] [] EE M Q := by
  obtain ⟨hM, hT, hN, hP⟩ := hA
  have hin : vp_in (nI cnt) 60 := vp_in_nI hc (by decide)
  have hcc : (nI cnt).toNatClampNeg = cnt := nI_clamp (by omega)
  refine m_termChk hd (by omega) hM (fun h => absurd (tOK_iff.mp hb) h) (fun _ => ?_)
  refine aw_aload_n (n := 75) dX8_term_74 rfl rfl ?_
  refine aw_geti (n := 78) dX8_term_75 fX8_92 E_164 rfl rfl ?_
  rw [hM]
  refine aw_bipush (n := 80) (v := 60) dX8_term_78 (by decide) rfl ?_
  refine aw_icmp_ne (tg := 86) (n := 83) dX8_term_80 (by decide) rfl (fun c_80 => ?_) (fun c_80 => by exact absurd c_80 (fun q => absurd ((nI_eq (b := 60) (by omega) (by decide)).mp q) (by omega)))
  refine aw_aload_n (n := 87) dX8_term_86 rfl rfl ?_
  refine aw_getr (n := 90) dX8_term_87 fX8_7 E_164 rfl rfl ?_
  refine aw_aload_n (n := 91) dX8_term_90 rfl rfl ?_
  refine aw_geti (n := 94) dX8_term_91 fX8_92 E_164 rfl rfl ?_
  rw [hM]
  refine aw_iload_n (n := 95) dX8_term_94 rfl rfl ?_
  refine aw_iast (n := 96) dX8_term_95 E_165 (by assumption) rfl ?_
  refine aw_aload_n (n := 97) dX8_term_96 rfl rfl ?_
  refine aw_getr (n := 100) dX8_term_97 fX8_13 E_164 rfl rfl ?_
  refine aw_aload_n (n := 101) dX8_term_100 rfl rfl ?_
  refine aw_geti (n := 104) dX8_term_101 fX8_92 E_164 rfl rfl ?_
  rw [hcc, up2_a _ _ (by decide), hM]
  refine aw_iload_n (n := 105) dX8_term_104 rfl rfl ?_
  refine aw_iast (n := 106) dX8_term_105 E_166 (by assumption) rfl ?_
  refine aw_aload_n (n := 107) dX8_term_106 rfl rfl ?_
  refine aw_getr (n := 110) dX8_term_107 fX8_16 E_164 rfl rfl ?_
  refine aw_aload_n (n := 111) dX8_term_110 rfl rfl ?_
  refine aw_geti (n := 114) dX8_term_111 fX8_92 E_164 rfl rfl ?_
  rw [up2_a _ _ (by decide), hcc, up2_a _ _ (by decide), hM]
  refine aw_iload_n (n := 115) dX8_term_114 rfl rfl ?_
  refine aw_iast (n := 116) dX8_term_115 E_167 (by assumption) rfl ?_
  refine aw_aload_n (n := 117) dX8_term_116 rfl rfl ?_
  refine aw_getr (n := 120) dX8_term_117 fX8_19 E_164 rfl rfl ?_
  refine aw_aload_n (n := 121) dX8_term_120 rfl rfl ?_
  refine aw_geti (n := 124) dX8_term_121 fX8_92 E_164 rfl rfl ?_
  rw [up2_a _ _ (by decide), up2_a _ _ (by decide), hcc, up2_a _ _ (by decide), hM]
  refine aw_iload (n := 126) dX8_term_124 rfl rfl ?_
  refine aw_iast (n := 127) dX8_term_126 E_168 (by assumption) rfl ?_
  refine aw_aload_n (n := 128) dX8_term_127 rfl rfl ?_
  refine aw_getr (n := 131) dX8_term_128 fX8_22 E_164 rfl rfl ?_
  refine aw_aload_n (n := 132) dX8_term_131 rfl rfl ?_
  refine aw_geti (n := 135) dX8_term_132 fX8_92 E_164 rfl rfl ?_
  rw [up2_a _ _ (by decide), up2_a _ _ (by decide), up2_a _ _ (by decide), hcc, up2_a _ _ (by decide), hM]
  refine aw_iload (n := 137) dX8_term_135 rfl rfl ?_
  refine aw_iast (n := 138) dX8_term_137 E_169 (by assumption) rfl ?_
  rw [hcc]
  obtain ⟨M5, hM5⟩ : ∃ M5, M5 = up2 (up2 (up2 (up2 (up2 M 165 cnt w) 166 cnt a) 167 cnt b) 168 cnt c) 169 cnt n := ⟨_, rfl⟩
  rw [← hM5]
  have m0 : M5 164 0 = nI cnt := by rw [hM5, up2_a _ _ (by decide), up2_a _ _ (by decide), up2_a _ _ (by decide), up2_a _ _ (by decide), up2_a _ _ (by decide)]; exact hM
  have fr : ∀ q, q < 165 ∨ 170 ≤ q → M5 q = M q := fun q hq => by rw [hM5, up2_ra _ _ (by omega), up2_ra _ _ (by omega), up2_ra _ _ (by omega), up2_ra _ _ (by omega), up2_ra _ _ (by omega)]
  refine aw_aload_n (n := 139) dX8_term_138 rfl rfl ?_
  refine aw_dup (n := 140) dX8_term_139 rfl rfl ?_
  refine aw_geti (n := 143) dX8_term_140 fX8_92 E_164 rfl rfl ?_
  rw [m0]
  refine aw_dup_x1 (n := 144) dX8_term_143 rfl rfl rfl ?_
  refine aw_iconst (n := 145) (v := 1) dX8_term_144 (by decide) rfl ?_
  refine aw_iadd (n := 146) dX8_term_145 rfl ?_
  refine aw_puti (n := 149) dX8_term_146 pX8_92 E_164 rfl rfl ?_
  refine aw_iret dX8_term_149 rfl ?_
  rw [nI_1]
  have fs : ∀ j, j ≠ 0 → up2 M5 164 0 (nI (cnt + 1)) 164 j = M 164 j := fun j hj => by rw [up2_k _ _ hj, fr 164 (by omega)]
  have fq : ∀ q, q < 164 ∨ 170 ≤ q → up2 M5 164 0 (nI (cnt + 1)) q = M q := fun q hq => by rw [up2_ra _ _ (by omega)]; exact fr q (by omega)
  refine hQ _ ⟨?_, ?_, ?_, ?_⟩ ?_ (fun q hq => fq q (by omega))
  · rw [up2_s]
  · intro t ht
    rw [up2_ra _ _ (by decide), up2_ra _ _ (by decide), up2_ra _ _ (by decide), up2_ra _ _ (by decide), up2_ra _ _ (by decide)]
    by_cases htc : t = cnt
    · subst htc
      rw [hM5]
      refine ⟨?_, ?_, ?_, ?_, ?_⟩ <;> simp [up2, upT]
    · obtain ⟨g0, g1, g2, g3, g4⟩ := hT t (by omega)
      rw [hM5]
      refine ⟨?_, ?_, ?_, ?_, ?_⟩ <;> simp [up2, upT, htc, g0, g1, g2, g3, g4]
  · rw [fs 23 (by decide)]; exact hN
  · intro j hj
    unfold mP1
    rw [fq 180 (by omega), fq 181 (by omega), fq 182 (by omega), fq 183 (by omega), fq 184 (by omega)]
    exact hP j hj
  · exact mS_same hS (fun j hj _ => fs j (by omega)) (fq 185 (by omega)) (fq 187 (by omega)) (fq 188 (by omega)) (fq 189 (by omega))
theorem m_propChk {cnt : Nat} {p : pr} (hd : 3 ≤ d) (hc : cnt < 2 ^ 30) (hM : M 164 0 = nI cnt)
    (k0 : ¬ pOK cnt p → aw l K mX8_property d 0 0 77 [.ref 164, .int (p 0), .int (p 1), .int (p 2), .int (p 3), .int (p 4), .int (p 5), .int (p 6)] [] EE M Q)
    (k1 : pOK cnt p → aw l K mX8_property d 0 0 79 [.ref 164, .int (p 0), .int (p 1), .int (p 2), .int (p 3), .int (p 4), .int (p 5), .int (p 6)] [] EE M Q) : aw l K mX8_property d 0 0 0 [.ref 164, .int (p 0), .int (p 1), .int (p 2), .int (p 3), .int (p 4), .int (p 5), .int (p 6)] [] EE M Q := by
  have n3 : (¬ p 0 < -1 ∧ ¬ 1 < p 0) ∧ (¬ p 1 < -1 ∧ ¬ 1 < p 1) ∧ (¬ p 2 < -1 ∧ ¬ 1 < p 2) ∧ (p 3 = -1 ∨ hasB cnt (p 3) = true) ∧ hasB cnt (p 4) = true ∧ (p 5 = -1 ∨ hasB cnt (p 5) = true) → aw l K mX8_property d 0 0 66 [.ref 164, .int (p 0), .int (p 1), .int (p 2), .int (p 3), .int (p 4), .int (p 5), .int (p 6)] [] EE M Q := by
    rintro ⟨h0, h1, h2, h3, h4, h5⟩
    refine aw_iload (n := 68) dX8_property_66 rfl rfl ?_
    refine aw_iconst (n := 69) (v := 0) dX8_property_68 (by decide) rfl ?_
    refine aw_bipush (n := 71) (v := 7) dX8_property_69 (by decide) rfl ?_
    refine aw_s3 (d1 := d - 1) (n := 74) (Z := mX8_in) (L0 := [_, _, _]) dX8_property_71 kX8_in gX8_95 syX8_in rfl rfl rfl (Nat.le_of_ble_eq_true rfl) rfl rfl (by omega) (Nat.le_of_ble_eq_true rfl) (m_in (fun hb => ?_) (fun hb1 hb2 => ?_))
    · dsimp only [aPush]
      refine aw_if_ne (tg := 79) (n := 77) dX8_property_74 (by decide) rfl (fun c_74 => by exact absurd rfl c_74) (fun c_74 => ?_)
      exact k0 (fun q => hb.elim q.2.2.2.2.2.2.1 q.2.2.2.2.2.2.2)
    · dsimp only [aPush]
      refine aw_if_ne (tg := 79) (n := 77) dX8_property_74 (by decide) rfl (fun c_74 => ?_) (fun c_74 => by exact absurd c_74 (by decide))
      exact k1 ⟨h0, h1, h2, h3, h4, h5, hb1, hb2⟩
  have n2 : (¬ p 0 < -1 ∧ ¬ 1 < p 0) ∧ (¬ p 1 < -1 ∧ ¬ 1 < p 1) ∧ (¬ p 2 < -1 ∧ ¬ 1 < p 2) ∧ (p 3 = -1 ∨ hasB cnt (p 3) = true) → aw l K mX8_property d 0 0 42 [.ref 164, .int (p 0), .int (p 1), .int (p 2), .int (p 3), .int (p 4), .int (p 5), .int (p 6)] [] EE M Q := by
    rintro ⟨h0, h1, h2, h3⟩
    refine aw_aload_n (n := 43) dX8_property_42 rfl rfl ?_
    refine aw_iload (n := 45) dX8_property_43 rfl rfl ?_
    refine aw_v1 (d1 := d - 1) (n := 48) (Z := mX8_isTerm) (ci := 6) (L0 := [_, _]) dX8_property_45 kX8_isTerm gX8_103 iyX8_isTerm eyX8_isTerm rfl rfl E_164 rfl (Nat.le_of_ble_eq_true rfl) rfl rfl (by omega) (Nat.le_of_ble_eq_true rfl) (m_isTerm (by omega) hc hM ?_)
    dsimp only [aPush]
    refine aw_if_eq (tg := 77) (n := 51) dX8_property_48 (by decide) rfl (fun c_48 => ?_) (fun c_48 => ?_)
    · exact k0 (fun q => absurd (b2_0.mp c_48) (by rw [q.2.2.2.2.1]; decide))
    · refine aw_iload (n := 53) dX8_property_51 rfl rfl ?_
      refine aw_iconst (n := 54) (v := -1) dX8_property_53 (by decide) rfl ?_
      refine aw_icmp_eq (tg := 66) (n := 57) dX8_property_54 (by decide) rfl (fun c_54 => ?_) (fun c_54 => ?_)
      · exact n3 ⟨h0, h1, h2, h3, by simpa [b2_0] using c_48, Or.inl c_54⟩
      · refine aw_aload_n (n := 58) dX8_property_57 rfl rfl ?_
        refine aw_iload (n := 60) dX8_property_58 rfl rfl ?_
        refine aw_v1 (d1 := d - 1) (n := 63) (Z := mX8_isTerm) (ci := 6) (L0 := [_, _]) dX8_property_60 kX8_isTerm gX8_103 iyX8_isTerm eyX8_isTerm rfl rfl E_164 rfl (Nat.le_of_ble_eq_true rfl) rfl rfl (by omega) (Nat.le_of_ble_eq_true rfl) (m_isTerm (by omega) hc hM ?_)
        dsimp only [aPush]
        refine aw_if_eq (tg := 77) (n := 66) dX8_property_63 (by decide) rfl (fun c_63 => ?_) (fun c_63 => ?_)
        · exact k0 (fun q => q.2.2.2.2.2.1.elim c_54 (fun z => absurd (b2_0.mp c_63) (by rw [z]; decide)))
        · exact n3 ⟨h0, h1, h2, h3, by simpa [b2_0] using c_48, Or.inr (by simpa [b2_0] using c_63)⟩
  refine aw_iload_n (n := 1) dX8_property_0 rfl rfl ?_
  refine aw_iconst (n := 2) (v := -1) dX8_property_1 (by decide) rfl ?_
  refine aw_iconst (n := 3) (v := 1) dX8_property_2 (by decide) rfl ?_
  refine aw_s3 (d1 := d - 1) (n := 6) (Z := mX8_in) (L0 := [_, _, _]) dX8_property_3 kX8_in gX8_95 syX8_in rfl rfl rfl (Nat.le_of_ble_eq_true rfl) rfl rfl (by omega) (Nat.le_of_ble_eq_true rfl) (m_in (fun hb => ?_) (fun ha1 ha2 => ?_))
  · dsimp only [aPush]
    refine aw_if_eq (tg := 77) (n := 9) dX8_property_6 (by decide) rfl (fun c_6 => ?_) (fun c_6 => by exact absurd rfl c_6)
    exact k0 (fun q => hb.elim q.1.1 q.1.2)
  · dsimp only [aPush]
    refine aw_if_eq (tg := 77) (n := 9) dX8_property_6 (by decide) rfl (fun c_6 => by exact absurd c_6 (by decide)) (fun c_6 => ?_)
    refine aw_iload_n (n := 10) dX8_property_9 rfl rfl ?_
    refine aw_iconst (n := 11) (v := -1) dX8_property_10 (by decide) rfl ?_
    refine aw_iconst (n := 12) (v := 1) dX8_property_11 (by decide) rfl ?_
    refine aw_s3 (d1 := d - 1) (n := 15) (Z := mX8_in) (L0 := [_, _, _]) dX8_property_12 kX8_in gX8_95 syX8_in rfl rfl rfl (Nat.le_of_ble_eq_true rfl) rfl rfl (by omega) (Nat.le_of_ble_eq_true rfl) (m_in (fun hb => ?_) (fun hb1 hb2 => ?_))
    · dsimp only [aPush]
      refine aw_if_eq (tg := 77) (n := 18) dX8_property_15 (by decide) rfl (fun c_15 => ?_) (fun c_15 => by exact absurd rfl c_15)
      exact k0 (fun q => hb.elim q.2.1.1 q.2.1.2)
    · dsimp only [aPush]
      refine aw_if_eq (tg := 77) (n := 18) dX8_property_15 (by decide) rfl (fun c_15 => by exact absurd c_15 (by decide)) (fun c_15 => ?_)
      refine aw_iload_n (n := 19) dX8_property_18 rfl rfl ?_
      refine aw_iconst (n := 20) (v := -1) dX8_property_19 (by decide) rfl ?_
      refine aw_iconst (n := 21) (v := 1) dX8_property_20 (by decide) rfl ?_
      refine aw_s3 (d1 := d - 1) (n := 24) (Z := mX8_in) (L0 := [_, _, _]) dX8_property_21 kX8_in gX8_95 syX8_in rfl rfl rfl (Nat.le_of_ble_eq_true rfl) rfl rfl (by omega) (Nat.le_of_ble_eq_true rfl) (m_in (fun hb => ?_) (fun hc1 hc2 => ?_))
      · dsimp only [aPush]
        refine aw_if_eq (tg := 77) (n := 27) dX8_property_24 (by decide) rfl (fun c_24 => ?_) (fun c_24 => by exact absurd rfl c_24)
        exact k0 (fun q => hb.elim q.2.2.1.1 q.2.2.1.2)
      · dsimp only [aPush]
        refine aw_if_eq (tg := 77) (n := 27) dX8_property_24 (by decide) rfl (fun c_24 => by exact absurd c_24 (by decide)) (fun c_24 => ?_)
        refine aw_iload (n := 29) dX8_property_27 rfl rfl ?_
        refine aw_iconst (n := 30) (v := -1) dX8_property_29 (by decide) rfl ?_
        refine aw_icmp_eq (tg := 42) (n := 33) dX8_property_30 (by decide) rfl (fun c_30 => ?_) (fun c_30 => ?_)
        · exact n2 ⟨⟨ha1, ha2⟩, ⟨hb1, hb2⟩, ⟨hc1, hc2⟩, Or.inl c_30⟩
        · refine aw_aload_n (n := 34) dX8_property_33 rfl rfl ?_
          refine aw_iload (n := 36) dX8_property_34 rfl rfl ?_
          refine aw_v1 (d1 := d - 1) (n := 39) (Z := mX8_isTerm) (ci := 6) (L0 := [_, _]) dX8_property_36 kX8_isTerm gX8_103 iyX8_isTerm eyX8_isTerm rfl rfl E_164 rfl (Nat.le_of_ble_eq_true rfl) rfl rfl (by omega) (Nat.le_of_ble_eq_true rfl) (m_isTerm (by omega) hc hM ?_)
          dsimp only [aPush]
          refine aw_if_eq (tg := 77) (n := 42) dX8_property_39 (by decide) rfl (fun c_39 => ?_) (fun c_39 => ?_)
          · exact k0 (fun q => q.2.2.2.1.elim c_30 (fun z => absurd (b2_0.mp c_39) (by rw [z]; decide)))
          · exact n2 ⟨⟨ha1, ha2⟩, ⟨hb1, hb2⟩, ⟨hc1, hc2⟩, Or.inr (by simpa [b2_0] using c_39)⟩
theorem m_propBad {cnt : Nat} {p : pr} (hd : 3 ≤ d) (hc : cnt < 2 ^ 30) (hM : M 164 0 = nI cnt) (hb : prpB cnt p = false) (hQ : Q (some (.int (-1))) EE M) : aw l K mX8_property d 0 0 0 [.ref 164, .int (p 0), .int (p 1), .int (p 2), .int (p 3), .int (p 4), .int (p 5), .int (p 6)] [] EE M Q := by
  refine m_propChk hd hc hM (fun _ => ?_) (fun h => absurd (pOK_iff.mpr h) (by rw [hb]; decide))
  refine aw_iconst (n := 78) (v := -1) dX8_property_77 (by decide) rfl ?_
  refine aw_iret dX8_property_78 rfl ?_
  exact hQ
theorem m_propFull {cnt : Nat} {p : pr} (hd : 3 ≤ d) (hc : cnt < 2 ^ 30) (hM : M 164 0 = nI cnt) (hN : M 164 23 = nI 8) (hb : prpB cnt p = true) (hQ : Q (some (.int (-2))) EE M) : aw l K mX8_property d 0 0 0 [.ref 164, .int (p 0), .int (p 1), .int (p 2), .int (p 3), .int (p 4), .int (p 5), .int (p 6)] [] EE M Q := by
  refine m_propChk hd hc hM (fun h => absurd (pOK_iff.mp hb) h) (fun _ => ?_)
  refine aw_aload_n (n := 80) dX8_property_79 rfl rfl ?_
  refine aw_geti (n := 83) dX8_property_80 fX8_175 E_164 rfl rfl ?_
  rw [hN]
  refine aw_bipush (n := 85) (v := 8) dX8_property_83 (by decide) rfl ?_
  refine aw_icmp_ne (tg := 91) (n := 88) dX8_property_85 (by decide) rfl (fun c_85 => by exact absurd rfl c_85) (fun c_85 => ?_)
  refine aw_bipush (n := 90) (v := -2) dX8_property_88 (by decide) rfl ?_
  refine aw_iret dX8_property_90 rfl ?_
  exact hQ
theorem m_property {cnt np : Nat} {T : tm} {P : Nat → pr} {s : rS} {p : pr} (hd : 3 ≤ d) (hc : cnt < 2 ^ 30) (hn : np < 8) (hA : mA cnt T np P M) (hS : mS s M) (hb : prpB cnt p = true)
    (hQ : ∀ M', mA cnt T (np + 1) (upN P np p) M' → mS s M' → fB M M' → Q (some (.int (nI np))) EE M') : aw l K mX8_property d 0 0 0 [.ref 164, .int (p 0), .int (p 1), .int (p 2), .int (p 3), .int (p 4), .int (p 5), .int (p 6)] [] EE M Q := by
  obtain ⟨hM, hT, hN, hP⟩ := hA
  have hin : vp_in (nI np) 8 := vp_in_nI hn (by decide)
  have hcc : (nI np).toNatClampNeg = np := nI_clamp (by omega)
  have e0 : (3 : Int32) * nI np = nI (3 * np) := by rw [show (3 : Int32) = nI 3 from rfl, pk_mul]
  have e1 : nI (3 * np) + 1 = nI (3 * np + 1) := nI_1 _
  have e2 : nI (3 * np) + 2 = nI (3 * np + 2) := nI_add _ 2
  have i0 : vp_in (nI (3 * np)) 24 := vp_in_nI (by omega) (by decide)
  have i1 : vp_in (nI (3 * np + 1)) 24 := vp_in_nI (by omega) (by decide)
  have i2 : vp_in (nI (3 * np + 2)) 24 := vp_in_nI (by omega) (by decide)
  have q0 : (nI (3 * np)).toNatClampNeg = 3 * np := nI_clamp (by omega)
  have q1 : (nI (3 * np + 1)).toNatClampNeg = 3 * np + 1 := nI_clamp (by omega)
  have q2 : (nI (3 * np + 2)).toNatClampNeg = 3 * np + 2 := nI_clamp (by omega)
  refine m_propChk hd hc hM (fun h => absurd (pOK_iff.mp hb) h) (fun _ => ?_)
  refine aw_aload_n (n := 80) dX8_property_79 rfl rfl ?_
  refine aw_geti (n := 83) dX8_property_80 fX8_175 E_164 rfl rfl ?_
  rw [hN]
  refine aw_bipush (n := 85) (v := 8) dX8_property_83 (by decide) rfl ?_
  refine aw_icmp_ne (tg := 91) (n := 88) dX8_property_85 (by decide) rfl (fun c_85 => ?_) (fun c_85 => by exact absurd c_85 (fun q => absurd ((nI_eq (b := 8) (by omega) (by decide)).mp q) (by omega)))
  refine aw_aload_n (n := 92) dX8_property_91 rfl rfl ?_
  refine aw_getr (n := 95) dX8_property_92 fX8_55 E_164 rfl rfl ?_
  refine aw_iconst (n := 96) (v := 3) dX8_property_95 (by decide) rfl ?_
  refine aw_aload_n (n := 97) dX8_property_96 rfl rfl ?_
  refine aw_geti (n := 100) dX8_property_97 fX8_175 E_164 rfl rfl ?_
  rw [hN]
  refine aw_imul (n := 101) dX8_property_100 rfl ?_
  rw [e0]
  refine aw_iload_n (n := 102) dX8_property_101 rfl rfl ?_
  refine aw_iast (n := 103) dX8_property_102 E_180 (by assumption) rfl ?_
  rw [q0]
  refine aw_aload_n (n := 104) dX8_property_103 rfl rfl ?_
  refine aw_getr (n := 107) dX8_property_104 fX8_55 E_164 rfl rfl ?_
  refine aw_iconst (n := 108) (v := 3) dX8_property_107 (by decide) rfl ?_
  refine aw_aload_n (n := 109) dX8_property_108 rfl rfl ?_
  refine aw_geti (n := 112) dX8_property_109 fX8_175 E_164 rfl rfl ?_
  rw [up2_a _ _ (by decide), hN]
  refine aw_imul (n := 113) dX8_property_112 rfl ?_
  rw [e0]
  refine aw_iconst (n := 114) (v := 1) dX8_property_113 (by decide) rfl ?_
  refine aw_iadd (n := 115) dX8_property_114 rfl ?_
  rw [e1]
  refine aw_iload_n (n := 116) dX8_property_115 rfl rfl ?_
  refine aw_iast (n := 117) dX8_property_116 E_180 (by assumption) rfl ?_
  rw [q1]
  refine aw_aload_n (n := 118) dX8_property_117 rfl rfl ?_
  refine aw_getr (n := 121) dX8_property_118 fX8_55 E_164 rfl rfl ?_
  refine aw_iconst (n := 122) (v := 3) dX8_property_121 (by decide) rfl ?_
  refine aw_aload_n (n := 123) dX8_property_122 rfl rfl ?_
  refine aw_geti (n := 126) dX8_property_123 fX8_175 E_164 rfl rfl ?_
  rw [up2_a _ _ (by decide), up2_a _ _ (by decide), hN]
  refine aw_imul (n := 127) dX8_property_126 rfl ?_
  rw [e0]
  refine aw_iconst (n := 128) (v := 2) dX8_property_127 (by decide) rfl ?_
  refine aw_iadd (n := 129) dX8_property_128 rfl ?_
  rw [e2]
  refine aw_iload_n (n := 130) dX8_property_129 rfl rfl ?_
  refine aw_iast (n := 131) dX8_property_130 E_180 (by assumption) rfl ?_
  rw [q2]
  refine aw_aload_n (n := 132) dX8_property_131 rfl rfl ?_
  refine aw_getr (n := 135) dX8_property_132 fX8_58 E_164 rfl rfl ?_
  refine aw_aload_n (n := 136) dX8_property_135 rfl rfl ?_
  refine aw_geti (n := 139) dX8_property_136 fX8_175 E_164 rfl rfl ?_
  rw [up2_a _ _ (by decide), up2_a _ _ (by decide), up2_a _ _ (by decide), hN]
  refine aw_iload (n := 141) dX8_property_139 rfl rfl ?_
  refine aw_iast (n := 142) dX8_property_141 E_181 (by assumption) rfl ?_
  rw [hcc]
  refine aw_aload_n (n := 143) dX8_property_142 rfl rfl ?_
  refine aw_getr (n := 146) dX8_property_143 fX8_61 E_164 rfl rfl ?_
  refine aw_aload_n (n := 147) dX8_property_146 rfl rfl ?_
  refine aw_geti (n := 150) dX8_property_147 fX8_175 E_164 rfl rfl ?_
  rw [up2_a _ _ (by decide), up2_a _ _ (by decide), up2_a _ _ (by decide), up2_a _ _ (by decide), hN]
  refine aw_iload (n := 152) dX8_property_150 rfl rfl ?_
  refine aw_iast (n := 153) dX8_property_152 E_182 (by assumption) rfl ?_
  rw [hcc]
  refine aw_aload_n (n := 154) dX8_property_153 rfl rfl ?_
  refine aw_getr (n := 157) dX8_property_154 fX8_64 E_164 rfl rfl ?_
  refine aw_aload_n (n := 158) dX8_property_157 rfl rfl ?_
  refine aw_geti (n := 161) dX8_property_158 fX8_175 E_164 rfl rfl ?_
  rw [up2_a _ _ (by decide), up2_a _ _ (by decide), up2_a _ _ (by decide), up2_a _ _ (by decide), up2_a _ _ (by decide), hN]
  refine aw_iload (n := 163) dX8_property_161 rfl rfl ?_
  refine aw_iast (n := 164) dX8_property_163 E_183 (by assumption) rfl ?_
  rw [hcc]
  refine aw_aload_n (n := 165) dX8_property_164 rfl rfl ?_
  refine aw_getr (n := 168) dX8_property_165 fX8_67 E_164 rfl rfl ?_
  refine aw_aload_n (n := 169) dX8_property_168 rfl rfl ?_
  refine aw_geti (n := 172) dX8_property_169 fX8_175 E_164 rfl rfl ?_
  rw [up2_a _ _ (by decide), up2_a _ _ (by decide), up2_a _ _ (by decide), up2_a _ _ (by decide), up2_a _ _ (by decide), up2_a _ _ (by decide), hN]
  refine aw_iload (n := 174) dX8_property_172 rfl rfl ?_
  refine aw_iast (n := 175) dX8_property_174 E_184 (by assumption) rfl ?_
  rw [hcc]
  obtain ⟨M5, hM5⟩ : ∃ M5, M5 = up2 (up2 (up2 (up2 (up2 (up2 (up2 M 180 (3 * np) (p 0)) 180 (3 * np + 1) (p 1)) 180 (3 * np + 2) (p 2)) 181 np (p 3)) 182 np (p 4)) 183 np (p 5)) 184 np (p 6) := ⟨_, rfl⟩
  rw [← hM5]
  have m0 : M5 164 23 = nI np := by rw [hM5, up2_a _ _ (by decide), up2_a _ _ (by decide), up2_a _ _ (by decide), up2_a _ _ (by decide), up2_a _ _ (by decide), up2_a _ _ (by decide), up2_a _ _ (by decide)]; exact hN
  have fr : ∀ q, q < 180 ∨ 185 ≤ q → M5 q = M q := fun q hq => by rw [hM5, up2_ra _ _ (by omega), up2_ra _ _ (by omega), up2_ra _ _ (by omega), up2_ra _ _ (by omega), up2_ra _ _ (by omega), up2_ra _ _ (by omega), up2_ra _ _ (by omega)]
  refine aw_aload_n (n := 176) dX8_property_175 rfl rfl ?_
  refine aw_dup (n := 177) dX8_property_176 rfl rfl ?_
  refine aw_geti (n := 180) dX8_property_177 fX8_175 E_164 rfl rfl ?_
  rw [m0]
  refine aw_dup_x1 (n := 181) dX8_property_180 rfl rfl rfl ?_
  refine aw_iconst (n := 182) (v := 1) dX8_property_181 (by decide) rfl ?_
  refine aw_iadd (n := 183) dX8_property_182 rfl ?_
  refine aw_puti (n := 186) dX8_property_183 pX8_175 E_164 rfl rfl ?_
  refine aw_iret dX8_property_186 rfl ?_
  rw [nI_1]
  have fs : ∀ j, j ≠ 23 → up2 M5 164 23 (nI (np + 1)) 164 j = M 164 j := fun j hj => by rw [up2_k _ _ hj, fr 164 (by omega)]
  have fq : ∀ q, q ≠ 164 → q < 180 ∨ 185 ≤ q → up2 M5 164 23 (nI (np + 1)) q = M q := fun q h4 hq => by rw [up2_ra _ _ h4]; exact fr q hq
  refine hQ _ ⟨?_, ?_, ?_, ?_⟩ ?_ (fun q hq => fq q (by omega) (by omega))
  · rw [fs 0 (by decide)]; exact hM
  · intro t ht
    rw [fq 165 (by omega) (by omega), fq 166 (by omega) (by omega), fq 167 (by omega) (by omega), fq 168 (by omega) (by omega), fq 169 (by omega) (by omega)]
    exact hT t ht
  · rw [up2_s]
  · intro j hj
    have r5 : ∀ q, q ≠ 164 → up2 M5 164 23 (nI (np + 1)) q = M5 q := fun q h4 => up2_ra _ _ h4
    by_cases hjn : j = np
    · subst hjn
      unfold mP1 upN
      rw [if_pos rfl, r5 180 (by decide), r5 181 (by decide), r5 182 (by decide), r5 183 (by decide), r5 184 (by decide), hM5]
      refine ⟨fun i hi => ?_, ?_, ?_, ?_, ?_⟩
      · rcases (show i = 0 ∨ i = 1 ∨ i = 2 by omega) with rfl | rfl | rfl <;> simp [up2]
      · simp [up2]
      · simp [up2]
      · simp [up2]
      · simp [up2]
    · obtain ⟨g1, g2, g3, g4, g5⟩ := hP j (by omega)
      unfold mP1 upN
      rw [if_neg hjn, r5 180 (by decide), r5 181 (by decide), r5 182 (by decide), r5 183 (by decide), r5 184 (by decide), hM5]
      refine ⟨fun i hi => ?_, ?_, ?_, ?_, ?_⟩
      · rw [up2_a _ _ (by decide), up2_a _ _ (by decide), up2_a _ _ (by decide), up2_a _ _ (by decide), up2_k _ _ (by omega), up2_k _ _ (by omega), up2_k _ _ (by omega)]; exact g1 i hi
      · rw [up2_a _ _ (by decide), up2_a _ _ (by decide), up2_a _ _ (by decide), up2_k _ _ (by omega), up2_a _ _ (by decide), up2_a _ _ (by decide), up2_a _ _ (by decide)]; exact g2
      · rw [up2_a _ _ (by decide), up2_a _ _ (by decide), up2_k _ _ (by omega), up2_a _ _ (by decide), up2_a _ _ (by decide), up2_a _ _ (by decide), up2_a _ _ (by decide)]; exact g3
      · rw [up2_a _ _ (by decide), up2_k _ _ (by omega), up2_a _ _ (by decide), up2_a _ _ (by decide), up2_a _ _ (by decide), up2_a _ _ (by decide), up2_a _ _ (by decide)]; exact g4
      · rw [up2_k _ _ (by omega), up2_a _ _ (by decide), up2_a _ _ (by decide), up2_a _ _ (by decide), up2_a _ _ (by decide), up2_a _ _ (by decide), up2_a _ _ (by decide)]; exact g5
  · exact mS_same hS (fun j hj _ => fs j (by omega)) (fq 185 (by omega) (by omega)) (fq 187 (by omega) (by omega)) (fq 188 (by omega) (by omega)) (fq 189 (by omega) (by omega))
end MTERM
