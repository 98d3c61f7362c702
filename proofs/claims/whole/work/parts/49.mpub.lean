theorem lt2 {y : Int32} : 2 < y ↔ 3 ≤ y := by
  have e2 : (2 : Int32).toInt = 2 := by decide
  have e3 : (3 : Int32).toInt = 3 := by decide
  rw [Int32.lt_iff_toInt_lt, Int32.le_iff_toInt_le, e2, e3]; omega
theorem lt199 {y : Int32} : 199 < y ↔ 200 ≤ y := by
  have e2 : (199 : Int32).toInt = 199 := by decide
  have e3 : (200 : Int32).toInt = 200 := by decide
  rw [Int32.lt_iff_toInt_lt, Int32.le_iff_toInt_le, e2, e3]; omega
theorem lt8 {y : Int32} : 8 < y ↔ 9 ≤ y := by
  have e2 : (8 : Int32).toInt = 8 := by decide
  have e3 : (9 : Int32).toInt = 9 := by decide
  rw [Int32.lt_iff_toInt_lt, Int32.le_iff_toInt_le, e2, e3]; omega
theorem t01 {y : Int32} (h : ¬ y < 0 ∧ ¬ 1 < y) : y = 0 ∨ y = 1 := by
  obtain ⟨n, hn, rfl⟩ := nI_of2 (M := 1) (n := 1) (by decide) h.1 (i_nlt.mp h.2)
  rcases (show n = 0 ∨ n = 1 by omega) with rfl | rfl
  · exact Or.inl rfl
  · exact Or.inr rfl
theorem rd_r {r : List Int32} {k : Int32} (h16 : r.length ≤ 16) : (k = -1 → rd (some (.inr r)) k = nI r.length) ∧ (¬ k = -1 → (k < 0 ∨ nI r.length - 1 < k) → rd (some (.inr r)) k = -2147483648) ∧ (∀ j, j < r.length → k = nI j → rd (some (.inr r)) k = r.getD j 0) := by
  refine ⟨fun h => ?_, fun h h2 => ?_, fun j hj h => ?_⟩
  · subst h
    have : ¬ ((-1 : Int32) < -1 ∨ nI r.length ≤ -1) := by
      rintro (q | q)
      · exact absurd q (by decide)
      · rw [Int32.le_iff_toInt_le, nI_toInt (by omega), ti_m1] at q; omega
    exact (if_neg this).trans (if_pos rfl)
  · have : k < -1 ∨ nI r.length ≤ k := by
      rcases h2 with q | q
      · left
        simp only [Int32.lt_iff_toInt_lt, ← Int32.toInt_inj, ti_m1, ti_0] at *
        omega
      · right; exact (nI_p1 (by omega)).mp q
    exact if_pos this
  · subst h
    have h1 : ¬ (nI j < -1 ∨ nI r.length ≤ nI j) := by
      rintro (q | q)
      · rw [Int32.lt_iff_toInt_lt, nI_toInt (by omega), ti_m1] at q; omega
      · exact nI_ge hj (by omega) q
    have h2 : ¬ nI j = -1 := fun q => by
      have := congrArg Int32.toInt q
      rw [nI_toInt (by omega), ti_m1] at this; omega
    refine (if_neg h1).trans ((if_neg h2).trans ?_)
    rw [nI_clamp (by omega)]
section MPUB
variable {l : Launch} {K : aK} {d : Nat} {M : aM} {Q : Option Value → aE → aM → Prop}
theorem m_againNone {s : rS} (hS : mS s M) (hb : s.2.2.2.1 < 0) (hQ : Q (some (.int (-2))) EE M) : aw l K mX8_again d 0 0 0 [.ref 164] [] EE M Q := by
  refine aw_aload_n (n := 1) dX8_again_0 rfl rfl ?_
  refine aw_geti (n := 4) dX8_again_1 fX8_76 E_164 rfl rfl ?_
  rw [hS.2.2.2.1]
  refine aw_if_ge (tg := 10) (n := 7) dX8_again_4 (by decide) rfl (fun c_4 => by exact absurd c_4 (i_nle.mpr hb)) (fun c_4 => ?_)
  refine aw_bipush (n := 9) (v := -2) dX8_again_7 (by decide) rfl ?_
  refine aw_iret dX8_again_9 rfl ?_
  exact hQ
theorem m_againSpent {s : rS} (hS : mS s M) (hb : ¬ s.2.2.2.1 < 0) (h3 : s.1 = 3000) (hQ : Q (some (.int (-3))) EE M) : aw l K mX8_again d 0 0 0 [.ref 164] [] EE M Q := by
  refine aw_aload_n (n := 1) dX8_again_0 rfl rfl ?_
  refine aw_geti (n := 4) dX8_again_1 fX8_76 E_164 rfl rfl ?_
  rw [hS.2.2.2.1]
  refine aw_if_ge (tg := 10) (n := 7) dX8_again_4 (by decide) rfl (fun c_4 => ?_) (fun c_4 => by exact absurd (i_nlt.mp hb) c_4)
  refine aw_aload_n (n := 11) dX8_again_10 rfl rfl ?_
  refine aw_geti (n := 14) dX8_again_11 fX8_178 E_164 rfl rfl ?_
  rw [hS.1, h3]
  refine aw_sipush (n := 17) (v := 3000) dX8_again_14 (by decide) rfl ?_
  refine aw_icmp_ne (tg := 23) (n := 20) dX8_again_17 (by decide) rfl (fun c_17 => by exact absurd rfl c_17) (fun c_17 => ?_)
  refine aw_bipush (n := 22) (v := -3) dX8_again_20 (by decide) rfl ?_
  refine aw_iret dX8_again_22 rfl ?_
  exact hQ
theorem m_again {cnt np k : Nat} {T : tm} {P : Nat → pr} {s : rS} (hd : 13 ≤ d) (hW : wfA cnt T np P) (hA : mA cnt T np P M) (hS : mS s M) (hk : k < np) (hfl : s.2.2.2.1 = nI k) (hty : ∀ i, i < 3 → P k i = tyV (s.2.2.2.2 i)) (h3 : s.1 < 3000)
    (hQ : ∀ M', mS (s.1 + 1, s.2.1, s.2.2.1, s.2.2.2.1, s.2.2.2.2) M' → fV M M' → Q (some (.int (outS T s.2.2.2.2 (P k 3) (P k 4) (P k 6)).2)) EE M') : aw l K mX8_again d 0 0 0 [.ref 164] [] EE M Q := by
  obtain ⟨w1, w2, w3, w4⟩ := hW
  have hnn : ¬ nI k < 0 := nI_pos (by omega)
  have hn3 : ¬ nI s.1 = 3000 := fun q => absurd ((nI_eq (b := 3000) (by omega) (by decide)).mp q) (by omega)
  have h41 : M 164 41 = nI k := hS.2.2.2.1.trans hfl
  have hc := hS.2.2.2.2 (by rw [hfl]; exact hnn)
  refine aw_aload_n (n := 1) dX8_again_0 rfl rfl ?_
  refine aw_geti (n := 4) dX8_again_1 fX8_76 E_164 rfl rfl ?_
  rw [h41]
  refine aw_if_ge (tg := 10) (n := 7) dX8_again_4 (by decide) rfl (fun c_4 => ?_) (fun c_4 => by exact absurd (i_nlt.mp hnn) c_4)
  refine aw_aload_n (n := 11) dX8_again_10 rfl rfl ?_
  refine aw_geti (n := 14) dX8_again_11 fX8_178 E_164 rfl rfl ?_
  rw [hS.1]
  refine aw_sipush (n := 17) (v := 3000) dX8_again_14 (by decide) rfl ?_
  refine aw_icmp_ne (tg := 23) (n := 20) dX8_again_17 (by decide) rfl (fun c_17 => ?_) (fun c_17 => by exact absurd c_17 hn3)
  refine aw_aload_n (n := 24) dX8_again_23 rfl rfl ?_
  refine aw_v0 (d1 := d - 1) (n := 27) (Z := mX8_takeCounter) (ci := 6) (L0 := [_, .null]) dX8_again_24 kX8_takeCounter gX8_246 iyX8_takeCounter eyX8_takeCounter rfl rfl E_164 (Nat.le_of_ble_eq_true rfl) rfl rfl (by omega) (Nat.le_of_ble_eq_true rfl) (m_take (fun M1 f1 f2 f3 => ?_))
  dsimp only [aPush]
  have v1 : fV M M1 := ⟨fun q hq => f3 q (by omega) (by omega), by rw [f3 164 (by decide) (by decide)], by rw [f3 164 (by decide) (by decide)]⟩
  obtain ⟨A1, A2, A3, A4⟩ := mA_same hA v1
  have s1 : mS s M1 := mS_same hS (fun j _ _ => by rw [f3 164 (by decide) (by decide)]) (f3 185 (by decide) (by decide)) (f3 187 (by decide) (by decide)) (f3 188 (by decide) (by decide)) (f3 189 (by decide) (by decide))
  have h41' : M1 164 41 = nI k := s1.2.2.2.1.trans hfl
  refine aw_aload_n (n := 28) dX8_again_27 rfl rfl ?_
  refine aw_aload_n (n := 29) dX8_again_28 rfl rfl ?_
  refine aw_geti (n := 32) dX8_again_29 fX8_76 E_164 rfl rfl ?_
  rw [h41']
  refine aw_iconst (n := 33) (v := 0) dX8_again_32 (by decide) rfl ?_
  refine aw_v2 (d1 := d - 1) (n := 36) (Z := mX8_outcome) (ci := 6) (L0 := [_, _, _, .null, .null]) dX8_again_33 kX8_outcome gX8_224 iyX8_outcome eyX8_outcome rfl rfl E_164 rfl rfl (Nat.le_of_ble_eq_true rfl) rfl rfl (by omega) (Nat.le_of_ble_eq_true rfl) (m_outcome (T := T) (inp := s.2.2.2.2) (P := P k) (by omega) w1 w2 (by omega) A2 (A4 k hk) (w4 k hk) (Or.inl rfl) hty (fun i hi => kI_same (hc i hi).2 (f1 i hi) (fun j hj => f2 _ (by omega))) (fun M4 g4 g5 g6 => ?_))
  dsimp only [aPush]
  refine aw_iret dX8_again_36 rfl ?_
  have g6 : M4 185 = M1 185 := by rw [g6]; unfold labOn; rw [if_neg (fun q => absurd q.2.2 (by decide))]
  have t4 : ∀ j, 30 ≤ j → M4 164 j = M1 164 j := fun j hj => g4.2 j (by omega) (by omega) (by omega) (by omega) (by omega) (by omega) (by omega) (by omega)
  refine hQ M4 ⟨?_, fun j hj => ?_, fun j hj => ?_, ?_, fun hn i hi => ⟨?_, ?_⟩⟩ (fV_trans v1 (fT_V g4))
  · rw [g5, s1.1, nI_1]
  · rw [t4 _ (by omega)]; exact s1.2.1 j hj
  · rw [g6]; exact s1.2.2.1 j hj
  · rw [t4 _ (by omega)]; exact s1.2.2.2.1
  · rw [g4.1 187 (by omega)]; exact (s1.2.2.2.2 hn i hi).1
  · exact kI_same (s1.2.2.2.2 hn i hi).2 (by rw [g4.1 188 (by omega)]) (fun j _ => by rw [g4.1 189 (by omega)])
theorem m_counter {s : rS} {x y : Int32} (hd : 1 ≤ d) (hS : mS s M) (hQ : Q (some (.int (if s.2.2.2.1 < 0 ∨ x < 0 ∨ 3 ≤ x then -2147483648 else rd (s.2.2.2.2 x.toNatClampNeg) y))) EE M) : aw l K mX8_counter d 0 0 0 [.ref 164, .int x, .int y] [] EE M Q := by
  have h41 := hS.2.2.2.1
  by_cases hb : s.2.2.2.1 < 0 ∨ x < 0 ∨ 3 ≤ x
  · rw [if_pos hb] at hQ
    refine aw_aload_n (n := 1) dX8_counter_0 rfl rfl ?_
    refine aw_geti (n := 4) dX8_counter_1 fX8_76 E_164 rfl rfl ?_
    rw [h41]
    refine aw_if_lt (tg := 25) (n := 7) dX8_counter_4 (by decide) rfl (fun c_4 => ?_) (fun c_4 => ?_)
    · refine aw_ldc (n := 27) dX8_counter_25 qX8_199 rfl ?_
      refine aw_iret dX8_counter_27 rfl ?_
      exact hQ
    · refine aw_iload_n (n := 8) dX8_counter_7 rfl rfl ?_
      refine aw_iconst (n := 9) (v := 0) dX8_counter_8 (by decide) rfl ?_
      refine aw_iconst (n := 10) (v := 2) dX8_counter_9 (by decide) rfl ?_
      refine aw_s3 (d1 := d - 1) (n := 13) (Z := mX8_in) (L0 := [_, _, _]) dX8_counter_10 kX8_in gX8_95 syX8_in rfl rfl rfl (Nat.le_of_ble_eq_true rfl) rfl rfl (by omega) (Nat.le_of_ble_eq_true rfl) (m_in (fun hb => ?_) (fun hb1 hb2 => ?_))
      · dsimp only [aPush]
        refine aw_if_eq (tg := 25) (n := 16) dX8_counter_13 (by decide) rfl (fun c_13 => ?_) (fun c_13 => by exact absurd rfl c_13)
        refine aw_ldc (n := 27) dX8_counter_25 qX8_199 rfl ?_
        refine aw_iret dX8_counter_27 rfl ?_
        exact hQ
      · dsimp only [aPush]
        exact absurd hb (fun q => q.elim c_4 (fun q => q.elim hb1 (fun q => hb2 (lt2.mpr q))))
  · rw [if_neg hb] at hQ
    have h1 : ¬ s.2.2.2.1 < 0 := fun q => hb (Or.inl q)
    obtain ⟨i, hi, rfl⟩ := vp_lt (k := x) (n := 3) (by decide) (fun q => hb (Or.inr (Or.inl q))) (fun q => hb (Or.inr (Or.inr q)))
    have hii : (nI i).toNatClampNeg = i := nI_clamp (by omega)
    rw [hii] at hQ
    have hin : vp_in (nI i) 3 := vp_in_nI hi (by decide)
    obtain ⟨hty, hkI⟩ := hS.2.2.2.2 h1 i hi
    refine aw_aload_n (n := 1) dX8_counter_0 rfl rfl ?_
    refine aw_geti (n := 4) dX8_counter_1 fX8_76 E_164 rfl rfl ?_
    rw [h41]
    refine aw_if_lt (tg := 25) (n := 7) dX8_counter_4 (by decide) rfl (fun c_4 => by exact absurd c_4 h1) (fun c_4 => ?_)
    refine aw_iload_n (n := 8) dX8_counter_7 rfl rfl ?_
    refine aw_iconst (n := 9) (v := 0) dX8_counter_8 (by decide) rfl ?_
    refine aw_iconst (n := 10) (v := 2) dX8_counter_9 (by decide) rfl ?_
    refine aw_s3 (d1 := d - 1) (n := 13) (Z := mX8_in) (L0 := [_, _, _]) dX8_counter_10 kX8_in gX8_95 syX8_in rfl rfl rfl (Nat.le_of_ble_eq_true rfl) rfl rfl (by omega) (Nat.le_of_ble_eq_true rfl) (m_in (fun hb => ?_) (fun hb1 hb2 => ?_))
    · dsimp only [aPush]
      exact absurd hb (fun q => q.elim (nI_pos (by omega)) (fun q => absurd ((nI_ltI (a := 2) (by decide) (by omega)).mp q) (by omega)))
    · dsimp only [aPush]
      refine aw_if_eq (tg := 25) (n := 16) dX8_counter_13 (by decide) rfl (fun c_13 => by exact absurd c_13 (by decide)) (fun c_13 => ?_)
      rcases hv : s.2.2.2.2 i with _ | z | r
      · rw [hv] at hQ hty hkI
        have hty : M 187 i = -1 := hty
        refine aw_aload_n (n := 17) dX8_counter_16 rfl rfl ?_
        refine aw_getr (n := 20) dX8_counter_17 fX8_80 E_164 rfl rfl ?_
        refine aw_iload_n (n := 21) dX8_counter_20 rfl rfl ?_
        refine aw_iald (n := 22) dX8_counter_21 E_187 (by assumption) rfl ?_
        rw [hii, hty]
        refine aw_if_ge (tg := 28) (n := 25) dX8_counter_22 (by decide) rfl (fun c_22 => by first | exact absurd rfl c_22 | exact absurd c_22 (by decide)) (fun _ => ?_)
        refine aw_ldc (n := 27) dX8_counter_25 qX8_199 rfl ?_
        refine aw_iret dX8_counter_27 rfl ?_
        exact hQ
      · rw [hv] at hQ hty hkI
        have hty : M 187 i = 0 := hty
        have hx : M 188 i = z := hkI
        refine aw_aload_n (n := 17) dX8_counter_16 rfl rfl ?_
        refine aw_getr (n := 20) dX8_counter_17 fX8_80 E_164 rfl rfl ?_
        refine aw_iload_n (n := 21) dX8_counter_20 rfl rfl ?_
        refine aw_iald (n := 22) dX8_counter_21 E_187 (by assumption) rfl ?_
        rw [hii, hty]
        refine aw_if_ge (tg := 28) (n := 25) dX8_counter_22 (by decide) rfl (fun _ => ?_) (fun c_22 => by first | exact absurd rfl c_22 | exact absurd c_22 (by decide))
        refine aw_iload_n (n := 29) dX8_counter_28 rfl rfl ?_
        refine aw_iconst (n := 30) (v := -1) dX8_counter_29 (by decide) rfl ?_
        refine aw_icmp_ne (tg := 40) (n := 33) dX8_counter_30 (by decide) rfl (fun c_30 => ?_) (fun c_30 => ?_)
        · refine aw_aload_n (n := 41) dX8_counter_40 rfl rfl ?_
          refine aw_getr (n := 44) dX8_counter_41 fX8_80 E_164 rfl rfl ?_
          refine aw_iload_n (n := 45) dX8_counter_44 rfl rfl ?_
          refine aw_iald (n := 46) dX8_counter_45 E_187 (by assumption) rfl ?_
          rw [hii, hty]
          refine aw_iconst (n := 47) (v := 1) dX8_counter_46 (by decide) rfl ?_
          refine aw_icmp_ne (tg := 80) (n := 50) dX8_counter_47 (by decide) rfl (fun _ => ?_) (fun c_47 => by first | exact absurd rfl c_47 | exact absurd c_47 (by decide))
          refine aw_ldc (n := 82) dX8_counter_80 qX8_199 rfl ?_
          refine aw_iret dX8_counter_82 rfl ?_
          rw [show rd (some (.inl z)) y = -2147483648 from if_neg c_30] at hQ; exact hQ
        · refine aw_aload_n (n := 34) dX8_counter_33 rfl rfl ?_
          refine aw_getr (n := 37) dX8_counter_34 fX8_83 E_164 rfl rfl ?_
          refine aw_iload_n (n := 38) dX8_counter_37 rfl rfl ?_
          refine aw_iald (n := 39) dX8_counter_38 E_188 (by assumption) rfl ?_
          rw [hii, hx]
          refine aw_iret dX8_counter_39 rfl ?_
          rw [show rd (some (.inl z)) y = z from if_pos c_30] at hQ; exact hQ
      · rw [hv] at hQ hty hkI
        have hty : M 187 i = 1 := hty
        obtain ⟨h16, h188, h189⟩ := hkI
        have hrd := rd_r (k := y) h16
        refine aw_aload_n (n := 17) dX8_counter_16 rfl rfl ?_
        refine aw_getr (n := 20) dX8_counter_17 fX8_80 E_164 rfl rfl ?_
        refine aw_iload_n (n := 21) dX8_counter_20 rfl rfl ?_
        refine aw_iald (n := 22) dX8_counter_21 E_187 (by assumption) rfl ?_
        rw [hii, hty]
        refine aw_if_ge (tg := 28) (n := 25) dX8_counter_22 (by decide) rfl (fun _ => ?_) (fun c_22 => by first | exact absurd rfl c_22 | exact absurd c_22 (by decide))
        refine aw_iload_n (n := 29) dX8_counter_28 rfl rfl ?_
        refine aw_iconst (n := 30) (v := -1) dX8_counter_29 (by decide) rfl ?_
        refine aw_icmp_ne (tg := 40) (n := 33) dX8_counter_30 (by decide) rfl (fun c_30 => ?_) (fun c_30 => ?_)
        · refine aw_aload_n (n := 41) dX8_counter_40 rfl rfl ?_
          refine aw_getr (n := 44) dX8_counter_41 fX8_80 E_164 rfl rfl ?_
          refine aw_iload_n (n := 45) dX8_counter_44 rfl rfl ?_
          refine aw_iald (n := 46) dX8_counter_45 E_187 (by assumption) rfl ?_
          rw [hii, hty]
          refine aw_iconst (n := 47) (v := 1) dX8_counter_46 (by decide) rfl ?_
          refine aw_icmp_ne (tg := 80) (n := 50) dX8_counter_47 (by decide) rfl (fun c_47 => by first | exact absurd rfl c_47 | exact absurd c_47 (by decide)) (fun _ => ?_)
          refine aw_iload_n (n := 51) dX8_counter_50 rfl rfl ?_
          refine aw_iconst (n := 52) (v := 0) dX8_counter_51 (by decide) rfl ?_
          refine aw_aload_n (n := 53) dX8_counter_52 rfl rfl ?_
          refine aw_getr (n := 56) dX8_counter_53 fX8_83 E_164 rfl rfl ?_
          refine aw_iload_n (n := 57) dX8_counter_56 rfl rfl ?_
          refine aw_iald (n := 58) dX8_counter_57 E_188 (by assumption) rfl ?_
          rw [hii, h188]
          refine aw_iconst (n := 59) (v := 1) dX8_counter_58 (by decide) rfl ?_
          refine aw_isub (n := 60) dX8_counter_59 rfl ?_
          refine aw_s3 (d1 := d - 1) (n := 63) (Z := mX8_in) (L0 := [_, _, _]) dX8_counter_60 kX8_in gX8_95 syX8_in rfl rfl rfl (Nat.le_of_ble_eq_true rfl) rfl rfl (by omega) (Nat.le_of_ble_eq_true rfl) (m_in (fun hb => ?_) (fun hb1 hb2 => ?_))
          · dsimp only [aPush]
            refine aw_if_eq (tg := 80) (n := 66) dX8_counter_63 (by decide) rfl (fun c_63 => ?_) (fun c_63 => by exact absurd rfl c_63)
            refine aw_ldc (n := 82) dX8_counter_80 qX8_199 rfl ?_
            refine aw_iret dX8_counter_82 rfl ?_
            rw [hrd.2.1 c_30 hb] at hQ; exact hQ
          · dsimp only [aPush]
            refine aw_if_eq (tg := 80) (n := 66) dX8_counter_63 (by decide) rfl (fun c_63 => by exact absurd c_63 (by decide)) (fun c_63 => ?_)
            obtain ⟨j, hj, rfl⟩ := vp_lt (k := y) (n := r.length) (by omega) hb1 (fun q => hb2 ((nI_p1 (by omega)).mpr q))
            have hinj : vp_in (nI (16 * i + j)) 48 := vp_in_nI (by omega) (by decide)
            have hjj : (nI (16 * i + j)).toNatClampNeg = 16 * i + j := nI_clamp (by omega)
            have ek : (16 : Int32) * nI i + nI j = nI (16 * i + j) := by rw [show (16 : Int32) = nI 16 from rfl, pk_mul, nI_add]
            rw [hrd.2.2 j hj rfl] at hQ
            refine aw_aload_n (n := 67) dX8_counter_66 rfl rfl ?_
            refine aw_getr (n := 70) dX8_counter_67 fX8_86 E_164 rfl rfl ?_
            refine aw_bipush (n := 72) (v := 16) dX8_counter_70 (by decide) rfl ?_
            refine aw_iload_n (n := 73) dX8_counter_72 rfl rfl ?_
            refine aw_imul (n := 74) dX8_counter_73 rfl ?_
            refine aw_iload_n (n := 75) dX8_counter_74 rfl rfl ?_
            refine aw_iadd (n := 76) dX8_counter_75 rfl ?_
            rw [ek]
            refine aw_iald (n := 77) dX8_counter_76 E_189 (by assumption) rfl ?_
            rw [hjj, h189 j hj]
            refine aw_goto (n := 82) dX8_counter_77 (by decide) ?_
            refine aw_iret dX8_counter_82 rfl ?_
            exact hQ
        · refine aw_aload_n (n := 34) dX8_counter_33 rfl rfl ?_
          refine aw_getr (n := 37) dX8_counter_34 fX8_83 E_164 rfl rfl ?_
          refine aw_iload_n (n := 38) dX8_counter_37 rfl rfl ?_
          refine aw_iald (n := 39) dX8_counter_38 E_188 (by assumption) rfl ?_
          rw [hii, h188]
          refine aw_iret dX8_counter_39 rfl ?_
          rw [hrd.1 c_30] at hQ; exact hQ
theorem m_drawnBad {seed c i ty k : Int32} (hd : 1 ≤ d) (hb : drB c i ty = false) (hQ : Q (some (.int (-2147483648))) EE M) : aw l K mX8_drawn d 0 0 0 [.ref 164, .int seed, .int c, .int i, .int ty, .int k] [] EE M Q := by
  refine aw_iload_n (n := 1) dX8_drawn_0 rfl rfl ?_
  refine aw_iconst (n := 2) (v := 0) dX8_drawn_1 (by decide) rfl ?_
  refine aw_sipush (n := 5) (v := 199) dX8_drawn_2 (by decide) rfl ?_
  refine aw_s3 (d1 := d - 1) (n := 8) (Z := mX8_in) (L0 := [_, _, _]) dX8_drawn_5 kX8_in gX8_95 syX8_in rfl rfl rfl (Nat.le_of_ble_eq_true rfl) rfl rfl (by omega) (Nat.le_of_ble_eq_true rfl) (m_in (fun hb => ?_) (fun hc1 hc2 => ?_))
  · dsimp only [aPush]
    refine aw_if_eq (tg := 30) (n := 11) dX8_drawn_8 (by decide) rfl (fun c_8 => ?_) (fun c_8 => by exact absurd rfl c_8)
    refine aw_ldc (n := 32) dX8_drawn_30 qX8_199 rfl ?_
    refine aw_iret dX8_drawn_32 rfl ?_
    exact hQ
  · dsimp only [aPush]
    refine aw_if_eq (tg := 30) (n := 11) dX8_drawn_8 (by decide) rfl (fun c_8 => by exact absurd c_8 (by decide)) (fun c_8 => ?_)
    refine aw_iload_n (n := 12) dX8_drawn_11 rfl rfl ?_
    refine aw_iconst (n := 13) (v := 0) dX8_drawn_12 (by decide) rfl ?_
    refine aw_iconst (n := 14) (v := 2) dX8_drawn_13 (by decide) rfl ?_
    refine aw_s3 (d1 := d - 1) (n := 17) (Z := mX8_in) (L0 := [_, _, _]) dX8_drawn_14 kX8_in gX8_95 syX8_in rfl rfl rfl (Nat.le_of_ble_eq_true rfl) rfl rfl (by omega) (Nat.le_of_ble_eq_true rfl) (m_in (fun hb => ?_) (fun hi1 hi2 => ?_))
    · dsimp only [aPush]
      refine aw_if_eq (tg := 30) (n := 20) dX8_drawn_17 (by decide) rfl (fun c_17 => ?_) (fun c_17 => by exact absurd rfl c_17)
      refine aw_ldc (n := 32) dX8_drawn_30 qX8_199 rfl ?_
      refine aw_iret dX8_drawn_32 rfl ?_
      exact hQ
    · dsimp only [aPush]
      refine aw_if_eq (tg := 30) (n := 20) dX8_drawn_17 (by decide) rfl (fun c_17 => by exact absurd c_17 (by decide)) (fun c_17 => ?_)
      refine aw_iload (n := 22) dX8_drawn_20 rfl rfl ?_
      refine aw_iconst (n := 23) (v := 0) dX8_drawn_22 (by decide) rfl ?_
      refine aw_iconst (n := 24) (v := 1) dX8_drawn_23 (by decide) rfl ?_
      refine aw_s3 (d1 := d - 1) (n := 27) (Z := mX8_in) (L0 := [_, _, _]) dX8_drawn_24 kX8_in gX8_95 syX8_in rfl rfl rfl (Nat.le_of_ble_eq_true rfl) rfl rfl (by omega) (Nat.le_of_ble_eq_true rfl) (m_in (fun hb => ?_) (fun ht1 ht2 => ?_))
      · dsimp only [aPush]
        refine aw_if_ne (tg := 33) (n := 30) dX8_drawn_27 (by decide) rfl (fun c_27 => by exact absurd rfl c_27) (fun c_27 => ?_)
        refine aw_ldc (n := 32) dX8_drawn_30 qX8_199 rfl ?_
        refine aw_iret dX8_drawn_32 rfl ?_
        exact hQ
      · dsimp only [aPush]
        exact absurd hb (by unfold drB; rw [decide_eq_true hc1, decide_eq_true (p := ¬ 200 ≤ c) (fun q => hc2 (lt199.mpr q)), decide_eq_true hi1, decide_eq_true (p := ¬ 3 ≤ i) (fun q => hi2 (lt2.mpr q)), decide_eq_true ht1, decide_eq_true ht2]; decide)
theorem m_drawn {c i : Nat} {seed ty k : Int32} (hd : 3 ≤ d) (hc : c < 200) (hi : i < 3) (hty : ¬ ty < 0 ∧ ¬ 1 < ty) (hQ : ∀ M', fD M M' → Q (some (.int (rd (drw seed c i ty) k))) EE M') : aw l K mX8_drawn d 0 0 0 [.ref 164, .int seed, .int (nI c), .int (nI i), .int ty, .int k] [] EE M Q := by
  have ht := t01 hty
  refine aw_iload_n (n := 1) dX8_drawn_0 rfl rfl ?_
  refine aw_iconst (n := 2) (v := 0) dX8_drawn_1 (by decide) rfl ?_
  refine aw_sipush (n := 5) (v := 199) dX8_drawn_2 (by decide) rfl ?_
  refine aw_s3 (d1 := d - 1) (n := 8) (Z := mX8_in) (L0 := [_, _, _]) dX8_drawn_5 kX8_in gX8_95 syX8_in rfl rfl rfl (Nat.le_of_ble_eq_true rfl) rfl rfl (by omega) (Nat.le_of_ble_eq_true rfl) (m_in (fun hb => ?_) (fun hc1 hc2 => ?_))
  · dsimp only [aPush]
    exact absurd hb (fun q => q.elim (nI_pos (by omega)) (fun q => absurd ((nI_ltI (a := 199) (by decide) (by omega)).mp q) (by omega)))
  · dsimp only [aPush]
    refine aw_if_eq (tg := 30) (n := 11) dX8_drawn_8 (by decide) rfl (fun c_8 => by exact absurd c_8 (by decide)) (fun c_8 => ?_)
    refine aw_iload_n (n := 12) dX8_drawn_11 rfl rfl ?_
    refine aw_iconst (n := 13) (v := 0) dX8_drawn_12 (by decide) rfl ?_
    refine aw_iconst (n := 14) (v := 2) dX8_drawn_13 (by decide) rfl ?_
    refine aw_s3 (d1 := d - 1) (n := 17) (Z := mX8_in) (L0 := [_, _, _]) dX8_drawn_14 kX8_in gX8_95 syX8_in rfl rfl rfl (Nat.le_of_ble_eq_true rfl) rfl rfl (by omega) (Nat.le_of_ble_eq_true rfl) (m_in (fun hb => ?_) (fun hi1 hi2 => ?_))
    · dsimp only [aPush]
      exact absurd hb (fun q => q.elim (nI_pos (by omega)) (fun q => absurd ((nI_ltI (a := 2) (by decide) (by omega)).mp q) (by omega)))
    · dsimp only [aPush]
      refine aw_if_eq (tg := 30) (n := 20) dX8_drawn_17 (by decide) rfl (fun c_17 => by exact absurd c_17 (by decide)) (fun c_17 => ?_)
      refine aw_iload (n := 22) dX8_drawn_20 rfl rfl ?_
      refine aw_iconst (n := 23) (v := 0) dX8_drawn_22 (by decide) rfl ?_
      refine aw_iconst (n := 24) (v := 1) dX8_drawn_23 (by decide) rfl ?_
      refine aw_s3 (d1 := d - 1) (n := 27) (Z := mX8_in) (L0 := [_, _, _]) dX8_drawn_24 kX8_in gX8_95 syX8_in rfl rfl rfl (Nat.le_of_ble_eq_true rfl) rfl rfl (by omega) (Nat.le_of_ble_eq_true rfl) (m_in (fun hb => ?_) (fun ht1 ht2 => ?_))
      · dsimp only [aPush]
        exact absurd hb (fun q => q.elim hty.1 hty.2)
      · dsimp only [aPush]
        refine aw_if_ne (tg := 33) (n := 30) dX8_drawn_27 (by decide) rfl (fun c_27 => ?_) (fun c_27 => by exact absurd c_27 (by decide))
        refine aw_aload_n (n := 34) dX8_drawn_33 rfl rfl ?_
        refine aw_iload_n (n := 35) dX8_drawn_34 rfl rfl ?_
        refine aw_iload_n (n := 36) dX8_drawn_35 rfl rfl ?_
        refine aw_iload_n (n := 37) dX8_drawn_36 rfl rfl ?_
        refine aw_iload (n := 39) dX8_drawn_37 rfl rfl ?_
        refine aw_v4 (d1 := d - 1) (n := 42) (Z := mX8_draw) (ci := 6) (L0 := [_, _, _, _, _, .null, .null, .null]) dX8_drawn_39 kX8_draw gX8_200 iyX8_draw eyX8_draw rfl rfl E_164 rfl rfl rfl rfl (Nat.le_of_ble_eq_true rfl) rfl rfl (by omega) (Nat.le_of_ble_eq_true rfl) (m_draw (by omega) hc hi ht (fun M1 g1 g2 g3 => ?_))
        dsimp only [aPush]
        have hQ1 := hQ M1 ⟨fun q a _ _ b => g3 q a b, g2⟩
        rcases ht with rfl | rfl
        · obtain ⟨z, hz⟩ : ∃ z, drw seed c i 0 = some (.inl z) := ⟨_, rfl⟩
          rw [hz] at g1 hQ1
          have g1 : M1 164 31 = z := g1
          refine aw_iload (n := 44) dX8_drawn_42 rfl rfl ?_
          refine aw_iconst (n := 45) (v := -1) dX8_drawn_44 (by decide) rfl ?_
          refine aw_icmp_ne (tg := 53) (n := 48) dX8_drawn_45 (by decide) rfl (fun c_45 => ?_) (fun c_45 => ?_)
          · refine aw_iload (n := 55) dX8_drawn_53 rfl rfl ?_
            refine aw_iconst (n := 56) (v := 1) dX8_drawn_55 (by decide) rfl ?_
            refine aw_icmp_ne (tg := 84) (n := 59) dX8_drawn_56 (by decide) rfl (fun _ => ?_) (fun c_56 => by first | exact absurd rfl c_56 | exact absurd c_56 (by decide))
            refine aw_ldc (n := 86) dX8_drawn_84 qX8_199 rfl ?_
            refine aw_iret dX8_drawn_86 rfl ?_
            rw [show rd (some (.inl z)) k = -2147483648 from if_neg c_45] at hQ1; exact hQ1
          · refine aw_aload_n (n := 49) dX8_drawn_48 rfl rfl ?_
            refine aw_geti (n := 52) dX8_drawn_49 fX8_196 E_164 rfl rfl ?_
            rw [g1]
            refine aw_iret dX8_drawn_52 rfl ?_
            rw [show rd (some (.inl z)) k = z from if_pos c_45] at hQ1; exact hQ1
        · obtain ⟨r, hr⟩ : ∃ r, drw seed c i 1 = some (.inr r) := ⟨_, rfl⟩
          rw [hr] at g1 hQ1
          obtain ⟨h16, h31, h186⟩ := g1
          have hrd := rd_r (k := k) h16
          refine aw_iload (n := 44) dX8_drawn_42 rfl rfl ?_
          refine aw_iconst (n := 45) (v := -1) dX8_drawn_44 (by decide) rfl ?_
          refine aw_icmp_ne (tg := 53) (n := 48) dX8_drawn_45 (by decide) rfl (fun c_45 => ?_) (fun c_45 => ?_)
          · refine aw_iload (n := 55) dX8_drawn_53 rfl rfl ?_
            refine aw_iconst (n := 56) (v := 1) dX8_drawn_55 (by decide) rfl ?_
            refine aw_icmp_ne (tg := 84) (n := 59) dX8_drawn_56 (by decide) rfl (fun c_56 => by first | exact absurd rfl c_56 | exact absurd c_56 (by decide)) (fun _ => ?_)
            refine aw_iload (n := 61) dX8_drawn_59 rfl rfl ?_
            refine aw_iconst (n := 62) (v := 0) dX8_drawn_61 (by decide) rfl ?_
            refine aw_aload_n (n := 63) dX8_drawn_62 rfl rfl ?_
            refine aw_geti (n := 66) dX8_drawn_63 fX8_196 E_164 rfl rfl ?_
            rw [h31]
            refine aw_iconst (n := 67) (v := 1) dX8_drawn_66 (by decide) rfl ?_
            refine aw_isub (n := 68) dX8_drawn_67 rfl ?_
            refine aw_s3 (d1 := d - 1) (n := 71) (Z := mX8_in) (L0 := [_, _, _]) dX8_drawn_68 kX8_in gX8_95 syX8_in rfl rfl rfl (Nat.le_of_ble_eq_true rfl) rfl rfl (by omega) (Nat.le_of_ble_eq_true rfl) (m_in (fun hb => ?_) (fun hb1 hb2 => ?_))
            · dsimp only [aPush]
              refine aw_if_eq (tg := 84) (n := 74) dX8_drawn_71 (by decide) rfl (fun c_71 => ?_) (fun c_71 => by exact absurd rfl c_71)
              refine aw_ldc (n := 86) dX8_drawn_84 qX8_199 rfl ?_
              refine aw_iret dX8_drawn_86 rfl ?_
              rw [hrd.2.1 c_45 hb] at hQ1; exact hQ1
            · dsimp only [aPush]
              refine aw_if_eq (tg := 84) (n := 74) dX8_drawn_71 (by decide) rfl (fun c_71 => by exact absurd c_71 (by decide)) (fun c_71 => ?_)
              obtain ⟨j, hj, rfl⟩ := vp_lt (k := k) (n := r.length) (by omega) hb1 (fun q => hb2 ((nI_p1 (by omega)).mpr q))
              have hinj : vp_in (nI j) 16 := vp_in_nI (by omega) (by decide)
              have hjj : (nI j).toNatClampNeg = j := nI_clamp (by omega)
              rw [hrd.2.2 j hj rfl] at hQ1
              refine aw_aload_n (n := 75) dX8_drawn_74 rfl rfl ?_
              refine aw_getr (n := 78) dX8_drawn_75 fX8_73 E_164 rfl rfl ?_
              refine aw_iload (n := 80) dX8_drawn_78 rfl rfl ?_
              refine aw_iald (n := 81) dX8_drawn_80 E_186 (by assumption) rfl ?_
              rw [hjj, h186 j hj]
              refine aw_goto (n := 86) dX8_drawn_81 (by decide) ?_
              refine aw_iret dX8_drawn_86 rfl ?_
              exact hQ1
          · refine aw_aload_n (n := 49) dX8_drawn_48 rfl rfl ?_
            refine aw_geti (n := 52) dX8_drawn_49 fX8_196 E_164 rfl rfl ?_
            rw [h31]
            refine aw_iret dX8_drawn_52 rfl ?_
            rw [hrd.1 c_45] at hQ1; exact hQ1
theorem m_label {s : rS} {x : Int32} (hd : 1 ≤ d) (hS : mS s M) (hQ : Q (some (.int (if x < 0 ∨ 9 ≤ x then -1 else s.2.2.1 x.toNatClampNeg))) EE M) : aw l K mX8_label d 0 0 0 [.ref 164, .int x] [] EE M Q := by
  refine aw_iload_n (n := 1) dX8_label_0 rfl rfl ?_
  refine aw_iconst (n := 2) (v := 0) dX8_label_1 (by decide) rfl ?_
  refine aw_bipush (n := 4) (v := 8) dX8_label_2 (by decide) rfl ?_
  refine aw_s3 (d1 := d - 1) (n := 7) (Z := mX8_in) (L0 := [_, _, _]) dX8_label_4 kX8_in gX8_95 syX8_in rfl rfl rfl (Nat.le_of_ble_eq_true rfl) rfl rfl (by omega) (Nat.le_of_ble_eq_true rfl) (m_in (fun hb => ?_) (fun hb1 hb2 => ?_))
  · dsimp only [aPush]
    refine aw_if_eq (tg := 19) (n := 10) dX8_label_7 (by decide) rfl (fun c_7 => ?_) (fun c_7 => by exact absurd rfl c_7)
    refine aw_iconst (n := 20) (v := -1) dX8_label_19 (by decide) rfl ?_
    refine aw_iret dX8_label_20 rfl ?_
    rw [if_pos (hb.imp_right (fun q => lt8.mp q))] at hQ; exact hQ
  · dsimp only [aPush]
    refine aw_if_eq (tg := 19) (n := 10) dX8_label_7 (by decide) rfl (fun c_7 => by exact absurd c_7 (by decide)) (fun c_7 => ?_)
    have hn : ¬ (x < 0 ∨ 9 ≤ x) := fun q => q.elim hb1 (fun q => hb2 (lt8.mpr q))
    rw [if_neg hn] at hQ
    obtain ⟨j, hj, rfl⟩ := vp_lt (k := x) (n := 9) (by decide) hb1 (fun q => hn (Or.inr q))
    have hin : vp_in (nI j) 9 := vp_in_nI hj (by decide)
    have hjj : (nI j).toNatClampNeg = j := nI_clamp (by omega)
    rw [hjj] at hQ
    refine aw_aload_n (n := 11) dX8_label_10 rfl rfl ?_
    refine aw_getr (n := 14) dX8_label_11 fX8_70 E_164 rfl rfl ?_
    refine aw_iload_n (n := 15) dX8_label_14 rfl rfl ?_
    refine aw_iald (n := 16) dX8_label_15 E_185 (by assumption) rfl ?_
    rw [hjj, hS.2.2.1 j hj]
    refine aw_goto (n := 20) dX8_label_16 (by decide) ?_
    refine aw_iret dX8_label_20 rfl ?_
    exact hQ
theorem m_told {cnt np : Nat} {T : tm} {P : Nat → pr} {s : rS} {x : Int32} (hA : mA cnt T np P M) (hS : mS s M) (hQ : Q (some (.int (toldS cnt np s x))) EE M) : aw l K mX8_told d 0 0 0 [.ref 164, .int x] [] EE M Q := by
  by_cases hb : x < 0 ∨ 11 ≤ x
  · rw [show toldS cnt np s x = -1 from if_pos hb] at hQ
    have hx : x.toInt < 0 ∨ 11 ≤ x.toInt := hb.elim (fun q => Or.inl (by rw [Int32.lt_iff_toInt_lt, ti_0] at q; exact q)) (fun q => Or.inr (by rw [Int32.le_iff_toInt_le] at q; exact q))
    refine aw_iload_n (n := 1) dX8_told_0 rfl rfl ?_
    refine aw_tswOut (n := 115) dX8_told_1 (by omega) (by decide) ?_
    refine aw_iconst (n := 116) (v := -1) dX8_told_115 (by decide) rfl ?_
    refine aw_iret dX8_told_116 rfl ?_
    exact hQ
  · obtain ⟨j, hj, rfl⟩ := vp_lt (k := x) (n := 11) (by decide) (fun q => hb (Or.inl q)) (fun q => hb (Or.inr q))
    have ht : toldS cnt np s (nI j) = if nI j = 8 then nI cnt else if nI j = 9 then nI np else if nI j = 10 then nI s.1 else s.2.1 j := by
      rw [show toldS cnt np s (nI j) = _ from if_neg hb, nI_clamp (by omega)]
    rw [ht] at hQ
    rcases (show j = 0 ∨ j = 1 ∨ j = 2 ∨ j = 3 ∨ j = 4 ∨ j = 5 ∨ j = 6 ∨ j = 7 ∨ j = 8 ∨ j = 9 ∨ j = 10 by omega) with rfl | rfl | rfl | rfl | rfl | rfl | rfl | rfl | rfl | rfl | rfl
    · rw [if_neg (by decide), if_neg (by decide), if_neg (by decide)] at hQ
      have hm : M 164 33 = s.2.1 0 := hS.2.1 0 (by decide)
      refine aw_iload_n (n := 1) dX8_told_0 rfl rfl ?_
      refine aw_tswIn (n := 60) (off := 59) dX8_told_1 (by decide) (by decide) (by decide) (by decide) ?_
      refine aw_aload_n (n := 61) dX8_told_60 rfl rfl ?_
      refine aw_geti (n := 64) dX8_told_61 fX8_203 E_164 rfl rfl ?_
      refine aw_iret dX8_told_64 rfl ?_
      rw [hm]; exact hQ
    · rw [if_neg (by decide), if_neg (by decide), if_neg (by decide)] at hQ
      have hm : M 164 34 = s.2.1 1 := hS.2.1 1 (by decide)
      refine aw_iload_n (n := 1) dX8_told_0 rfl rfl ?_
      refine aw_tswIn (n := 65) (off := 64) dX8_told_1 (by decide) (by decide) (by decide) (by decide) ?_
      refine aw_aload_n (n := 66) dX8_told_65 rfl rfl ?_
      refine aw_geti (n := 69) dX8_told_66 fX8_206 E_164 rfl rfl ?_
      refine aw_iret dX8_told_69 rfl ?_
      rw [hm]; exact hQ
    · rw [if_neg (by decide), if_neg (by decide), if_neg (by decide)] at hQ
      have hm : M 164 35 = s.2.1 2 := hS.2.1 2 (by decide)
      refine aw_iload_n (n := 1) dX8_told_0 rfl rfl ?_
      refine aw_tswIn (n := 70) (off := 69) dX8_told_1 (by decide) (by decide) (by decide) (by decide) ?_
      refine aw_aload_n (n := 71) dX8_told_70 rfl rfl ?_
      refine aw_geti (n := 74) dX8_told_71 fX8_209 E_164 rfl rfl ?_
      refine aw_iret dX8_told_74 rfl ?_
      rw [hm]; exact hQ
    · rw [if_neg (by decide), if_neg (by decide), if_neg (by decide)] at hQ
      have hm : M 164 36 = s.2.1 3 := hS.2.1 3 (by decide)
      refine aw_iload_n (n := 1) dX8_told_0 rfl rfl ?_
      refine aw_tswIn (n := 75) (off := 74) dX8_told_1 (by decide) (by decide) (by decide) (by decide) ?_
      refine aw_aload_n (n := 76) dX8_told_75 rfl rfl ?_
      refine aw_geti (n := 79) dX8_told_76 fX8_212 E_164 rfl rfl ?_
      refine aw_iret dX8_told_79 rfl ?_
      rw [hm]; exact hQ
    · rw [if_neg (by decide), if_neg (by decide), if_neg (by decide)] at hQ
      have hm : M 164 37 = s.2.1 4 := hS.2.1 4 (by decide)
      refine aw_iload_n (n := 1) dX8_told_0 rfl rfl ?_
      refine aw_tswIn (n := 80) (off := 79) dX8_told_1 (by decide) (by decide) (by decide) (by decide) ?_
      refine aw_aload_n (n := 81) dX8_told_80 rfl rfl ?_
      refine aw_geti (n := 84) dX8_told_81 fX8_89 E_164 rfl rfl ?_
      refine aw_iret dX8_told_84 rfl ?_
      rw [hm]; exact hQ
    · rw [if_neg (by decide), if_neg (by decide), if_neg (by decide)] at hQ
      have hm : M 164 38 = s.2.1 5 := hS.2.1 5 (by decide)
      refine aw_iload_n (n := 1) dX8_told_0 rfl rfl ?_
      refine aw_tswIn (n := 85) (off := 84) dX8_told_1 (by decide) (by decide) (by decide) (by decide) ?_
      refine aw_aload_n (n := 86) dX8_told_85 rfl rfl ?_
      refine aw_geti (n := 89) dX8_told_86 fX8_215 E_164 rfl rfl ?_
      refine aw_iret dX8_told_89 rfl ?_
      rw [hm]; exact hQ
    · rw [if_neg (by decide), if_neg (by decide), if_neg (by decide)] at hQ
      have hm : M 164 39 = s.2.1 6 := hS.2.1 6 (by decide)
      refine aw_iload_n (n := 1) dX8_told_0 rfl rfl ?_
      refine aw_tswIn (n := 90) (off := 89) dX8_told_1 (by decide) (by decide) (by decide) (by decide) ?_
      refine aw_aload_n (n := 91) dX8_told_90 rfl rfl ?_
      refine aw_geti (n := 94) dX8_told_91 fX8_218 E_164 rfl rfl ?_
      refine aw_iret dX8_told_94 rfl ?_
      rw [hm]; exact hQ
    · rw [if_neg (by decide), if_neg (by decide), if_neg (by decide)] at hQ
      have hm : M 164 40 = s.2.1 7 := hS.2.1 7 (by decide)
      refine aw_iload_n (n := 1) dX8_told_0 rfl rfl ?_
      refine aw_tswIn (n := 95) (off := 94) dX8_told_1 (by decide) (by decide) (by decide) (by decide) ?_
      refine aw_aload_n (n := 96) dX8_told_95 rfl rfl ?_
      refine aw_geti (n := 99) dX8_told_96 fX8_221 E_164 rfl rfl ?_
      refine aw_iret dX8_told_99 rfl ?_
      rw [hm]; exact hQ
    · rw [if_pos (by decide)] at hQ
      have hm : M 164 0 = nI cnt := hA.1
      refine aw_iload_n (n := 1) dX8_told_0 rfl rfl ?_
      refine aw_tswIn (n := 100) (off := 99) dX8_told_1 (by decide) (by decide) (by decide) (by decide) ?_
      refine aw_aload_n (n := 101) dX8_told_100 rfl rfl ?_
      refine aw_geti (n := 104) dX8_told_101 fX8_92 E_164 rfl rfl ?_
      refine aw_iret dX8_told_104 rfl ?_
      rw [hm]; exact hQ
    · rw [if_neg (by decide), if_pos (by decide)] at hQ
      have hm : M 164 23 = nI np := hA.2.2.1
      refine aw_iload_n (n := 1) dX8_told_0 rfl rfl ?_
      refine aw_tswIn (n := 105) (off := 104) dX8_told_1 (by decide) (by decide) (by decide) (by decide) ?_
      refine aw_aload_n (n := 106) dX8_told_105 rfl rfl ?_
      refine aw_geti (n := 109) dX8_told_106 fX8_175 E_164 rfl rfl ?_
      refine aw_iret dX8_told_109 rfl ?_
      rw [hm]; exact hQ
    · rw [if_neg (by decide), if_neg (by decide), if_pos (by decide)] at hQ
      have hm : M 164 29 = nI s.1 := hS.1
      refine aw_iload_n (n := 1) dX8_told_0 rfl rfl ?_
      refine aw_tswIn (n := 110) (off := 109) dX8_told_1 (by decide) (by decide) (by decide) (by decide) ?_
      refine aw_aload_n (n := 111) dX8_told_110 rfl rfl ?_
      refine aw_geti (n := 114) dX8_told_111 fX8_178 E_164 rfl rfl ?_
      refine aw_iret dX8_told_114 rfl ?_
      rw [hm]; exact hQ
end MPUB
