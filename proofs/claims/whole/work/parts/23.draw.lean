theorem remI (x : Int32) {m : Nat} (h0 : 0 < m) (hm : m < 2 ^ 30) : (x - x / nI m * nI m).toInt = x.toInt.tmod (m : Int) := by
  have hmI : (nI m).toInt = (m : Int) := nI_toInt (by omega)
  have hne : nI m ≠ -1 := fun q => by
    have := congrArg Int32.toInt q
    rw [hmI, ti_m1] at this
    omega
  rw [Int32.toInt_sub, Int32.toInt_mul, Int32.toInt_div_of_ne_right _ _ hne, hmI, Int.sub_bmod_bmod]
  have e : x.toInt - x.toInt.tdiv (m : Int) * (m : Int) = x.toInt.tmod (m : Int) := by
    rw [Int.tmod_def, Int.mul_comm]
  rw [e]
  have h1 := Int.tmod_lt_of_pos x.toInt (b := (m : Int)) (by omega)
  have h2 := Int.lt_tmod_of_pos x.toInt (b := (m : Int)) (by omega)
  exact Int.bmod_eq_of_le (by omega) (by omega)
theorem md_lt (x : Int32) {m : Nat} (h0 : 0 < m) : md x m < m := by
  unfold md
  have h1 := Int.emod_lt_of_pos x.toInt (b := (m : Int)) (by omega)
  have h2 := Int.emod_nonneg x.toInt (b := (m : Int)) (by omega)
  omega
theorem md_tmod (x : Int32) {m : Nat} (h0 : 0 < m) : (md x m : Int) = if x.toInt.tmod (m : Int) < 0 then x.toInt.tmod (m : Int) + m else x.toInt.tmod (m : Int) := by
  unfold md
  have h1 := Int.emod_lt_of_pos x.toInt (b := (m : Int)) (by omega)
  have h2 := Int.emod_nonneg x.toInt (b := (m : Int)) (by omega)
  have h3 := Int.tmod_eq_emod (a := x.toInt) (b := (m : Int))
  rw [Int.toNat_of_nonneg h2]
  have h4 : ((m : Int)).natAbs = m := Int.natAbs_natCast m
  split at h3
  · rw [if_neg (by omega)]; omega
  · rename_i h5
    have h6 : ¬ (x.toInt % (m : Int) = 0) := fun q => h5 (Or.inr (Int.dvd_of_emod_eq_zero q))
    rw [if_pos (by omega)]; omega
theorem md_pos (x : Int32) {m : Nat} (h0 : 0 < m) (hm : m < 2 ^ 30) (h : ¬ x - x / nI m * nI m < 0) : x - x / nI m * nI m = nI (md x m) := by
  apply Int32.toInt_inj.mp
  have h1 := md_tmod x h0
  have h2 := md_lt x h0
  rw [Int32.lt_iff_toInt_lt, remI x h0 hm, ti_0] at h
  rw [if_neg h] at h1
  rw [remI x h0 hm, nI_toInt (by omega), h1]
theorem md_neg (x : Int32) {m : Nat} (h0 : 0 < m) (hm : m < 2 ^ 30) (h : x - x / nI m * nI m < 0) : x - x / nI m * nI m + nI m = nI (md x m) := by
  apply Int32.toInt_inj.mp
  have h1 := md_tmod x h0
  have h2 := md_lt x h0
  rw [Int32.lt_iff_toInt_lt, remI x h0 hm, ti_0] at h
  rw [if_pos h] at h1
  have h3 := Int.lt_tmod_of_pos x.toInt (b := (m : Int)) (by omega)
  rw [Int32.toInt_add, remI x h0 hm, nI_toInt (by omega), nI_toInt (by omega), h1]
  exact Int.bmod_eq_of_le (by omega) (by omega)
theorem xor_neg (x : Int32) {m : Nat} (hm : m < 2 ^ 31) : x ^^^ nI m < 0 ↔ x < 0 := by
  have key : ∀ y : Int32, y < 0 ↔ y.toBitVec.msb = true := by
    intro y
    rw [Int32.lt_iff_toInt_lt, ti_0, BitVec.msb_eq_toInt, decide_eq_true_eq]
    exact Iff.rfl
  have hmm : (nI m).toBitVec.msb = false := by
    have h : ¬ (nI m).toBitVec.msb = true := fun q => nI_pos hm ((key _).mpr q)
    simpa using h
  rw [key, key, Int32.toBitVec_xor, BitVec.msb_xor, hmm, Bool.xor_false]
theorem rem_sgn (x : Int32) {m : Nat} (h0 : 0 < m) (hm : m < 2 ^ 30) : (¬ x < 0 → ¬ x - x / nI m * nI m < 0) ∧ (x < 0 → ¬ x - x / nI m * nI m = 0 → x - x / nI m * nI m < 0) := by
  have hr := remI x h0 hm
  refine ⟨fun h => ?_, fun h h2 => ?_⟩
  · rw [Int32.lt_iff_toInt_lt, ti_0] at h ⊢
    rw [hr]
    have := Int.tmod_nonneg (a := x.toInt) (m : Int) (by omega)
    omega
  · rw [Int32.lt_iff_toInt_lt, ti_0] at h ⊢
    have h3 : ¬ (x.toInt.tmod (m : Int) = 0) := fun q => h2 (Int32.toInt_inj.mp (by rw [hr, q]; rfl))
    rw [hr]
    have h4 : x.toInt.tmod (m : Int) ≤ 0 := by
      have := Int.tmod_nonneg (a := -x.toInt) (m : Int) (by omega)
      rw [Int.neg_tmod] at this
      omega
    omega
section DRAW
variable {l : Launch} {K : aK} {d : Nat} {M : aM} {Q : Option Value → aE → aM → Prop}
theorem t_floorMod {E : aE} {x : Int32} {m : Nat} (h0 : 0 < m) (hm : m < 2 ^ 30) (hQ : Q (some (.int (nI (md x m)))) E M) : aw l K mJ9_floorMod_7cf53 d 0 0 0 [.int x, .int (nI m), .null] [] E M Q := by
  have hne : ¬ nI m = 0 := nI_ne0 h0 (by omega)
  have hs := rem_sgn x h0 hm
  refine aw_iload_n (n := 1) dJ9_floorMod_7cf53_0 rfl rfl ?_
  refine aw_iload_n (n := 2) dJ9_floorMod_7cf53_1 rfl rfl ?_
  refine aw_irem (n := 3) dJ9_floorMod_7cf53_2 (by first | assumption | decide) rfl ?_
  refine aw_istore_n (n := 4) (L' := [_, _, _]) dJ9_floorMod_7cf53_3 (Nat.le_of_ble_eq_true rfl) rfl rfl ?_
  refine aw_iload_n (n := 5) dJ9_floorMod_7cf53_4 rfl rfl ?_
  refine aw_iload_n (n := 6) dJ9_floorMod_7cf53_5 rfl rfl ?_
  refine aw_ixor (n := 7) dJ9_floorMod_7cf53_6 rfl ?_
  refine aw_if_ge (tg := 18) (n := 10) dJ9_floorMod_7cf53_7 (by decide) rfl (fun c_7 => ?_) (fun c_7 => ?_)
  · refine aw_iload_n (n := 19) dJ9_floorMod_7cf53_18 rfl rfl ?_
    refine aw_iret dJ9_floorMod_7cf53_19 rfl ?_
    rw [md_pos x h0 hm (hs.1 (fun q => i_nlt.mpr c_7 ((xor_neg x (by omega)).mpr q)))]; exact hQ
  · refine aw_iload_n (n := 11) dJ9_floorMod_7cf53_10 rfl rfl ?_
    refine aw_if_eq (tg := 18) (n := 14) dJ9_floorMod_7cf53_11 (by decide) rfl (fun c_11 => ?_) (fun c_11 => ?_)
    · refine aw_iload_n (n := 19) dJ9_floorMod_7cf53_18 rfl rfl ?_
      refine aw_iret dJ9_floorMod_7cf53_19 rfl ?_
      rw [md_pos x h0 hm (by rw [c_11]; decide)]; exact hQ
    · refine aw_iload_n (n := 15) dJ9_floorMod_7cf53_14 rfl rfl ?_
      refine aw_iload_n (n := 16) dJ9_floorMod_7cf53_15 rfl rfl ?_
      refine aw_iadd (n := 17) dJ9_floorMod_7cf53_16 rfl ?_
      refine aw_iret dJ9_floorMod_7cf53_17 rfl ?_
      rw [md_neg x h0 hm (hs.2 ((xor_neg x (by omega)).mp (i_nle.mp c_7)) c_11)]; exact hQ
theorem t_hash {E : aE} {s t : Int32} (hQ : Q (some (.int (hsh s t))) E M) : aw l K mX0_hash d 0 0 0 [.int s, .int t, .null] [] E M Q := by
  refine aw_iload_n (n := 1) dX0_hash_0 rfl rfl ?_
  refine aw_iload_n (n := 2) dX0_hash_1 rfl rfl ?_
  refine aw_ldc (n := 4) dX0_hash_2 qX0_9 rfl ?_
  refine aw_imul (n := 5) dX0_hash_4 rfl ?_
  refine aw_iadd (n := 6) dX0_hash_5 rfl ?_
  refine aw_istore_n (n := 7) (L' := [_, _, _]) dX0_hash_6 (Nat.le_of_ble_eq_true rfl) rfl rfl ?_
  refine aw_iload_n (n := 8) dX0_hash_7 rfl rfl ?_
  refine aw_iload_n (n := 9) dX0_hash_8 rfl rfl ?_
  refine aw_bipush (n := 11) (v := 16) dX0_hash_9 (by decide) rfl ?_
  refine aw_iushr (n := 12) dX0_hash_11 rfl ?_
  refine aw_ixor (n := 13) dX0_hash_12 rfl ?_
  refine aw_ldc (n := 15) dX0_hash_13 qX0_10 rfl ?_
  refine aw_imul (n := 16) dX0_hash_15 rfl ?_
  refine aw_istore_n (n := 17) (L' := [_, _, _]) dX0_hash_16 (Nat.le_of_ble_eq_true rfl) rfl rfl ?_
  refine aw_iload_n (n := 18) dX0_hash_17 rfl rfl ?_
  refine aw_iload_n (n := 19) dX0_hash_18 rfl rfl ?_
  refine aw_bipush (n := 21) (v := 13) dX0_hash_19 (by decide) rfl ?_
  refine aw_iushr (n := 22) dX0_hash_21 rfl ?_
  refine aw_ixor (n := 23) dX0_hash_22 rfl ?_
  refine aw_ldc (n := 25) dX0_hash_23 qX0_11 rfl ?_
  refine aw_imul (n := 26) dX0_hash_25 rfl ?_
  refine aw_istore_n (n := 27) (L' := [_, _, _]) dX0_hash_26 (Nat.le_of_ble_eq_true rfl) rfl rfl ?_
  refine aw_iload_n (n := 28) dX0_hash_27 rfl rfl ?_
  refine aw_iload_n (n := 29) dX0_hash_28 rfl rfl ?_
  refine aw_bipush (n := 31) (v := 16) dX0_hash_29 (by decide) rfl ?_
  refine aw_iushr (n := 32) dX0_hash_31 rfl ?_
  refine aw_ixor (n := 33) dX0_hash_32 rfl ?_
  refine aw_iret dX0_hash_33 rfl ?_
  exact hQ
theorem t_between {E : aE} {h : Int32} {z : Nat} (hd : 1 ≤ d) (hz : z ≤ 12) (hQ : Q (some (.int (nI (md h (2 * z + 1)) - nI z))) E M) : aw l K mX0_between d 0 0 0 [.int h, .int (nI z)] [] E M Q := by
  have e : (2 : Int32) * nI z + 1 = nI (2 * z + 1) := by rw [show (2 : Int32) = nI 2 from rfl, pk_mul, nI_1]
  refine aw_iload_n (n := 1) dX0_between_0 rfl rfl ?_
  refine aw_iconst (n := 2) (v := 2) dX0_between_1 (by decide) rfl ?_
  refine aw_iload_n (n := 3) dX0_between_2 rfl rfl ?_
  refine aw_imul (n := 4) dX0_between_3 rfl ?_
  refine aw_iconst (n := 5) (v := 1) dX0_between_4 (by decide) rfl ?_
  refine aw_iadd (n := 6) dX0_between_5 rfl ?_
  rw [e]
  refine aw_s2 (d1 := d - 1) (n := 9) (Z := mJ9_floorMod_7cf53) (L0 := [_, _, .null]) dX0_between_6 kJ9_floorMod_7cf53 gX0_12 syJ9_floorMod_7cf53 rfl rfl (Nat.le_of_ble_eq_true rfl) rfl rfl (by omega) (Nat.le_of_ble_eq_true rfl) (t_floorMod (by omega) (by omega) ?_)
  dsimp only [aPush]
  refine aw_iload_n (n := 10) dX0_between_9 rfl rfl ?_
  refine aw_isub (n := 11) dX0_between_10 rfl ?_
  refine aw_iret dX0_between_11 rfl ?_
  exact hQ
theorem t_drawInto {a c i : Nat} {seed ty : Int32} (hd : 3 ≤ d) (ha : iV a) (hc : c < 200) (hi : i < 3) (hQ : ∀ M', vAt M' a (drw seed c i ty) → (∀ q, q ≠ a → q ≠ a + 1 → M' q = M q) → Q none EE M') : aw l K mX0_into d 0 0 0 [.ref a, .int seed, .int (nI c), .int (nI i), .int ty, .null, .null, .null] [] EE M Q := by
  have ha' := ha
  obtain ⟨hva, hvb⟩ := ha
  have es : (1 : Int32) + (nI c - nI c / 12 * 12) = nI (1 + c % 12) := by
    have h1 := pk_rem (a := c) (d := 12) (by omega) (by omega) (by omega)
    rw [show nI 12 = (12 : Int32) from rfl] at h1
    rw [h1, show (1 : Int32) = nI 1 from rfl, nI_add]
  have eh : (16 : Int32) * nI c + nI i = nI (16 * c + i) := by rw [show (16 : Int32) = nI 16 from rfl, pk_mul, nI_add]
  obtain ⟨z, hz⟩ : ∃ z, z = 1 + c % 12 := ⟨_, rfl⟩
  obtain ⟨h, hh⟩ : ∃ h, h = hsh seed (nI (16 * c + i)) := ⟨_, rfl⟩
  have hz12 : z ≤ 12 := by omega
  have hdr : drw seed c i ty = if ty = 0 then some (.inl (nI (md h (2 * z + 1)) - nI z)) else if ty = 1 then some (.inr (lR (md h (z / 2 + 1)) (fun k => nI (md (hsh h (nI (k + 1))) (2 * z + 1)) - nI z))) else none := by
    rw [hh, hz]; rfl
  rw [hdr] at hQ
  rw [← hz] at es
  obtain ⟨n, hn⟩ : ∃ n, n = md h (z / 2 + 1) := ⟨_, rfl⟩
  have hn7 : n < 7 := by
    have := md_lt h (m := z / 2 + 1) (by omega)
    omega
  have e2 : nI z / 2 + 1 = nI (z / 2 + 1) := by
    have h1 := pk_div (a := z) (d := 2) (by omega) (by omega) (by omega)
    rw [show nI 2 = (2 : Int32) from rfl] at h1
    rw [h1, nI_1]
  have loop : ∀ m k Mk, m + k = n → ty = 1 → ¬ ty = 0 → Mk a 0 = 1 → Mk a 2 = nI n → (∀ q, q ≠ a → q ≠ a + 1 → Mk q = M q) → (∀ j, j < k → Mk (a + 1) j = nI (md (hsh h (nI (j + 1))) (2 * z + 1)) - nI z) → aw l K mX0_into d 0 0 63 [.ref a, .int seed, .int (nI c), .int (nI i), .int ty, .int (nI z), .int h, .int (nI k)] [] EE Mk Q := by
    intro m
    induction m with
    | zero =>
      intro k Mk hk t1 t0 g0 g2 hf h5
      refine aw_iload (n := 65) dX0_into_63 rfl rfl ?_
      refine aw_aload_n (n := 66) dX0_into_65 rfl rfl ?_
      refine aw_geti (n := 69) dX0_into_66 fX0_35 (by assumption) rfl rfl ?_
      refine aw_icmp_ge (tg := 99) (n := 72) dX0_into_69 (by decide) rfl (fun c_69 => ?_) (fun c_69 => by exact absurd (by rw [g2]; exact nI_le (by omega) (by omega)) c_69)
      refine aw_goto (n := 106) dX0_into_99 (by decide) ?_
      refine aw_vret dX0_into_106 rfl ?_
      rw [if_neg t0, if_pos t1, ← hn] at hQ
      refine hQ _ ⟨g0, by rw [len_lR]; omega, by rw [len_lR]; exact g2, fun j hj => ?_⟩ hf
      rw [len_lR] at hj
      rw [getD_lR _ _ _ hj]; exact h5 j (by omega)
    | succ m ih =>
      intro k Mk hk t1 t0 g0 g2 hf h5
      have hin : vp_in (nI k) 16 := vp_in_nI (by omega) (by decide)
      have hkk : (nI k).toNatClampNeg = k := nI_clamp (by omega)
      refine aw_iload (n := 65) dX0_into_63 rfl rfl ?_
      refine aw_aload_n (n := 66) dX0_into_65 rfl rfl ?_
      refine aw_geti (n := 69) dX0_into_66 fX0_35 (by assumption) rfl rfl ?_
      refine aw_icmp_ge (tg := 99) (n := 72) dX0_into_69 (by decide) rfl (fun c_69 => by exact absurd (by rw [g2] at c_69; exact c_69) (nI_ge (by omega) (by omega))) (fun c_69 => ?_)
      refine aw_aload_n (n := 73) dX0_into_72 rfl rfl ?_
      refine aw_getr (n := 76) dX0_into_73 fX0_39 (by assumption) rfl rfl ?_
      refine aw_iload (n := 78) dX0_into_76 rfl rfl ?_
      refine aw_iload (n := 80) dX0_into_78 rfl rfl ?_
      refine aw_iload (n := 82) dX0_into_80 rfl rfl ?_
      refine aw_iconst (n := 83) (v := 1) dX0_into_82 (by decide) rfl ?_
      refine aw_iadd (n := 84) dX0_into_83 rfl ?_
      rw [nI_1]
      refine aw_s2 (d1 := d - 1) (n := 87) (Z := mX0_hash) (L0 := [_, _, .null]) dX0_into_84 kX0_hash gX0_20 syX0_hash rfl rfl (Nat.le_of_ble_eq_true rfl) rfl rfl (by omega) (Nat.le_of_ble_eq_true rfl) (t_hash ?_)
      dsimp only [aPush]
      refine aw_iload (n := 89) dX0_into_87 rfl rfl ?_
      refine aw_s2 (d1 := d - 1) (n := 92) (Z := mX0_between) (L0 := [_, _]) dX0_into_89 kX0_between gX0_23 syX0_between rfl rfl (Nat.le_of_ble_eq_true rfl) rfl rfl (by omega) (Nat.le_of_ble_eq_true rfl) (t_between (by omega) hz12 ?_)
      dsimp only [aPush]
      refine aw_iast (n := 93) dX0_into_92 (by assumption) (by assumption) rfl ?_
      refine aw_incp (n := 96) (L' := [_, _, _, _, _, _, _, _]) dX0_into_93 rfl rfl rfl ?_
      refine aw_goto (n := 63) dX0_into_96 (by decide) ?_
      rw [hkk, nI_1]
      refine ih (k + 1) _ (by omega) t1 t0 ?_ ?_ (fun q q1 q2 => ?_) (fun j hj => ?_)
      · rw [up2_a _ _ (by omega)]; exact g0
      · rw [up2_a _ _ (by omega)]; exact g2
      · rw [up2_ra _ _ q2]; exact hf q q1 q2
      · by_cases hjk : j = k
        · subst hjk; rw [up2_s]
        · rw [up2_k _ _ hjk]; exact h5 j (by omega)
  refine aw_iconst (n := 1) (v := 1) dX0_into_0 (by decide) rfl ?_
  refine aw_iload_n (n := 2) dX0_into_1 rfl rfl ?_
  refine aw_bipush (n := 4) (v := 12) dX0_into_2 (by decide) rfl ?_
  refine aw_irem (n := 5) dX0_into_4 (by first | assumption | decide) rfl ?_
  refine aw_iadd (n := 6) dX0_into_5 rfl ?_
  rw [es]
  refine aw_istore (n := 8) (L' := [_, _, _, _, _, _, _, _]) dX0_into_6 (Nat.le_of_ble_eq_true rfl) rfl rfl ?_
  refine aw_iload_n (n := 9) dX0_into_8 rfl rfl ?_
  refine aw_bipush (n := 11) (v := 16) dX0_into_9 (by decide) rfl ?_
  refine aw_iload_n (n := 12) dX0_into_11 rfl rfl ?_
  refine aw_imul (n := 13) dX0_into_12 rfl ?_
  refine aw_iload_n (n := 14) dX0_into_13 rfl rfl ?_
  refine aw_iadd (n := 15) dX0_into_14 rfl ?_
  rw [eh]
  refine aw_s2 (d1 := d - 1) (n := 18) (Z := mX0_hash) (L0 := [_, _, .null]) dX0_into_15 kX0_hash gX0_20 syX0_hash rfl rfl (Nat.le_of_ble_eq_true rfl) rfl rfl (by omega) (Nat.le_of_ble_eq_true rfl) (t_hash ?_)
  dsimp only [aPush]
  rw [← hh]
  refine aw_istore (n := 20) (L' := [_, _, _, _, _, _, _, _]) dX0_into_18 (Nat.le_of_ble_eq_true rfl) rfl rfl ?_
  refine aw_iload (n := 22) dX0_into_20 rfl rfl ?_
  refine aw_if_ne (tg := 39) (n := 25) dX0_into_22 (by decide) rfl (fun c_22 => ?_) (fun c_22 => ?_)
  · refine aw_iload (n := 41) dX0_into_39 rfl rfl ?_
    refine aw_iconst (n := 42) (v := 1) dX0_into_41 (by decide) rfl ?_
    refine aw_icmp_ne (tg := 102) (n := 45) dX0_into_42 (by decide) rfl (fun c_42 => ?_) (fun c_42 => ?_)
    · refine aw_aload_n (n := 103) dX0_into_102 rfl rfl ?_
      refine aw_v0 (d1 := d - 1) (n := 106) (Z := mX5_setNothing) (ci := 3) (L0 := [_]) dX0_into_103 kX5_setNothing gX0_43 iyX5_setNothing eyX5_setNothing rfl rfl (by assumption) (Nat.le_of_ble_eq_true rfl) rfl rfl (by omega) (Nat.le_of_ble_eq_true rfl) (t_setNothing ha' (fun M' h1 h2 => ?_))
      dsimp only [aPush]
      refine aw_vret dX0_into_106 rfl ?_
      rw [if_neg c_22, if_neg c_42] at hQ; exact hQ _ h1 (fun q q1 q2 => h2 q q1)
    · refine aw_aload_n (n := 46) dX0_into_45 rfl rfl ?_
      refine aw_iload (n := 48) dX0_into_46 rfl rfl ?_
      refine aw_iload (n := 50) dX0_into_48 rfl rfl ?_
      refine aw_iconst (n := 51) (v := 2) dX0_into_50 (by decide) rfl ?_
      refine aw_idiv (n := 52) dX0_into_51 (by first | assumption | decide) rfl ?_
      refine aw_iconst (n := 53) (v := 1) dX0_into_52 (by decide) rfl ?_
      refine aw_iadd (n := 54) dX0_into_53 rfl ?_
      rw [e2]
      refine aw_s2 (d1 := d - 1) (n := 57) (Z := mJ9_floorMod_7cf53) (L0 := [_, _, .null]) dX0_into_54 kJ9_floorMod_7cf53 gX0_12 syJ9_floorMod_7cf53 rfl rfl (Nat.le_of_ble_eq_true rfl) rfl rfl (by omega) (Nat.le_of_ble_eq_true rfl) (t_floorMod (by omega) (by omega) ?_)
      dsimp only [aPush]
      rw [← hn]
      refine aw_v1 (d1 := d - 1) (n := 60) (Z := mX5_setRow) (ci := 3) (L0 := [_, _]) dX0_into_57 kX5_setRow gX0_32 iyX5_setRow eyX5_setRow rfl rfl (by assumption) rfl (Nat.le_of_ble_eq_true rfl) rfl rfl (by omega) (Nat.le_of_ble_eq_true rfl) (t_setRow ha' (fun M1 g0 g2 g3 => ?_))
      dsimp only [aPush]
      refine aw_iconst (n := 61) (v := 0) dX0_into_60 (by decide) rfl ?_
      refine aw_istore (n := 63) (L' := [_, _, _, _, _, _, _, _]) dX0_into_61 (Nat.le_of_ble_eq_true rfl) rfl rfl ?_
      exact loop n 0 _ (by omega) c_42 c_22 g0 g2 (fun q q1 q2 => g3 q q1) (fun j hj => by omega)
  · refine aw_aload_n (n := 26) dX0_into_25 rfl rfl ?_
    refine aw_iload (n := 28) dX0_into_26 rfl rfl ?_
    refine aw_iload (n := 30) dX0_into_28 rfl rfl ?_
    refine aw_s2 (d1 := d - 1) (n := 33) (Z := mX0_between) (L0 := [_, _]) dX0_into_30 kX0_between gX0_23 syX0_between rfl rfl (Nat.le_of_ble_eq_true rfl) rfl rfl (by omega) (Nat.le_of_ble_eq_true rfl) (t_between (by omega) hz12 ?_)
    dsimp only [aPush]
    refine aw_v1 (d1 := d - 1) (n := 36) (Z := mX5_setWhole) (ci := 3) (L0 := [_, _]) dX0_into_33 kX5_setWhole gX0_26 iyX5_setWhole eyX5_setWhole rfl rfl (by assumption) rfl (Nat.le_of_ble_eq_true rfl) rfl rfl (by omega) (Nat.le_of_ble_eq_true rfl) (t_setWhole ha' (fun M' h1 h2 => ?_))
    dsimp only [aPush]
    refine aw_goto (n := 106) dX0_into_36 (by decide) ?_
    refine aw_vret dX0_into_106 rfl ?_
    rw [if_pos c_22] at hQ; exact hQ _ h1 (fun q q1 q2 => h2 q q1)
end DRAW
