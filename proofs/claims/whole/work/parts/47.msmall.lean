def gz (b l : Nat) : Nat := ((List.range l).map (fun j => b ^ j)).sum
theorem gz_s (b l : Nat) : gz b (l + 1) = gz b l + b ^ l := by
  unfold gz
  rw [List.range_succ, List.map_append, List.sum_append]
  simp
theorem gs_z (b k : Nat) : gs b k = gz b (k + 1) := rfl
theorem smv_ty {ty : Int32} {m j : Nat} (h : ty = -1 ∨ ty = 0 ∨ ty = 1) : tyV (smv ty m j) = ty := by
  rcases h with rfl | rfl | rfl
  · rfl
  · rfl
  · rfl
theorem smv_none (m j : Nat) : smv (-1) m j = none := rfl
theorem cnS_m1 (m : Nat) : cnS (-1) m = 1 := rfl
theorem cnS_z (m : Nat) : cnS 0 m = 2 * m + 1 := rfl
section MSMALL
variable {l : Launch} {K : aK} {d : Nat} {M : aM} {Q : Option Value → aE → aM → Prop}
theorem m_power {b n : Nat} (hn : n < 2 ^ 30) (hQ : Q (some (.int (nI (b ^ n)))) EE M) : aw l K mX8_power d 0 0 0 [.int (nI b), .int (nI n), .null, .null] [] EE M Q := by
  have loop : ∀ f k, f + k = n → aw l K mX8_power d 0 0 4 [.int (nI b), .int (nI n), .int (nI (b ^ k)), .int (nI k)] [] EE M Q := by
    intro f
    induction f with
    | zero =>
      intro k hk
      obtain rfl : k = n := by omega
      refine aw_iload_n (n := 5) dX8_power_4 rfl rfl ?_
      refine aw_iload_n (n := 6) dX8_power_5 rfl rfl ?_
      refine aw_icmp_ge (tg := 19) (n := 9) dX8_power_6 (by decide) rfl (fun c_6 => ?_) (fun c_6 => by exact absurd (nI_le (by omega) (by omega)) c_6)
      refine aw_iload_n (n := 20) dX8_power_19 rfl rfl ?_
      refine aw_iret dX8_power_20 rfl ?_
      exact hQ
    | succ f ih =>
      intro k hk
      refine aw_iload_n (n := 5) dX8_power_4 rfl rfl ?_
      refine aw_iload_n (n := 6) dX8_power_5 rfl rfl ?_
      refine aw_icmp_ge (tg := 19) (n := 9) dX8_power_6 (by decide) rfl (fun c_6 => by exact absurd c_6 (nI_ge (by omega) (by omega))) (fun c_6 => ?_)
      refine aw_iload_n (n := 10) dX8_power_9 rfl rfl ?_
      refine aw_iload_n (n := 11) dX8_power_10 rfl rfl ?_
      refine aw_imul (n := 12) dX8_power_11 rfl ?_
      refine aw_istore_n (n := 13) (L' := [_, _, _, _]) dX8_power_12 (Nat.le_of_ble_eq_true rfl) rfl rfl ?_
      refine aw_incp (n := 16) (L' := [_, _, _, _]) dX8_power_13 rfl rfl rfl ?_
      refine aw_goto (n := 4) dX8_power_16 (by decide) ?_
      rw [pk_mul, nI_1, ← Nat.pow_succ]
      exact ih (k + 1) (by omega)
  refine aw_iconst (n := 1) (v := 1) dX8_power_0 (by decide) rfl ?_
  refine aw_istore_n (n := 2) (L' := [_, _, _, _]) dX8_power_1 (Nat.le_of_ble_eq_true rfl) rfl rfl ?_
  refine aw_iconst (n := 3) (v := 0) dX8_power_2 (by decide) rfl ?_
  refine aw_istore_n (n := 4) (L' := [_, _, _, _]) dX8_power_3 (Nat.le_of_ble_eq_true rfl) rfl rfl ?_
  exact loop n 0 (by omega)
theorem m_sorts {ty : Int32} {m : Nat} (hd : 1 ≤ d) (hm : m ≤ 3) (ht : ty = -1 ∨ ty = 0 ∨ ty = 1) (hQ : Q (some (.int (nI (cnS ty m)))) EE M) : aw l K mX8_sort d 0 0 0 [.int ty, .int (nI m), .null, .null] [] EE M Q := by
  rcases ht with rfl | rfl | rfl
  · refine aw_iload_n (n := 1) dX8_sort_0 rfl rfl ?_
    refine aw_if_ge (tg := 6) (n := 4) dX8_sort_1 (by decide) rfl (fun c_1 => by first | exact absurd rfl c_1 | exact absurd c_1 (by decide)) (fun _ => ?_)
    refine aw_iconst (n := 5) (v := 1) dX8_sort_4 (by decide) rfl ?_
    refine aw_iret dX8_sort_5 rfl ?_
    exact hQ
  · rw [cnS_z, ← e21] at hQ
    refine aw_iload_n (n := 1) dX8_sort_0 rfl rfl ?_
    refine aw_if_ge (tg := 6) (n := 4) dX8_sort_1 (by decide) rfl (fun _ => ?_) (fun c_1 => by first | exact absurd rfl c_1 | exact absurd c_1 (by decide))
    refine aw_iload_n (n := 7) dX8_sort_6 rfl rfl ?_
    refine aw_if_ne (tg := 16) (n := 10) dX8_sort_7 (by decide) rfl (fun c_7 => by first | exact absurd rfl c_7 | exact absurd c_7 (by decide)) (fun _ => ?_)
    refine aw_iconst (n := 11) (v := 2) dX8_sort_10 (by decide) rfl ?_
    refine aw_iload_n (n := 12) dX8_sort_11 rfl rfl ?_
    refine aw_imul (n := 13) dX8_sort_12 rfl ?_
    refine aw_iconst (n := 14) (v := 1) dX8_sort_13 (by decide) rfl ?_
    refine aw_iadd (n := 15) dX8_sort_14 rfl ?_
    refine aw_iret dX8_sort_15 rfl ?_
    exact hQ
  · rw [cnS_1 (by decide) (by decide), gs_z] at hQ
    have loop : ∀ f k, f + k = m + 1 → aw l K mX8_sort d 0 0 20 [.int 1, .int (nI m), .int (nI (gz (2 * m + 1) k)), .int (nI k)] [] EE M Q := by
      intro f
      induction f with
      | zero =>
        intro k hk
        obtain rfl : k = m + 1 := by omega
        refine aw_iload_n (n := 21) dX8_sort_20 rfl rfl ?_
        refine aw_iload_n (n := 22) dX8_sort_21 rfl rfl ?_
        refine aw_icmp_gt (tg := 43) (n := 25) dX8_sort_22 (by decide) rfl (fun c_22 => ?_) (fun c_22 => by exact absurd ((nI_ltI (by omega) (by omega)).mpr (by omega)) c_22)
        refine aw_iload_n (n := 44) dX8_sort_43 rfl rfl ?_
        refine aw_iret dX8_sort_44 rfl ?_
        exact hQ
      | succ f ih =>
        intro k hk
        refine aw_iload_n (n := 21) dX8_sort_20 rfl rfl ?_
        refine aw_iload_n (n := 22) dX8_sort_21 rfl rfl ?_
        refine aw_icmp_gt (tg := 43) (n := 25) dX8_sort_22 (by decide) rfl (fun c_22 => by exact absurd ((nI_ltI (by omega) (by omega)).mp c_22) (by omega)) (fun c_22 => ?_)
        refine aw_iload_n (n := 26) dX8_sort_25 rfl rfl ?_
        refine aw_iconst (n := 27) (v := 2) dX8_sort_26 (by decide) rfl ?_
        refine aw_iload_n (n := 28) dX8_sort_27 rfl rfl ?_
        refine aw_imul (n := 29) dX8_sort_28 rfl ?_
        refine aw_iconst (n := 30) (v := 1) dX8_sort_29 (by decide) rfl ?_
        refine aw_iadd (n := 31) dX8_sort_30 rfl ?_
        rw [e21]
        refine aw_iload_n (n := 32) dX8_sort_31 rfl rfl ?_
        refine aw_s2 (d1 := d - 1) (n := 35) (Z := mX8_power) (L0 := [_, _, .null, .null]) dX8_sort_32 kX8_power gX8_255 syX8_power rfl rfl (Nat.le_of_ble_eq_true rfl) rfl rfl (by omega) (Nat.le_of_ble_eq_true rfl) (m_power (by omega) ?_)
        dsimp only [aPush]
        refine aw_iadd (n := 36) dX8_sort_35 rfl ?_
        refine aw_istore_n (n := 37) (L' := [_, _, _, _]) dX8_sort_36 (Nat.le_of_ble_eq_true rfl) rfl rfl ?_
        refine aw_incp (n := 40) (L' := [_, _, _, _]) dX8_sort_37 rfl rfl rfl ?_
        refine aw_goto (n := 20) dX8_sort_40 (by decide) ?_
        rw [nI_add, nI_1, ← gz_s]
        exact ih (k + 1) (by omega)
    refine aw_iload_n (n := 1) dX8_sort_0 rfl rfl ?_
    refine aw_if_ge (tg := 6) (n := 4) dX8_sort_1 (by decide) rfl (fun _ => ?_) (fun c_1 => by first | exact absurd rfl c_1 | exact absurd c_1 (by decide))
    refine aw_iload_n (n := 7) dX8_sort_6 rfl rfl ?_
    refine aw_if_ne (tg := 16) (n := 10) dX8_sort_7 (by decide) rfl (fun _ => ?_) (fun c_7 => by first | exact absurd rfl c_7 | exact absurd c_7 (by decide))
    refine aw_iconst (n := 17) (v := 0) dX8_sort_16 (by decide) rfl ?_
    refine aw_istore_n (n := 18) (L' := [_, _, _, _]) dX8_sort_17 (Nat.le_of_ble_eq_true rfl) rfl rfl ?_
    refine aw_iconst (n := 19) (v := 0) dX8_sort_18 (by decide) rfl ?_
    refine aw_istore_n (n := 20) (L' := [_, _, _, _]) dX8_sort_19 (Nat.le_of_ble_eq_true rfl) rfl rfl ?_
    exact loop (m + 1) 0 (by omega)
theorem m_all {p m : Nat} {P : pr} (hd : 2 ≤ d) (hm : m ≤ 3) (hp : p < 8) (ht : ∀ i, i < 3 → P i = -1 ∨ P i = 0 ∨ P i = 1) (hM : ∀ i, i < 3 → M 180 (3 * p + i) = P i) (hQ : Q (some (.int (nI (alS P m)))) EE M) : aw l K mX8_all d 0 0 0 [.ref 164, .int (nI p), .int (nI m)] [] EE M Q := by
  have e0 : (3 : Int32) * nI p = nI (3 * p) := by rw [show (3 : Int32) = nI 3 from rfl, pk_mul]
  have e1 : nI (3 * p) + 1 = nI (3 * p + 1) := nI_1 _
  have e2 : nI (3 * p) + 2 = nI (3 * p + 2) := nI_add _ 2
  have i0 : vp_in (nI (3 * p)) 24 := vp_in_nI (by omega) (by decide)
  have i1 : vp_in (nI (3 * p + 1)) 24 := vp_in_nI (by omega) (by decide)
  have i2 : vp_in (nI (3 * p + 2)) 24 := vp_in_nI (by omega) (by decide)
  have k0 : (nI (3 * p)).toNatClampNeg = 3 * p := nI_clamp (by omega)
  have k1 : (nI (3 * p + 1)).toNatClampNeg = 3 * p + 1 := nI_clamp (by omega)
  have k2 : (nI (3 * p + 2)).toNatClampNeg = 3 * p + 2 := nI_clamp (by omega)
  have h0 : M 180 (3 * p) = P 0 := hM 0 (by decide)
  have h1 : M 180 (3 * p + 1) = P 1 := hM 1 (by decide)
  have h2 : M 180 (3 * p + 2) = P 2 := hM 2 (by decide)
  refine aw_aload_n (n := 1) dX8_all_0 rfl rfl ?_
  refine aw_getr (n := 4) dX8_all_1 fX8_55 E_164 rfl rfl ?_
  refine aw_iconst (n := 5) (v := 3) dX8_all_4 (by decide) rfl ?_
  refine aw_iload_n (n := 6) dX8_all_5 rfl rfl ?_
  refine aw_imul (n := 7) dX8_all_6 rfl ?_
  rw [e0]
  refine aw_iald (n := 8) dX8_all_7 E_180 (by assumption) rfl ?_
  rw [k0, h0]
  refine aw_iload_n (n := 9) dX8_all_8 rfl rfl ?_
  refine aw_s2 (d1 := d - 1) (n := 12) (Z := mX8_sort) (L0 := [_, _, .null, .null]) dX8_all_9 kX8_sort gX8_258 syX8_sort rfl rfl (Nat.le_of_ble_eq_true rfl) rfl rfl (by omega) (Nat.le_of_ble_eq_true rfl) (m_sorts (by omega) hm (ht 0 (by decide)) ?_)
  dsimp only [aPush]
  refine aw_aload_n (n := 13) dX8_all_12 rfl rfl ?_
  refine aw_getr (n := 16) dX8_all_13 fX8_55 E_164 rfl rfl ?_
  refine aw_iconst (n := 17) (v := 3) dX8_all_16 (by decide) rfl ?_
  refine aw_iload_n (n := 18) dX8_all_17 rfl rfl ?_
  refine aw_imul (n := 19) dX8_all_18 rfl ?_
  rw [e0]
  refine aw_iconst (n := 20) (v := 1) dX8_all_19 (by decide) rfl ?_
  refine aw_iadd (n := 21) dX8_all_20 rfl ?_
  rw [e1]
  refine aw_iald (n := 22) dX8_all_21 E_180 (by assumption) rfl ?_
  rw [k1, h1]
  refine aw_iload_n (n := 23) dX8_all_22 rfl rfl ?_
  refine aw_s2 (d1 := d - 1) (n := 26) (Z := mX8_sort) (L0 := [_, _, .null, .null]) dX8_all_23 kX8_sort gX8_258 syX8_sort rfl rfl (Nat.le_of_ble_eq_true rfl) rfl rfl (by omega) (Nat.le_of_ble_eq_true rfl) (m_sorts (by omega) hm (ht 1 (by decide)) ?_)
  dsimp only [aPush]
  refine aw_imul (n := 27) dX8_all_26 rfl ?_
  rw [pk_mul]
  refine aw_aload_n (n := 28) dX8_all_27 rfl rfl ?_
  refine aw_getr (n := 31) dX8_all_28 fX8_55 E_164 rfl rfl ?_
  refine aw_iconst (n := 32) (v := 3) dX8_all_31 (by decide) rfl ?_
  refine aw_iload_n (n := 33) dX8_all_32 rfl rfl ?_
  refine aw_imul (n := 34) dX8_all_33 rfl ?_
  rw [e0]
  refine aw_iconst (n := 35) (v := 2) dX8_all_34 (by decide) rfl ?_
  refine aw_iadd (n := 36) dX8_all_35 rfl ?_
  rw [e2]
  refine aw_iald (n := 37) dX8_all_36 E_180 (by assumption) rfl ?_
  rw [k2, h2]
  refine aw_iload_n (n := 38) dX8_all_37 rfl rfl ?_
  refine aw_s2 (d1 := d - 1) (n := 41) (Z := mX8_sort) (L0 := [_, _, .null, .null]) dX8_all_38 kX8_sort gX8_258 syX8_sort rfl rfl (Nat.le_of_ble_eq_true rfl) rfl rfl (by omega) (Nat.le_of_ble_eq_true rfl) (m_sorts (by omega) hm (ht 2 (by decide)) ?_)
  dsimp only [aPush]
  refine aw_imul (n := 42) dX8_all_41 rfl ?_
  rw [pk_mul]
  refine aw_iret dX8_all_42 rfl ?_
  exact hQ
theorem m_manyBad {np : Nat} {x m : Int32} (hd : 3 ≤ d) (hnp : np ≤ 8) (hM : M 164 23 = nI np) (hb : (hasB np x && smB m) = false) (hQ : Q (some (.int (-1))) EE M) : aw l K mX8_many d 0 0 0 [.ref 164, .int x, .int m, .null] [] EE M Q := by
  rcases hh : hasB np x with _ | _
  · refine aw_aload_n (n := 1) dX8_many_0 rfl rfl ?_
    refine aw_iload_n (n := 2) dX8_many_1 rfl rfl ?_
    refine aw_v1 (d1 := d - 1) (n := 5) (Z := mX8_isProperty) (ci := 6) (L0 := [_, _]) dX8_many_2 kX8_isProperty gX8_231 iyX8_isProperty eyX8_isProperty rfl rfl E_164 rfl (Nat.le_of_ble_eq_true rfl) rfl rfl (by omega) (Nat.le_of_ble_eq_true rfl) (m_isProperty (by omega) (by omega) hM ?_)
    dsimp only [aPush]
    rw [hh]
    refine aw_if_eq (tg := 17) (n := 8) dX8_many_5 (by decide) rfl (fun c_5 => ?_) (fun c_5 => by exact absurd rfl c_5)
    refine aw_iconst (n := 18) (v := -1) dX8_many_17 (by decide) rfl ?_
    refine aw_iret dX8_many_18 rfl ?_
    exact hQ
  · rw [hh, Bool.true_and] at hb
    refine aw_aload_n (n := 1) dX8_many_0 rfl rfl ?_
    refine aw_iload_n (n := 2) dX8_many_1 rfl rfl ?_
    refine aw_v1 (d1 := d - 1) (n := 5) (Z := mX8_isProperty) (ci := 6) (L0 := [_, _]) dX8_many_2 kX8_isProperty gX8_231 iyX8_isProperty eyX8_isProperty rfl rfl E_164 rfl (Nat.le_of_ble_eq_true rfl) rfl rfl (by omega) (Nat.le_of_ble_eq_true rfl) (m_isProperty (by omega) (by omega) hM ?_)
    dsimp only [aPush]
    rw [hh]
    refine aw_if_eq (tg := 17) (n := 8) dX8_many_5 (by decide) rfl (fun c_5 => by exact absurd c_5 (by decide)) (fun c_5 => ?_)
    refine aw_iload_n (n := 9) dX8_many_8 rfl rfl ?_
    refine aw_iconst (n := 10) (v := 0) dX8_many_9 (by decide) rfl ?_
    refine aw_iconst (n := 11) (v := 3) dX8_many_10 (by decide) rfl ?_
    refine aw_s3 (d1 := d - 1) (n := 14) (Z := mX8_in) (L0 := [_, _, _]) dX8_many_11 kX8_in gX8_95 syX8_in rfl rfl rfl (Nat.le_of_ble_eq_true rfl) rfl rfl (by omega) (Nat.le_of_ble_eq_true rfl) (m_in (fun hb => ?_) (fun hb1 hb2 => ?_))
    · dsimp only [aPush]
      refine aw_if_ne (tg := 19) (n := 17) dX8_many_14 (by decide) rfl (fun c_14 => by exact absurd rfl c_14) (fun c_14 => ?_)
      refine aw_iconst (n := 18) (v := -1) dX8_many_17 (by decide) rfl ?_
      refine aw_iret dX8_many_18 rfl ?_
      exact hQ
    · dsimp only [aPush]
      refine absurd hb ?_
      unfold smB
      rw [decide_eq_true hb1, decide_eq_true hb2]; decide
theorem m_smallBad {np : Nat} {x m : Int32} (hd : 3 ≤ d) (hnp : np ≤ 8) (hM : M 164 23 = nI np) (hb : (hasB np x && smB m) = false) (hQ : Q (some (.int (-1))) EE M) : aw l K mX8_small d 0 0 0 [.ref 164, .int x, .int m, .null, .null, .null, .null, .null, .null, .null] [] EE M Q := by
  rcases hh : hasB np x with _ | _
  · refine aw_aload_n (n := 1) dX8_small_0 rfl rfl ?_
    refine aw_iload_n (n := 2) dX8_small_1 rfl rfl ?_
    refine aw_v1 (d1 := d - 1) (n := 5) (Z := mX8_isProperty) (ci := 6) (L0 := [_, _]) dX8_small_2 kX8_isProperty gX8_231 iyX8_isProperty eyX8_isProperty rfl rfl E_164 rfl (Nat.le_of_ble_eq_true rfl) rfl rfl (by omega) (Nat.le_of_ble_eq_true rfl) (m_isProperty (by omega) (by omega) hM ?_)
    dsimp only [aPush]
    rw [hh]
    refine aw_if_eq (tg := 17) (n := 8) dX8_small_5 (by decide) rfl (fun c_5 => ?_) (fun c_5 => by exact absurd rfl c_5)
    refine aw_iconst (n := 18) (v := -1) dX8_small_17 (by decide) rfl ?_
    refine aw_iret dX8_small_18 rfl ?_
    exact hQ
  · rw [hh, Bool.true_and] at hb
    refine aw_aload_n (n := 1) dX8_small_0 rfl rfl ?_
    refine aw_iload_n (n := 2) dX8_small_1 rfl rfl ?_
    refine aw_v1 (d1 := d - 1) (n := 5) (Z := mX8_isProperty) (ci := 6) (L0 := [_, _]) dX8_small_2 kX8_isProperty gX8_231 iyX8_isProperty eyX8_isProperty rfl rfl E_164 rfl (Nat.le_of_ble_eq_true rfl) rfl rfl (by omega) (Nat.le_of_ble_eq_true rfl) (m_isProperty (by omega) (by omega) hM ?_)
    dsimp only [aPush]
    rw [hh]
    refine aw_if_eq (tg := 17) (n := 8) dX8_small_5 (by decide) rfl (fun c_5 => by exact absurd c_5 (by decide)) (fun c_5 => ?_)
    refine aw_iload_n (n := 9) dX8_small_8 rfl rfl ?_
    refine aw_iconst (n := 10) (v := 0) dX8_small_9 (by decide) rfl ?_
    refine aw_iconst (n := 11) (v := 3) dX8_small_10 (by decide) rfl ?_
    refine aw_s3 (d1 := d - 1) (n := 14) (Z := mX8_in) (L0 := [_, _, _]) dX8_small_11 kX8_in gX8_95 syX8_in rfl rfl rfl (Nat.le_of_ble_eq_true rfl) rfl rfl (by omega) (Nat.le_of_ble_eq_true rfl) (m_in (fun hb => ?_) (fun hb1 hb2 => ?_))
    · dsimp only [aPush]
      refine aw_if_ne (tg := 19) (n := 17) dX8_small_14 (by decide) rfl (fun c_14 => by exact absurd rfl c_14) (fun c_14 => ?_)
      refine aw_iconst (n := 18) (v := -1) dX8_small_17 (by decide) rfl ?_
      refine aw_iret dX8_small_18 rfl ?_
      exact hQ
    · dsimp only [aPush]
      refine absurd hb ?_
      unfold smB
      rw [decide_eq_true hb1, decide_eq_true hb2]; decide
theorem m_many {cnt np k m : Nat} {T : tm} {P : Nat → pr} (hd : 4 ≤ d) (hW : wfA cnt T np P) (hA : mA cnt T np P M) (hk : k < np) (hm : m ≤ 3) (hQ : Q (some (.int (if alS (P k) m ≤ 3000 then nI (alS (P k) m) else -2))) EE M) : aw l K mX8_many d 0 0 0 [.ref 164, .int (nI k), .int (nI m), .null] [] EE M Q := by
  have hnp : np ≤ 8 := hW.2.2.1
  have hh := hasB_k hk (by omega)
  have hal := alS_le (P k) hm
  refine aw_aload_n (n := 1) dX8_many_0 rfl rfl ?_
  refine aw_iload_n (n := 2) dX8_many_1 rfl rfl ?_
  refine aw_v1 (d1 := d - 1) (n := 5) (Z := mX8_isProperty) (ci := 6) (L0 := [_, _]) dX8_many_2 kX8_isProperty gX8_231 iyX8_isProperty eyX8_isProperty rfl rfl E_164 rfl (Nat.le_of_ble_eq_true rfl) rfl rfl (by omega) (Nat.le_of_ble_eq_true rfl) (m_isProperty (by omega) (by omega) hA.2.2.1 ?_)
  dsimp only [aPush]
  rw [hh]
  refine aw_if_eq (tg := 17) (n := 8) dX8_many_5 (by decide) rfl (fun c_5 => by exact absurd c_5 (by decide)) (fun c_5 => ?_)
  refine aw_iload_n (n := 9) dX8_many_8 rfl rfl ?_
  refine aw_iconst (n := 10) (v := 0) dX8_many_9 (by decide) rfl ?_
  refine aw_iconst (n := 11) (v := 3) dX8_many_10 (by decide) rfl ?_
  refine aw_s3 (d1 := d - 1) (n := 14) (Z := mX8_in) (L0 := [_, _, _]) dX8_many_11 kX8_in gX8_95 syX8_in rfl rfl rfl (Nat.le_of_ble_eq_true rfl) rfl rfl (by omega) (Nat.le_of_ble_eq_true rfl) (m_in (fun hb => ?_) (fun hb1 hb2 => ?_))
  · dsimp only [aPush]
    exact absurd hb (fun q => q.elim (nI_pos (by omega)) (fun q => absurd ((nI_ltI (a := 3) (by decide) (by omega)).mp q) (by omega)))
  · dsimp only [aPush]
    refine aw_if_ne (tg := 19) (n := 17) dX8_many_14 (by decide) rfl (fun c_14 => ?_) (fun c_14 => by exact absurd c_14 (by decide))
    refine aw_aload_n (n := 20) dX8_many_19 rfl rfl ?_
    refine aw_iload_n (n := 21) dX8_many_20 rfl rfl ?_
    refine aw_iload_n (n := 22) dX8_many_21 rfl rfl ?_
    refine aw_v2 (d1 := d - 1) (n := 25) (Z := mX8_all) (ci := 6) (L0 := [_, _, _]) dX8_many_22 kX8_all gX8_261 iyX8_all eyX8_all rfl rfl E_164 rfl rfl (Nat.le_of_ble_eq_true rfl) rfl rfl (by omega) (Nat.le_of_ble_eq_true rfl) (m_all (by omega) hm (by omega) (hW.2.2.2 k hk).1 (hA.2.2.2 k hk).1 ?_)
    dsimp only [aPush]
    refine aw_istore_n (n := 26) (L' := [_, _, _, _]) dX8_many_25 (Nat.le_of_ble_eq_true rfl) rfl rfl ?_
    refine aw_iload_n (n := 27) dX8_many_26 rfl rfl ?_
    refine aw_sipush (n := 30) (v := 3000) dX8_many_27 (by decide) rfl ?_
    refine aw_icmp_le (tg := 38) (n := 33) dX8_many_30 (by decide) rfl (fun c_30 => ?_) (fun c_30 => ?_)
    · refine aw_iload_n (n := 39) dX8_many_38 rfl rfl ?_
      refine aw_iret dX8_many_39 rfl ?_
      rw [if_pos ((nI_leI (b := 3000) (by omega) (by decide)).mp c_30)] at hQ; exact hQ
    · refine aw_bipush (n := 35) (v := -2) dX8_many_33 (by decide) rfl ?_
      refine aw_goto (n := 39) dX8_many_35 (by decide) ?_
      refine aw_iret dX8_many_39 rfl ?_
      rw [if_neg (fun q => c_30 ((nI_leI (b := 3000) (by omega) (by decide)).mpr q))] at hQ; exact hQ
theorem m_ranked {j : Nat} (hj : j < 2 ^ 30) (hQ : Q (some (.int (rk j))) EE M) : aw l K mX8_ranked d 0 0 0 [.int (nI j)] [] EE M Q := by
  have e2 : nI j - nI j / 2 * 2 = nI (j % 2) := pk_rem (d := 2) (by omega) (by decide) (by decide)
  have e3 : (nI j + 1) / 2 = nI ((j + 1) / 2) := by rw [nI_1]; exact pk_div (d := 2) (by omega) (by decide) (by decide)
  have e4 : nI j / 2 = nI (j / 2) := pk_div (d := 2) (by omega) (by decide) (by decide)
  refine aw_iload_n (n := 1) dX8_ranked_0 rfl rfl ?_
  refine aw_iconst (n := 2) (v := 2) dX8_ranked_1 (by decide) rfl ?_
  refine aw_irem (n := 3) dX8_ranked_2 (by first | assumption | decide) rfl ?_
  rw [e2]
  refine aw_iconst (n := 4) (v := 1) dX8_ranked_3 (by decide) rfl ?_
  refine aw_icmp_ne (tg := 15) (n := 7) dX8_ranked_4 (by decide) rfl (fun c_4 => ?_) (fun c_4 => ?_)
  · refine aw_iload_n (n := 16) dX8_ranked_15 rfl rfl ?_
    refine aw_iconst (n := 17) (v := 2) dX8_ranked_16 (by decide) rfl ?_
    refine aw_idiv (n := 18) dX8_ranked_17 (by first | assumption | decide) rfl ?_
    rw [e4]
    refine aw_ineg (n := 19) dX8_ranked_18 rfl ?_
    refine aw_iret dX8_ranked_19 rfl ?_
    first
      | (rw [show rk j = -(nI (j / 2)) from if_neg (fun q => c_4 (by rw [q]; rfl))] at hQ; exact hQ)
      | (rw [show rk j = nI ((j + 1) / 2) from if_pos ((nI_eq (b := 1) (by omega) (by decide)).mp c_4)] at hQ; exact hQ)
  · refine aw_iload_n (n := 8) dX8_ranked_7 rfl rfl ?_
    refine aw_iconst (n := 9) (v := 1) dX8_ranked_8 (by decide) rfl ?_
    refine aw_iadd (n := 10) dX8_ranked_9 rfl ?_
    refine aw_iconst (n := 11) (v := 2) dX8_ranked_10 (by decide) rfl ?_
    refine aw_idiv (n := 12) dX8_ranked_11 (by first | assumption | decide) rfl ?_
    rw [e3]
    refine aw_goto (n := 19) dX8_ranked_12 (by decide) ?_
    refine aw_iret dX8_ranked_19 rfl ?_
    first
      | (rw [show rk j = -(nI (j / 2)) from if_neg (fun q => c_4 (by rw [q]; rfl))] at hQ; exact hQ)
      | (rw [show rk j = nI ((j + 1) / 2) from if_pos ((nI_eq (b := 1) (by omega) (by decide)).mp c_4)] at hQ; exact hQ)
theorem m_takeSmall {i m j : Nat} {ty : Int32} (hd : 1 ≤ d) (hi : i < 3) (hm : m ≤ 3) (ht : ty = 0 ∨ ty = 1) (hj : j < cnS ty m)
    (hQ : ∀ M', kI 171 172 (smv ty m j) i M' → (∀ q, q ≠ i → M' 171 q = M 171 q) → (∀ q, q < 16 * i ∨ 16 * i + 16 ≤ q → M' 172 q = M 172 q) → (∀ q, q ≠ 171 → q ≠ 172 → M' q = M q) → Q none EE M') : aw l K mX8_takeSmall d 0 0 0 [.ref 164, .int (nI i), .int ty, .int (nI m), .int (nI j), .null, .null, .null, .null] [] EE M Q := by
  have hcl := cnS_le ty hm
  have hini : vp_in (nI i) 3 := vp_in_nI hi (by decide)
  have hii : (nI i).toNatClampNeg = i := nI_clamp (by omega)
  rcases ht with rfl | rfl
  · refine aw_iload_n (n := 1) dX8_takeSmall_0 rfl rfl ?_
    refine aw_if_ne (tg := 16) (n := 4) dX8_takeSmall_1 (by decide) rfl (fun c_1 => by first | exact absurd rfl c_1 | exact absurd c_1 (by decide)) (fun _ => ?_)
    refine aw_aload_n (n := 5) dX8_takeSmall_4 rfl rfl ?_
    refine aw_getr (n := 8) dX8_takeSmall_5 fX8_28 E_164 rfl rfl ?_
    refine aw_iload_n (n := 9) dX8_takeSmall_8 rfl rfl ?_
    refine aw_iload (n := 11) dX8_takeSmall_9 rfl rfl ?_
    refine aw_s1 (d1 := d - 1) (n := 14) (Z := mX8_ranked) (L0 := [_]) dX8_takeSmall_11 kX8_ranked gX8_264 syX8_ranked rfl (Nat.le_of_ble_eq_true rfl) rfl rfl (by omega) (Nat.le_of_ble_eq_true rfl) (m_ranked (by omega) ?_)
    dsimp only [aPush]
    refine aw_iast (n := 15) dX8_takeSmall_14 E_171 (by assumption) rfl ?_
    refine aw_vret dX8_takeSmall_15 rfl ?_
    rw [hii]
    exact hQ _ (up2_s _ _ _ _) (fun q hq => up2_k _ _ hq) (fun q hq => up2_a _ _ (by decide)) (fun q a b => up2_ra _ _ a)
  rw [cnS_1 (by decide) (by decide), gs_z] at hj
  obtain ⟨b, hb⟩ : ∃ b, b = 2 * m + 1 := ⟨_, rfl⟩
  rw [← hb] at hj
  obtain ⟨len, left, hrl⟩ : ∃ len left, rl b m j 1 0 = (len, left) := ⟨_, _, rfl⟩
  have hsm : smv 1 m j = some (.inr (lR len (fun k => rk (left / b ^ (len - 1 - k) % b)))) := by
    have h1 : smv 1 m j = some (.inr (lR (rl (2 * m + 1) m j 1 0).1 (fun k => rk ((rl (2 * m + 1) m j 1 0).2 / (2 * m + 1) ^ ((rl (2 * m + 1) m j 1 0).1 - 1 - k) % (2 * m + 1))))) := rfl
    rw [h1, ← hb, hrl]
  rw [hsm] at hQ
  have hll := rl_len b m j 1 0
  rw [hrl] at hll
  obtain ⟨hlen, hleft⟩ : len ≤ m + 0 ∧ left ≤ j := hll
  have hb7 : b ≤ 7 := by omega
  have hj400 : j < 401 := by
    rw [cnS_1 (by decide) (by decide), gs_z, ← hb] at hcl
    omega
  have hbne : ¬ nI b = 0 := nI_ne0 (by omega) (by omega)
  have second : ∀ k (Mk : aM) lf x2 x3 x4, k ≤ len → lf = left / b ^ (len - k) → Mk 171 i = nI len → (∀ q, q ≠ i → Mk 171 q = M 171 q) → (∀ q, q < 16 * i ∨ 16 * i + 16 ≤ q → Mk 172 q = M 172 q) → (∀ q, q ≠ 171 → q ≠ 172 → Mk q = M q) → (∀ q, k ≤ q → q < len → Mk 172 (16 * i + q) = rk (left / b ^ (len - 1 - q) % b)) → aw l K mX8_takeSmall d 0 0 74 [.ref 164, .int (nI i), x2, x3, x4, .int (nI b), .int (nI lf), .int (nI len), .int (nI k + -1)] [] EE Mk Q := by
    intro k
    induction k with
    | zero =>
      intro Mk lf x2 x3 x4 hk hlf g0 g1 g2 g3 h5
      refine aw_iload (n := 76) dX8_takeSmall_74 rfl rfl ?_
      refine aw_if_lt (tg := 112) (n := 79) dX8_takeSmall_76 (by decide) rfl (fun c_76 => ?_) (fun c_76 => by exact absurd (by decide) c_76)
      refine aw_vret dX8_takeSmall_112 rfl ?_
      refine hQ _ ⟨by rw [len_lR]; omega, by rw [len_lR]; exact g0, fun q hq => ?_⟩ g1 g2 g3
      rw [len_lR] at hq
      rw [getD_lR _ _ _ hq]; exact h5 q (Nat.zero_le _) hq
    | succ k ih =>
      intro Mk lf x2 x3 x4 hk hlf g0 g1 g2 g3 h5
      have hlfj : lf ≤ j := by
        rw [hlf]; exact Nat.le_trans (Nat.div_le_self _ _) hleft
      have hin : vp_in (nI (16 * i + k)) 48 := vp_in_nI (by omega) (by decide)
      have hkk : (nI (16 * i + k)).toNatClampNeg = 16 * i + k := nI_clamp (by omega)
      have ek : (16 : Int32) * nI i + nI k = nI (16 * i + k) := by rw [show (16 : Int32) = nI 16 from rfl, pk_mul, nI_add]
      have e1 : nI lf - nI lf / nI b * nI b = nI (lf % b) := pk_rem (by omega) (by omega) (by omega)
      have e2 : nI lf / nI b = nI (lf / b) := pk_div (by omega) (by omega) (by omega)
      have hlf2 : lf / b = left / b ^ (len - k) := by
        rw [hlf, Nat.div_div_eq_div_mul, ← Nat.pow_succ]
        congr 2; omega
      rw [pk_m1]
      refine aw_iload (n := 76) dX8_takeSmall_74 rfl rfl ?_
      refine aw_if_lt (tg := 112) (n := 79) dX8_takeSmall_76 (by decide) rfl (fun c_76 => by exact absurd c_76 (nI_pos (by omega))) (fun c_76 => ?_)
      refine aw_aload_n (n := 80) dX8_takeSmall_79 rfl rfl ?_
      refine aw_getr (n := 83) dX8_takeSmall_80 fX8_31 E_164 rfl rfl ?_
      refine aw_bipush (n := 85) (v := 16) dX8_takeSmall_83 (by decide) rfl ?_
      refine aw_iload_n (n := 86) dX8_takeSmall_85 rfl rfl ?_
      refine aw_imul (n := 87) dX8_takeSmall_86 rfl ?_
      refine aw_iload (n := 89) dX8_takeSmall_87 rfl rfl ?_
      refine aw_iadd (n := 90) dX8_takeSmall_89 rfl ?_
      rw [ek]
      refine aw_iload (n := 92) dX8_takeSmall_90 rfl rfl ?_
      refine aw_iload (n := 94) dX8_takeSmall_92 rfl rfl ?_
      refine aw_irem (n := 95) dX8_takeSmall_94 (by first | assumption | decide) rfl ?_
      rw [e1]
      refine aw_s1 (d1 := d - 1) (n := 98) (Z := mX8_ranked) (L0 := [_]) dX8_takeSmall_95 kX8_ranked gX8_264 syX8_ranked rfl (Nat.le_of_ble_eq_true rfl) rfl rfl (by omega) (Nat.le_of_ble_eq_true rfl) (m_ranked (by have := Nat.mod_le lf b; omega) ?_)
      dsimp only [aPush]
      refine aw_iast (n := 99) dX8_takeSmall_98 E_172 (by assumption) rfl ?_
      refine aw_iload (n := 101) dX8_takeSmall_99 rfl rfl ?_
      refine aw_iload (n := 103) dX8_takeSmall_101 rfl rfl ?_
      refine aw_idiv (n := 104) dX8_takeSmall_103 (by first | assumption | decide) rfl ?_
      rw [e2]
      refine aw_istore (n := 106) (L' := [_, _, _, _, _, _, _, _, _]) dX8_takeSmall_104 (Nat.le_of_ble_eq_true rfl) rfl rfl ?_
      refine aw_incm (n := 109) (L' := [_, _, _, _, _, _, _, _, _]) dX8_takeSmall_106 rfl rfl rfl ?_
      refine aw_goto (n := 74) dX8_takeSmall_109 (by decide) ?_
      rw [hkk]
      refine ih _ (lf / b) _ _ _ (by omega) hlf2 ?_ (fun q hq => ?_) (fun q hq => ?_) (fun q a c => ?_) (fun q hq1 hq2 => ?_)
      · rw [up2_a _ _ (by decide)]; exact g0
      · rw [up2_a _ _ (by decide)]; exact g1 q hq
      · rw [up2_k _ _ (by omega)]; exact g2 q hq
      · rw [up2_ra _ _ c]; exact g3 q a c
      · by_cases hik : q = k
        · subst hik; rw [up2_s, hlf, show len - (q + 1) = len - 1 - q by omega]
        · rw [up2_k _ _ (by omega)]; exact h5 q (by omega) hq2
  have fin : ∀ x2 x3 x4, aw l K mX8_takeSmall d 0 0 60 [.ref 164, .int (nI i), x2, x3, x4, .int (nI b), .int (nI left), .int (nI len), .null] [] EE M Q := by
    intro x2 x3 x4
    refine aw_aload_n (n := 61) dX8_takeSmall_60 rfl rfl ?_
    refine aw_getr (n := 64) dX8_takeSmall_61 fX8_28 E_164 rfl rfl ?_
    refine aw_iload_n (n := 65) dX8_takeSmall_64 rfl rfl ?_
    refine aw_iload (n := 67) dX8_takeSmall_65 rfl rfl ?_
    refine aw_iast (n := 68) dX8_takeSmall_67 E_171 (by assumption) rfl ?_
    refine aw_iload (n := 70) dX8_takeSmall_68 rfl rfl ?_
    refine aw_iconst (n := 71) (v := 1) dX8_takeSmall_70 (by decide) rfl ?_
    refine aw_isub (n := 72) dX8_takeSmall_71 rfl ?_
    refine aw_istore (n := 74) (L' := [_, _, _, _, _, _, _, _, _]) dX8_takeSmall_72 (Nat.le_of_ble_eq_true rfl) rfl rfl ?_
    rw [hii, Int32.sub_eq_add_neg]
    exact second len _ left _ _ _ (Nat.le_refl _) (by rw [Nat.sub_self, Nat.pow_zero, Nat.div_one]) (up2_s _ _ _ _) (fun q hq => up2_k _ _ hq) (fun q hq => up2_a _ _ (by decide)) (fun q a c => up2_ra _ _ a) (fun q h1 h2 => by omega)
  have first : ∀ f lf ln x2 x3 x4, f + ln = m → lf ≤ j → lf + gz b ln < gz b (m + 1) → rl b f lf (b ^ ln) ln = (len, left) → aw l K mX8_takeSmall d 0 0 30 [.ref 164, .int (nI i), x2, x3, x4, .int (nI b), .int (nI lf), .int (nI ln), .null] [] EE M Q := by
    intro f
    induction f with
    | zero =>
      intro lf ln x2 x3 x4 hfl hlf hg hr
      have h1 : ln = len ∧ lf = left := by
        have : (ln, lf) = (len, left) := hr
        exact ⟨congrArg Prod.fst this, congrArg Prod.snd this⟩
      obtain rfl : ln = m := by omega
      rw [gz_s] at hg
      have hp343 : b ^ ln ≤ 343 := by
        have h1 : b ^ ln ≤ 7 ^ ln := Nat.pow_le_pow_left hb7 ln
        have h2 : 7 ^ ln ≤ 7 ^ 3 := Nat.pow_le_pow_right (by decide) hm
        have h3 : (7 : Nat) ^ 3 = 343 := by decide
        omega
      refine aw_iload (n := 32) dX8_takeSmall_30 rfl rfl ?_
      refine aw_iload (n := 34) dX8_takeSmall_32 rfl rfl ?_
      refine aw_iload (n := 36) dX8_takeSmall_34 rfl rfl ?_
      refine aw_s2 (d1 := d - 1) (n := 39) (Z := mX8_power) (L0 := [_, _, .null, .null]) dX8_takeSmall_36 kX8_power gX8_255 syX8_power rfl rfl (Nat.le_of_ble_eq_true rfl) rfl rfl (by omega) (Nat.le_of_ble_eq_true rfl) (m_power (by omega) ?_)
      dsimp only [aPush]
      refine aw_icmp_lt (tg := 60) (n := 42) dX8_takeSmall_39 (by decide) rfl (fun c_39 => ?_) (fun c_39 => by exact absurd ((nI_ltI (by omega) (by omega)).mpr (by omega)) c_39)
      rw [h1.1, h1.2]; exact fin _ _ _
    | succ f ih =>
      intro lf ln x2 x3 x4 hfl hlf hg hr
      have hp343 : b ^ ln ≤ 343 := by
        have h1 : b ^ ln ≤ 7 ^ ln := Nat.pow_le_pow_left hb7 ln
        have h2 : 7 ^ ln ≤ 7 ^ 3 := Nat.pow_le_pow_right (by decide) (by omega)
        have h3 : (7 : Nat) ^ 3 = 343 := by decide
        omega
      unfold rl at hr
      refine aw_iload (n := 32) dX8_takeSmall_30 rfl rfl ?_
      refine aw_iload (n := 34) dX8_takeSmall_32 rfl rfl ?_
      refine aw_iload (n := 36) dX8_takeSmall_34 rfl rfl ?_
      refine aw_s2 (d1 := d - 1) (n := 39) (Z := mX8_power) (L0 := [_, _, .null, .null]) dX8_takeSmall_36 kX8_power gX8_255 syX8_power rfl rfl (Nat.le_of_ble_eq_true rfl) rfl rfl (by omega) (Nat.le_of_ble_eq_true rfl) (m_power (by omega) ?_)
      dsimp only [aPush]
      refine aw_icmp_lt (tg := 60) (n := 42) dX8_takeSmall_39 (by decide) rfl (fun c_39 => ?_) (fun c_39 => ?_)
      · rw [if_pos ((nI_ltI (by omega) (by omega)).mp c_39)] at hr
        have h1 : ln = len ∧ lf = left := ⟨congrArg Prod.fst hr, congrArg Prod.snd hr⟩
        rw [h1.1, h1.2]; exact fin _ _ _
      · refine aw_iload (n := 44) dX8_takeSmall_42 rfl rfl ?_
        refine aw_iload (n := 46) dX8_takeSmall_44 rfl rfl ?_
        refine aw_iload (n := 48) dX8_takeSmall_46 rfl rfl ?_
        refine aw_s2 (d1 := d - 1) (n := 51) (Z := mX8_power) (L0 := [_, _, .null, .null]) dX8_takeSmall_48 kX8_power gX8_255 syX8_power rfl rfl (Nat.le_of_ble_eq_true rfl) rfl rfl (by omega) (Nat.le_of_ble_eq_true rfl) (m_power (by omega) ?_)
        dsimp only [aPush]
        refine aw_isub (n := 52) dX8_takeSmall_51 rfl ?_
        refine aw_istore (n := 54) (L' := [_, _, _, _, _, _, _, _, _]) dX8_takeSmall_52 (Nat.le_of_ble_eq_true rfl) rfl rfl ?_
        refine aw_incp (n := 57) (L' := [_, _, _, _, _, _, _, _, _]) dX8_takeSmall_54 rfl rfl rfl ?_
        refine aw_goto (n := 30) dX8_takeSmall_57 (by decide) ?_
        have hnl : ¬ lf < b ^ ln := fun q => c_39 ((nI_ltI (by omega) (by omega)).mpr q)
        rw [if_neg hnl, ← Nat.pow_succ] at hr
        rw [nI_1, pk_sub (by omega)]
        refine ih (lf - b ^ ln) (ln + 1) _ _ _ (by omega) (by omega) ?_ hr
        have := gz_s b ln
        omega
  refine aw_iload_n (n := 1) dX8_takeSmall_0 rfl rfl ?_
  refine aw_if_ne (tg := 16) (n := 4) dX8_takeSmall_1 (by decide) rfl (fun _ => ?_) (fun c_1 => by first | exact absurd rfl c_1 | exact absurd c_1 (by decide))
  refine aw_iconst (n := 17) (v := 2) dX8_takeSmall_16 (by decide) rfl ?_
  refine aw_iload_n (n := 18) dX8_takeSmall_17 rfl rfl ?_
  refine aw_imul (n := 19) dX8_takeSmall_18 rfl ?_
  refine aw_iconst (n := 20) (v := 1) dX8_takeSmall_19 (by decide) rfl ?_
  refine aw_iadd (n := 21) dX8_takeSmall_20 rfl ?_
  rw [e21, ← hb]
  refine aw_istore (n := 23) (L' := [_, _, _, _, _, _, _, _, _]) dX8_takeSmall_21 (Nat.le_of_ble_eq_true rfl) rfl rfl ?_
  refine aw_iload (n := 25) dX8_takeSmall_23 rfl rfl ?_
  refine aw_istore (n := 27) (L' := [_, _, _, _, _, _, _, _, _]) dX8_takeSmall_25 (Nat.le_of_ble_eq_true rfl) rfl rfl ?_
  refine aw_iconst (n := 28) (v := 0) dX8_takeSmall_27 (by decide) rfl ?_
  refine aw_istore (n := 30) (L' := [_, _, _, _, _, _, _, _, _]) dX8_takeSmall_28 (Nat.le_of_ble_eq_true rfl) rfl rfl ?_
  exact first m j 0 _ _ _ (by omega) (Nat.le_refl _) (by have : gz b 0 = 0 := rfl; omega) (by rw [Nat.pow_zero]; exact hrl)
end MSMALL
