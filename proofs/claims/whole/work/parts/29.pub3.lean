def isPB (np : Nat) (x : Int32) : Bool := hasB np x
section PUB3
variable {l : Launch} {K : aK} {d : Nat} {M : aM} {Q : Option Value → aE → aM → Prop}
theorem t_isProperty {np : Nat} {x : Int32} (hM : M 0 7 = nI np) (hQ : Q (some (.int (b2 (hasB np x)))) EE M) : aw l K mX7_isProperty d 0 0 0 [.ref 0, .int x] [] EE M Q := by
  have e0 := E_0
  refine aw_iload_n (n := 1) dX7_isProperty_0 rfl rfl ?_
  refine aw_if_lt (tg := 16) (n := 4) dX7_isProperty_1 (by decide) rfl (fun c_1 => ?_) (fun c_1 => ?_)
  · refine aw_iconst (n := 17) (v := 0) dX7_isProperty_16 (by decide) rfl ?_
    refine aw_zret dX7_isProperty_17 rfl (by first | exact Or.inl rfl | exact Or.inr rfl | assumption) ?_
    rw [show hasB np x = false by simp [hasB, c_1]] at hQ; exact hQ
  · refine aw_iload_n (n := 5) dX7_isProperty_4 rfl rfl ?_
    refine aw_aload_n (n := 6) dX7_isProperty_5 rfl rfl ?_
    refine aw_geti (n := 9) dX7_isProperty_6 fX7_56 (by assumption) rfl rfl ?_
    rw [hM]
    refine aw_icmp_ge (tg := 16) (n := 12) dX7_isProperty_9 (by decide) rfl (fun c_9 => ?_) (fun c_9 => ?_)
    · refine aw_iconst (n := 17) (v := 0) dX7_isProperty_16 (by decide) rfl ?_
      refine aw_zret dX7_isProperty_17 rfl (by first | exact Or.inl rfl | exact Or.inr rfl | assumption) ?_
      rw [show hasB np x = false by simp [hasB, c_9]] at hQ; exact hQ
    · refine aw_iconst (n := 13) (v := 1) dX7_isProperty_12 (by decide) rfl ?_
      refine aw_goto (n := 17) dX7_isProperty_13 (by decide) ?_
      refine aw_zret dX7_isProperty_17 rfl (by first | exact Or.inl rfl | exact Or.inr rfl | assumption) ?_
      rw [show hasB np x = true by simp only [hasB, decide_eq_true c_1, decide_eq_true c_9, Bool.and_self]] at hQ; exact hQ
def smB (m : Int32) : Bool := decide (¬ m < 0) && decide (¬ 3 < m)
theorem t_isSmall {E : aE} {m : Int32} (hQ : Q (some (.int (b2 (smB m)))) E M) : aw l K mX7_isSmall d 0 0 0 [.int m] [] E M Q := by
  refine aw_iload_n (n := 1) dX7_isSmall_0 rfl rfl ?_
  refine aw_if_lt (tg := 13) (n := 4) dX7_isSmall_1 (by decide) rfl (fun c_1 => ?_) (fun c_1 => ?_)
  · refine aw_iconst (n := 14) (v := 0) dX7_isSmall_13 (by decide) rfl ?_
    refine aw_zret dX7_isSmall_14 rfl (by first | exact Or.inl rfl | exact Or.inr rfl | assumption) ?_
    rw [show smB m = false by simp [smB, c_1]] at hQ; exact hQ
  · refine aw_iload_n (n := 5) dX7_isSmall_4 rfl rfl ?_
    refine aw_iconst (n := 6) (v := 3) dX7_isSmall_5 (by decide) rfl ?_
    refine aw_icmp_gt (tg := 13) (n := 9) dX7_isSmall_6 (by decide) rfl (fun c_6 => ?_) (fun c_6 => ?_)
    · refine aw_iconst (n := 14) (v := 0) dX7_isSmall_13 (by decide) rfl ?_
      refine aw_zret dX7_isSmall_14 rfl (by first | exact Or.inl rfl | exact Or.inr rfl | assumption) ?_
      rw [show smB m = false by simp [smB, c_6]] at hQ; exact hQ
    · refine aw_iconst (n := 10) (v := 1) dX7_isSmall_9 (by decide) rfl ?_
      refine aw_goto (n := 14) dX7_isSmall_10 (by decide) ?_
      refine aw_zret dX7_isSmall_14 rfl (by first | exact Or.inl rfl | exact Or.inr rfl | assumption) ?_
      rw [show smB m = true by simp only [smB, decide_eq_true c_1, decide_eq_true c_6, Bool.and_self]] at hQ; exact hQ
def nB' (n : Int32) : Bool := decide (¬ n < 1) && decide (¬ 200 < n)
theorem t_runBad {np : Nat} {x n seed : Int32} (hd : 1 ≤ d) (hM : M 0 7 = nI np) (hb : (hasB np x && nB' n) = false) (hQ : Q (some (.int (-1))) EE M) : aw l K mX7_run d 0 0 0 [.ref 0, .int x, .int n, .int seed, .null, .null] [] EE M Q := by
  have e0 := E_0
  refine aw_aload_n (n := 1) dX7_run_0 rfl rfl ?_
  refine aw_iload_n (n := 2) dX7_run_1 rfl rfl ?_
  refine aw_v1 (d1 := d - 1) (n := 5) (Z := mX7_isProperty) (ci := 5) (L0 := [_, _]) dX7_run_2 kX7_isProperty gX7_98 iyX7_isProperty eyX7_isProperty rfl rfl (by assumption) rfl (Nat.le_of_ble_eq_true rfl) rfl rfl (by omega) (Nat.le_of_ble_eq_true rfl) (t_isProperty hM ?_)
  dsimp only [aPush]
  refine aw_if_eq (tg := 20) (n := 8) dX7_run_5 (by decide) rfl (fun c_5 => ?_) (fun c_5 => ?_)
  · refine aw_iconst (n := 21) (v := -1) dX7_run_20 (by decide) rfl ?_
    refine aw_iret dX7_run_21 rfl ?_
    exact hQ
  · refine aw_iload_n (n := 9) dX7_run_8 rfl rfl ?_
    refine aw_iconst (n := 10) (v := 1) dX7_run_9 (by decide) rfl ?_
    refine aw_icmp_lt (tg := 20) (n := 13) dX7_run_10 (by decide) rfl (fun c_10 => ?_) (fun c_10 => ?_)
    · refine aw_iconst (n := 21) (v := -1) dX7_run_20 (by decide) rfl ?_
      refine aw_iret dX7_run_21 rfl ?_
      exact hQ
    · refine aw_iload_n (n := 14) dX7_run_13 rfl rfl ?_
      refine aw_sipush (n := 17) (v := 200) dX7_run_14 (by decide) rfl ?_
      refine aw_icmp_le (tg := 22) (n := 20) dX7_run_17 (by decide) rfl (fun c_17 => ?_) (fun c_17 => ?_)
      · exact absurd hb (by rw [nzb c_5, show nB' n = true by simp only [nB', decide_eq_true c_10, decide_eq_true (i_nlt.mpr c_17), Bool.and_self]]; decide)
      · refine aw_iconst (n := 21) (v := -1) dX7_run_20 (by decide) rfl ?_
        refine aw_iret dX7_run_21 rfl ?_
        exact hQ
theorem t_runFull {np k n tr : Nat} {seed : Int32} (hd : 1 ≤ d) (hM : M 0 7 = nI np) (hnp : np ≤ 8) (hT : M 1 4 = nI tr) (htr : tr ≤ 3000) (hk : k < np) (hn1 : 1 ≤ n) (hn2 : n ≤ 200) (hb : ¬ tr + n + 200 ≤ 3000) (hQ : Q (some (.int (-2))) EE M) : aw l K mX7_run d 0 0 0 [.ref 0, .int (nI k), .int (nI n), .int seed, .null, .null] [] EE M Q := by
  have e0 := E_0
  have e1 := E_1
  refine aw_aload_n (n := 1) dX7_run_0 rfl rfl ?_
  refine aw_iload_n (n := 2) dX7_run_1 rfl rfl ?_
  refine aw_v1 (d1 := d - 1) (n := 5) (Z := mX7_isProperty) (ci := 5) (L0 := [_, _]) dX7_run_2 kX7_isProperty gX7_98 iyX7_isProperty eyX7_isProperty rfl rfl (by assumption) rfl (Nat.le_of_ble_eq_true rfl) rfl rfl (by omega) (Nat.le_of_ble_eq_true rfl) (t_isProperty hM ?_)
  dsimp only [aPush]
  rw [isNo_has (by omega) ⟨k, hk, rfl⟩]
  refine aw_if_eq (tg := 20) (n := 8) dX7_run_5 (by decide) rfl (fun c_5 => by exact absurd c_5 (by decide)) (fun c_5 => ?_)
  refine aw_iload_n (n := 9) dX7_run_8 rfl rfl ?_
  refine aw_iconst (n := 10) (v := 1) dX7_run_9 (by decide) rfl ?_
  refine aw_icmp_lt (tg := 20) (n := 13) dX7_run_10 (by decide) rfl (fun c_10 => by exact absurd c_10 (nI_nlt (b := 1) (by omega) (by omega))) (fun c_10 => ?_)
  refine aw_iload_n (n := 14) dX7_run_13 rfl rfl ?_
  refine aw_sipush (n := 17) (v := 200) dX7_run_14 (by decide) rfl ?_
  refine aw_icmp_le (tg := 22) (n := 20) dX7_run_17 (by decide) rfl (fun c_17 => ?_) (fun c_17 => by exact absurd (nI_le (b := 200) (by omega) (by decide)) c_17)
  refine aw_aload_n (n := 23) dX7_run_22 rfl rfl ?_
  refine aw_getr (n := 26) dX7_run_23 fX7_10 (by assumption) rfl rfl ?_
  refine aw_geti (n := 29) dX7_run_26 fX7_101 (by assumption) rfl rfl ?_
  refine aw_iload_n (n := 30) dX7_run_29 rfl rfl ?_
  rw [hT]
  refine aw_iadd (n := 31) dX7_run_30 rfl ?_
  rw [nI_add]
  refine aw_sipush (n := 34) (v := 200) dX7_run_31 (by decide) rfl ?_
  refine aw_iadd (n := 35) dX7_run_34 rfl ?_
  rw [show (200 : Int32) = nI 200 from rfl, nI_add]
  refine aw_sipush (n := 38) (v := 3000) dX7_run_35 (by decide) rfl ?_
  refine aw_icmp_le (tg := 44) (n := 41) dX7_run_38 (by decide) rfl (fun c_38 => by exact absurd c_38 (nI_ge (a := 3000) (by omega) (by omega))) (fun c_38 => ?_)
  refine aw_bipush (n := 43) (v := -2) dX7_run_41 (by decide) rfl ?_
  refine aw_iret dX7_run_43 rfl ?_
  exact hQ
theorem t_smallBad {np : Nat} {x m : Int32} (hd : 1 ≤ d) (hM : M 0 7 = nI np) (hb : (hasB np x && smB m) = false) (hQ : Q (some (.int (-1))) EE M) : aw l K mX7_small d 0 0 0 [.ref 0, .int x, .int m, .null, .null] [] EE M Q := by
  have e0 := E_0
  refine aw_aload_n (n := 1) dX7_small_0 rfl rfl ?_
  refine aw_iload_n (n := 2) dX7_small_1 rfl rfl ?_
  refine aw_v1 (d1 := d - 1) (n := 5) (Z := mX7_isProperty) (ci := 5) (L0 := [_, _]) dX7_small_2 kX7_isProperty gX7_98 iyX7_isProperty eyX7_isProperty rfl rfl (by assumption) rfl (Nat.le_of_ble_eq_true rfl) rfl rfl (by omega) (Nat.le_of_ble_eq_true rfl) (t_isProperty hM ?_)
  dsimp only [aPush]
  refine aw_if_eq (tg := 15) (n := 8) dX7_small_5 (by decide) rfl (fun c_5 => ?_) (fun c_5 => ?_)
  · refine aw_iconst (n := 16) (v := -1) dX7_small_15 (by decide) rfl ?_
    refine aw_iret dX7_small_16 rfl ?_
    exact hQ
  · refine aw_iload_n (n := 9) dX7_small_8 rfl rfl ?_
    refine aw_s1 (d1 := d - 1) (n := 12) (Z := mX7_isSmall) (L0 := [_]) dX7_small_9 kX7_isSmall gX7_127 syX7_isSmall rfl (Nat.le_of_ble_eq_true rfl) rfl rfl (by omega) (Nat.le_of_ble_eq_true rfl) (t_isSmall ?_)
    dsimp only [aPush]
    refine aw_if_ne (tg := 17) (n := 15) dX7_small_12 (by decide) rfl (fun c_12 => ?_) (fun c_12 => ?_)
    · exact absurd hb (by rw [nzb c_5, nzb c_12]; decide)
    · refine aw_iconst (n := 16) (v := -1) dX7_small_15 (by decide) rfl ?_
      refine aw_iret dX7_small_16 rfl ?_
      exact hQ
theorem t_manyBad {np : Nat} {x m : Int32} (hd : 1 ≤ d) (hM : M 0 7 = nI np) (hb : (hasB np x && smB m) = false) (hQ : Q (some (.int (-1))) EE M) : aw l K mX7_many d 0 0 0 [.ref 0, .int x, .int m, .null] [] EE M Q := by
  have e0 := E_0
  refine aw_aload_n (n := 1) dX7_many_0 rfl rfl ?_
  refine aw_iload_n (n := 2) dX7_many_1 rfl rfl ?_
  refine aw_v1 (d1 := d - 1) (n := 5) (Z := mX7_isProperty) (ci := 5) (L0 := [_, _]) dX7_many_2 kX7_isProperty gX7_98 iyX7_isProperty eyX7_isProperty rfl rfl (by assumption) rfl (Nat.le_of_ble_eq_true rfl) rfl rfl (by omega) (Nat.le_of_ble_eq_true rfl) (t_isProperty hM ?_)
  dsimp only [aPush]
  refine aw_if_eq (tg := 15) (n := 8) dX7_many_5 (by decide) rfl (fun c_5 => ?_) (fun c_5 => ?_)
  · refine aw_iconst (n := 16) (v := -1) dX7_many_15 (by decide) rfl ?_
    refine aw_iret dX7_many_16 rfl ?_
    exact hQ
  · refine aw_iload_n (n := 9) dX7_many_8 rfl rfl ?_
    refine aw_s1 (d1 := d - 1) (n := 12) (Z := mX7_isSmall) (L0 := [_]) dX7_many_9 kX7_isSmall gX7_127 syX7_isSmall rfl (Nat.le_of_ble_eq_true rfl) rfl rfl (by omega) (Nat.le_of_ble_eq_true rfl) (t_isSmall ?_)
    dsimp only [aPush]
    refine aw_if_ne (tg := 17) (n := 15) dX7_many_12 (by decide) rfl (fun c_12 => ?_) (fun c_12 => ?_)
    · exact absurd hb (by rw [nzb c_5, nzb c_12]; decide)
    · refine aw_iconst (n := 16) (v := -1) dX7_many_15 (by decide) rfl ?_
      refine aw_iret dX7_many_16 rfl ?_
      exact hQ
theorem smB_nI {m : Nat} (hm : m ≤ 3) : smB (nI m) = true := by
  simp only [smB, Bool.and_eq_true, decide_eq_true_eq]
  exact ⟨nI_pos (by omega), nI_nlt (a := m) (b := 3) |> fun _ => i_nlt.mpr (nI_le (b := 3) hm (by decide))⟩
theorem t_many {cnt np k m : Nat} {T : tm} {P : Nat → pr} (hd : 4 ≤ d) (hA : cA cnt T np P M) (hnp : np ≤ 8) (hk : k < np) (hm : m ≤ 3) (hQ : Q (some (.int (if alS (P k) m ≤ 3000 then nI (alS (P k) m) else -2))) EE M) : aw l K mX7_many d 0 0 0 [.ref 0, .int (nI k), .int (nI m), .null] [] EE M Q := by
  have e0 := E_0
  have e145 := E_145r
  have hM := hA.2.2.1
  have hinp : vp_in (nI k) rPr.length := vp_in_nI (show k < 8 by omega) (by decide)
  have hrp : rPr[(nI k).toNatClampNeg]? = some (some (146 + 2 * k)) := by rw [nI_clamp (by omega)]; exact rPr_at k (by omega)
  obtain ⟨ip1, ip2⟩ := iP_at k (by omega)
  have hal := alS_le (P k) hm
  refine aw_aload_n (n := 1) dX7_many_0 rfl rfl ?_
  refine aw_iload_n (n := 2) dX7_many_1 rfl rfl ?_
  refine aw_v1 (d1 := d - 1) (n := 5) (Z := mX7_isProperty) (ci := 5) (L0 := [_, _]) dX7_many_2 kX7_isProperty gX7_98 iyX7_isProperty eyX7_isProperty rfl rfl (by assumption) rfl (Nat.le_of_ble_eq_true rfl) rfl rfl (by omega) (Nat.le_of_ble_eq_true rfl) (t_isProperty hM ?_)
  dsimp only [aPush]
  rw [isNo_has (by omega) ⟨k, hk, rfl⟩]
  refine aw_if_eq (tg := 15) (n := 8) dX7_many_5 (by decide) rfl (fun c_5 => by exact absurd c_5 (by decide)) (fun c_5 => ?_)
  refine aw_iload_n (n := 9) dX7_many_8 rfl rfl ?_
  refine aw_s1 (d1 := d - 1) (n := 12) (Z := mX7_isSmall) (L0 := [_]) dX7_many_9 kX7_isSmall gX7_127 syX7_isSmall rfl (Nat.le_of_ble_eq_true rfl) rfl rfl (by omega) (Nat.le_of_ble_eq_true rfl) (t_isSmall ?_)
  dsimp only [aPush]
  rw [smB_nI hm]
  refine aw_if_ne (tg := 17) (n := 15) dX7_many_12 (by decide) rfl (fun c_12 => ?_) (fun c_12 => by exact absurd c_12 (by decide))
  refine aw_aload_n (n := 18) dX7_many_17 rfl rfl ?_
  refine aw_getr (n := 21) dX7_many_18 fX7_44 (by assumption) rfl rfl ?_
  refine aw_iload_n (n := 22) dX7_many_21 rfl rfl ?_
  refine aw_aald (n := 23) dX7_many_22 (by assumption) (by decide) (by assumption) (by assumption) rfl ?_
  refine aw_getr (n := 26) dX7_many_23 fX7_107 (by assumption) rfl rfl ?_
  refine aw_iload_n (n := 27) dX7_many_26 rfl rfl ?_
  refine aw_s2 (d1 := d - 1) (n := 30) (Z := mX2_countFor) (L0 := [_, _, .null, .null]) dX7_many_27 kX2_countFor gX7_130 syX2_countFor rfl rfl (Nat.le_of_ble_eq_true rfl) rfl rfl (by omega) (Nat.le_of_ble_eq_true rfl) (t_countFor (p := P k) (by omega) hm ip2 (hA.2.2.2 k hk).1 ?_)
  dsimp only [aPush]
  refine aw_istore_n (n := 31) (L' := [_, _, _, _]) dX7_many_30 (Nat.le_of_ble_eq_true rfl) rfl rfl ?_
  refine aw_iload_n (n := 32) dX7_many_31 rfl rfl ?_
  refine aw_sipush (n := 35) (v := 3000) dX7_many_32 (by decide) rfl ?_
  refine aw_icmp_le (tg := 43) (n := 38) dX7_many_35 (by decide) rfl (fun c_35 => ?_) (fun c_35 => ?_)
  · refine aw_iload_n (n := 44) dX7_many_43 rfl rfl ?_
    refine aw_iret dX7_many_44 rfl ?_
    first
      | (rw [if_pos ((nI_leI (b := 3000) (by omega) (by decide)).mp c_35)] at hQ; exact hQ)
      | (rw [if_neg (fun q => c_35 (nI_le (b := 3000) q (by decide)))] at hQ; exact hQ)
  · refine aw_bipush (n := 40) (v := -2) dX7_many_38 (by decide) rfl ?_
    refine aw_goto (n := 44) dX7_many_40 (by decide) ?_
    refine aw_iret dX7_many_44 rfl ?_
    first
      | (rw [if_pos ((nI_leI (b := 3000) (by omega) (by decide)).mp c_35)] at hQ; exact hQ)
      | (rw [if_neg (fun q => c_35 (nI_le (b := 3000) q (by decide)))] at hQ; exact hQ)
theorem t_smallFull {cnt np k m tr : Nat} {T : tm} {P : Nat → pr} (hd : 4 ≤ d) (hA : cA cnt T np P M) (hnp : np ≤ 8) (hT : M 1 4 = nI tr) (htr : tr ≤ 3000) (hk : k < np) (hm : m ≤ 3) (hb : ¬ tr + alS (P k) m ≤ 3000) (hQ : Q (some (.int (-2))) EE M) : aw l K mX7_small d 0 0 0 [.ref 0, .int (nI k), .int (nI m), .null, .null] [] EE M Q := by
  have e0 := E_0
  have e1 := E_1
  have e145 := E_145r
  have hM := hA.2.2.1
  have hinp : vp_in (nI k) rPr.length := vp_in_nI (show k < 8 by omega) (by decide)
  have hrp : rPr[(nI k).toNatClampNeg]? = some (some (146 + 2 * k)) := by rw [nI_clamp (by omega)]; exact rPr_at k (by omega)
  obtain ⟨ip1, ip2⟩ := iP_at k (by omega)
  have hal := alS_le (P k) hm
  refine aw_aload_n (n := 1) dX7_small_0 rfl rfl ?_
  refine aw_iload_n (n := 2) dX7_small_1 rfl rfl ?_
  refine aw_v1 (d1 := d - 1) (n := 5) (Z := mX7_isProperty) (ci := 5) (L0 := [_, _]) dX7_small_2 kX7_isProperty gX7_98 iyX7_isProperty eyX7_isProperty rfl rfl (by assumption) rfl (Nat.le_of_ble_eq_true rfl) rfl rfl (by omega) (Nat.le_of_ble_eq_true rfl) (t_isProperty hM ?_)
  dsimp only [aPush]
  rw [isNo_has (by omega) ⟨k, hk, rfl⟩]
  refine aw_if_eq (tg := 15) (n := 8) dX7_small_5 (by decide) rfl (fun c_5 => by exact absurd c_5 (by decide)) (fun c_5 => ?_)
  refine aw_iload_n (n := 9) dX7_small_8 rfl rfl ?_
  refine aw_s1 (d1 := d - 1) (n := 12) (Z := mX7_isSmall) (L0 := [_]) dX7_small_9 kX7_isSmall gX7_127 syX7_isSmall rfl (Nat.le_of_ble_eq_true rfl) rfl rfl (by omega) (Nat.le_of_ble_eq_true rfl) (t_isSmall ?_)
  dsimp only [aPush]
  rw [smB_nI hm]
  refine aw_if_ne (tg := 17) (n := 15) dX7_small_12 (by decide) rfl (fun c_12 => ?_) (fun c_12 => by exact absurd c_12 (by decide))
  refine aw_aload_n (n := 18) dX7_small_17 rfl rfl ?_
  refine aw_getr (n := 21) dX7_small_18 fX7_44 (by assumption) rfl rfl ?_
  refine aw_iload_n (n := 22) dX7_small_21 rfl rfl ?_
  refine aw_aald (n := 23) dX7_small_22 (by assumption) (by decide) (by assumption) (by assumption) rfl ?_
  refine aw_getr (n := 26) dX7_small_23 fX7_107 (by assumption) rfl rfl ?_
  refine aw_iload_n (n := 27) dX7_small_26 rfl rfl ?_
  refine aw_s2 (d1 := d - 1) (n := 30) (Z := mX2_countFor) (L0 := [_, _, .null, .null]) dX7_small_27 kX2_countFor gX7_130 syX2_countFor rfl rfl (Nat.le_of_ble_eq_true rfl) rfl rfl (by omega) (Nat.le_of_ble_eq_true rfl) (t_countFor (p := P k) (by omega) hm ip2 (hA.2.2.2 k hk).1 ?_)
  dsimp only [aPush]
  refine aw_istore_n (n := 31) (L' := [_, _, _, _, _]) dX7_small_30 (Nat.le_of_ble_eq_true rfl) rfl rfl ?_
  refine aw_aload_n (n := 32) dX7_small_31 rfl rfl ?_
  refine aw_getr (n := 35) dX7_small_32 fX7_10 (by assumption) rfl rfl ?_
  refine aw_geti (n := 38) dX7_small_35 fX7_101 (by assumption) rfl rfl ?_
  refine aw_iload_n (n := 39) dX7_small_38 rfl rfl ?_
  rw [hT]
  refine aw_iadd (n := 40) dX7_small_39 rfl ?_
  rw [nI_add]
  refine aw_sipush (n := 43) (v := 3000) dX7_small_40 (by decide) rfl ?_
  refine aw_icmp_le (tg := 49) (n := 46) dX7_small_43 (by decide) rfl (fun c_43 => by exact absurd c_43 (nI_ge (a := 3000) (by omega) (by omega))) (fun c_43 => ?_)
  refine aw_bipush (n := 48) (v := -2) dX7_small_46 (by decide) rfl ?_
  refine aw_iret dX7_small_48 rfl ?_
  exact hQ
def smA (s : rS) : Int32 := if s.2.2.2.1 < 0 then 1 else 0
theorem t_small {cnt np k m : Nat} {T : tm} {P : Nat → pr} {s : rS} (hd : 146 ≤ d) (hW : wfA cnt T np P) (hA : cA cnt T np P M) (hk : k < np) (hS : cS s M) (hm : m ≤ 3) (htr : s.1 + alS (P k) m ≤ 3000)
    (hQ : ∀ M', cS (smlS T (P k) k m s.1 s.2.2.2.2) M' → fR0 M M' → Q (some (.int (smA (smlS T (P k) k m s.1 s.2.2.2.2)))) EE M') : aw l K mX7_small d 0 0 0 [.ref 0, .int (nI k), .int (nI m), .null, .null] [] EE M Q := by
  have e0 := E_0
  have e1 := E_1
  have e145 := E_145r
  have hM := hA.2.2.1
  have hnp8 : np ≤ 8 := hW.2.2.1
  have hinp : vp_in (nI k) rPr.length := vp_in_nI (show k < 8 by omega) (by decide)
  have hrp : rPr[(nI k).toNatClampNeg]? = some (some (146 + 2 * k)) := by rw [nI_clamp (by omega)]; exact rPr_at k (by omega)
  obtain ⟨ip1, ip2⟩ := iP_at k (by omega)
  have m14 : M 1 4 = nI s.1 := hS.1
  obtain ⟨N, hN⟩ : ∃ N, N = alS (P k) m := ⟨_, rfl⟩
  obtain ⟨sL, hsL⟩ : ∃ sL, sL = runL T (P k) k (smI (P k) m) N 0 (rS0 s.1 s.2.2.2.2) := ⟨_, rfl⟩
  have hsm : smlS T (P k) k m s.1 s.2.2.2.2 = sL := by rw [hsL, hN]; rfl
  rw [hsm] at hQ
  rw [← hN] at htr
  have fin : ∀ (M1 : aM) (x4 : Value), cS sL M1 → fR0 M M1 → aw l K mX7_small d 0 0 99 [.ref 0, .int (nI k), .int (nI m), .int (nI N), x4] [] EE M1 Q := by
    intro M1 x4 h1 h2
    have m08 : M1 0 8 = sL.2.2.2.1 := h1.2.2.2.1
    have h9 := hQ M1 h1 h2
    refine aw_aload_n (n := 100) dX7_small_99 rfl rfl ?_
    refine aw_geti (n := 103) dX7_small_100 fX7_60 (by assumption) rfl rfl ?_
    rw [m08]
    refine aw_if_lt (tg := 110) (n := 106) dX7_small_103 (by decide) rfl (fun c_103 => ?_) (fun c_103 => ?_)
    · refine aw_iconst (n := 111) (v := 1) dX7_small_110 (by decide) rfl ?_
      refine aw_iret dX7_small_111 rfl ?_
      first
        | (rw [show smA sL = 1 from if_pos c_103] at h9; exact h9)
        | (rw [show smA sL = 0 from if_neg c_103] at h9; exact h9)
    · refine aw_iconst (n := 107) (v := 0) dX7_small_106 (by decide) rfl ?_
      refine aw_goto (n := 111) dX7_small_107 (by decide) ?_
      refine aw_iret dX7_small_111 rfl ?_
      first
        | (rw [show smA sL = 1 from if_pos c_103] at h9; exact h9)
        | (rw [show smA sL = 0 from if_neg c_103] at h9; exact h9)
  have loop : ∀ f c (s' : rS) (M1 : aM), f + c = N → cS s' M1 → fR0 M M1 → sL = runL T (P k) k (smI (P k) m) f c s' → aw l K mX7_small d 0 0 56 [.ref 0, .int (nI k), .int (nI m), .int (nI N), .int (nI c)] [] EE M1 Q := by
    intro f
    induction f with
    | zero =>
      intro c s' M1 hc h1 h2 he
      obtain rfl : sL = s' := he
      refine aw_iload (n := 58) dX7_small_56 rfl rfl ?_
      refine aw_iload_n (n := 59) dX7_small_58 rfl rfl ?_
      refine aw_icmp_ge (tg := 99) (n := 62) dX7_small_59 (by decide) rfl (fun c_59 => ?_) (fun c_59 => by exact absurd (nI_le (by omega) (by omega)) c_59)
      exact fin M1 _ h1 h2
    | succ f ih =>
      intro c s' M1 hc h1 h2 he
      have m08 : M1 0 8 = s'.2.2.2.1 := h1.2.2.2.1
      have ht : ∀ i, i < 3 → M1 (146 + 2 * k + 1) i = P k i := fun i hi => by rw [h2.1 _ (by omega)]; exact (hA.2.2.2 k hk).1 i hi
      refine aw_iload (n := 58) dX7_small_56 rfl rfl ?_
      refine aw_iload_n (n := 59) dX7_small_58 rfl rfl ?_
      refine aw_icmp_ge (tg := 99) (n := 62) dX7_small_59 (by decide) rfl (fun c_59 => by exact absurd c_59 (nI_ge (by omega) (by omega))) (fun c_59 => ?_)
      refine aw_aload_n (n := 63) dX7_small_62 rfl rfl ?_
      refine aw_geti (n := 66) dX7_small_63 fX7_60 (by assumption) rfl rfl ?_
      rw [m08]
      refine aw_if_ge (tg := 99) (n := 69) dX7_small_66 (by decide) rfl (fun c_66 => ?_) (fun c_66 => ?_)
      · have hs : sL = s' := he.trans (if_neg (i_nlt.mpr c_66))
        subst hs
        exact fin M1 _ h1 h2
      · refine aw_aload_n (n := 70) dX7_small_69 rfl rfl ?_
        refine aw_getr (n := 73) dX7_small_70 fX7_25 (by assumption) rfl rfl ?_
        refine aw_aload_n (n := 74) dX7_small_73 rfl rfl ?_
        refine aw_getr (n := 77) dX7_small_74 fX7_44 (by assumption) rfl rfl ?_
        refine aw_iload_n (n := 78) dX7_small_77 rfl rfl ?_
        refine aw_aald (n := 79) dX7_small_78 (by assumption) (by decide) (by assumption) (by assumption) rfl ?_
        refine aw_getr (n := 82) dX7_small_79 fX7_107 (by assumption) rfl rfl ?_
        refine aw_iload_n (n := 83) dX7_small_82 rfl rfl ?_
        refine aw_iload (n := 85) dX7_small_83 rfl rfl ?_
        refine aw_s4 (d1 := d - 1) (n := 88) (Z := mX2_fill) (L0 := [_, _, _, _, .null, .null, .null]) dX7_small_85 kX2_fill gX7_136 syX2_fill rfl rfl rfl rfl (Nat.le_of_ble_eq_true rfl) rfl rfl (by omega) (Nat.le_of_ble_eq_true rfl) (t_fill (p := P k) (by omega) hm (by omega) ip2 (by omega) ht (fun M2 g1 g2 => ?_))
        dsimp only [aPush]
        have hlt : s'.2.2.2.1 < 0 := i_nle.mp c_66
        have f2 : fR0 M M2 := fR0_trans h2 ⟨fun q hq => g2 q (by omega), fun j _ => by rw [g2 0 (by omega)]⟩
        refine aw_aload_n (n := 89) dX7_small_88 rfl rfl ?_
        refine aw_iload_n (n := 90) dX7_small_89 rfl rfl ?_
        refine aw_v1 (d1 := d - 1) (n := 93) (Z := mX7_tryCase) (ci := 5) (L0 := [_, _, .null]) dX7_small_90 kX7_tryCase gX7_117 iyX7_tryCase eyX7_tryCase rfl rfl (by assumption) rfl (Nat.le_of_ble_eq_true rfl) rfl rfl (by omega) (Nat.le_of_ble_eq_true rfl) (t_tryCase (s := s') (inp := smI (P k) m c) (by omega) hW (cA_same hA f2 hnp8) hk g1 (cS_R0 h1 (by rw [g2 1 (by omega)]) (g2 162 (by omega)) (g2 163 (by omega)) (by rw [g2 0 (by omega)]) (fun q q1 q2 => g2 q (by omega))) hlt (fun M3 g3 g4 => ?_))
        dsimp only [aPush]
        refine aw_incp (n := 96) (L' := [_, _, _, _, _]) dX7_small_93 rfl rfl rfl ?_
        refine aw_goto (n := 56) dX7_small_96 (by decide) ?_
        rw [nI_1]
        exact ih (c + 1) (tcS T (P k) k (smI (P k) m c) s') M3 (by omega) g3 (fR0_trans f2 g4) (he.trans (if_pos hlt))
  refine aw_aload_n (n := 1) dX7_small_0 rfl rfl ?_
  refine aw_iload_n (n := 2) dX7_small_1 rfl rfl ?_
  refine aw_v1 (d1 := d - 1) (n := 5) (Z := mX7_isProperty) (ci := 5) (L0 := [_, _]) dX7_small_2 kX7_isProperty gX7_98 iyX7_isProperty eyX7_isProperty rfl rfl (by assumption) rfl (Nat.le_of_ble_eq_true rfl) rfl rfl (by omega) (Nat.le_of_ble_eq_true rfl) (t_isProperty hM ?_)
  dsimp only [aPush]
  rw [isNo_has (by omega) ⟨k, hk, rfl⟩]
  refine aw_if_eq (tg := 15) (n := 8) dX7_small_5 (by decide) rfl (fun c_5 => by exact absurd c_5 (by decide)) (fun c_5 => ?_)
  refine aw_iload_n (n := 9) dX7_small_8 rfl rfl ?_
  refine aw_s1 (d1 := d - 1) (n := 12) (Z := mX7_isSmall) (L0 := [_]) dX7_small_9 kX7_isSmall gX7_127 syX7_isSmall rfl (Nat.le_of_ble_eq_true rfl) rfl rfl (by omega) (Nat.le_of_ble_eq_true rfl) (t_isSmall ?_)
  dsimp only [aPush]
  rw [smB_nI hm]
  refine aw_if_ne (tg := 17) (n := 15) dX7_small_12 (by decide) rfl (fun c_12 => ?_) (fun c_12 => by exact absurd c_12 (by decide))
  refine aw_aload_n (n := 18) dX7_small_17 rfl rfl ?_
  refine aw_getr (n := 21) dX7_small_18 fX7_44 (by assumption) rfl rfl ?_
  refine aw_iload_n (n := 22) dX7_small_21 rfl rfl ?_
  refine aw_aald (n := 23) dX7_small_22 (by assumption) (by decide) (by assumption) (by assumption) rfl ?_
  refine aw_getr (n := 26) dX7_small_23 fX7_107 (by assumption) rfl rfl ?_
  refine aw_iload_n (n := 27) dX7_small_26 rfl rfl ?_
  refine aw_s2 (d1 := d - 1) (n := 30) (Z := mX2_countFor) (L0 := [_, _, .null, .null]) dX7_small_27 kX2_countFor gX7_130 syX2_countFor rfl rfl (Nat.le_of_ble_eq_true rfl) rfl rfl (by omega) (Nat.le_of_ble_eq_true rfl) (t_countFor (p := P k) (by omega) hm ip2 (hA.2.2.2 k hk).1 ?_)
  dsimp only [aPush]
  rw [← hN]
  refine aw_istore_n (n := 31) (L' := [_, _, _, _, _]) dX7_small_30 (Nat.le_of_ble_eq_true rfl) rfl rfl ?_
  refine aw_aload_n (n := 32) dX7_small_31 rfl rfl ?_
  refine aw_getr (n := 35) dX7_small_32 fX7_10 (by assumption) rfl rfl ?_
  refine aw_geti (n := 38) dX7_small_35 fX7_101 (by assumption) rfl rfl ?_
  refine aw_iload_n (n := 39) dX7_small_38 rfl rfl ?_
  rw [m14]
  refine aw_iadd (n := 40) dX7_small_39 rfl ?_
  rw [nI_add]
  refine aw_sipush (n := 43) (v := 3000) dX7_small_40 (by decide) rfl ?_
  refine aw_icmp_le (tg := 49) (n := 46) dX7_small_43 (by decide) rfl (fun c_43 => ?_) (fun c_43 => by exact absurd (nI_le (b := 3000) (by omega) (by decide)) c_43)
  refine aw_aload_n (n := 50) dX7_small_49 rfl rfl ?_
  refine aw_v0 (d1 := d - 1) (n := 53) (Z := mX7_forgetLatest) (ci := 5) (L0 := [_]) dX7_small_50 kX7_forgetLatest gX7_104 iyX7_forgetLatest eyX7_forgetLatest rfl rfl (by assumption) (Nat.le_of_ble_eq_true rfl) rfl rfl (by omega) (Nat.le_of_ble_eq_true rfl) (t_forget (s := s) (by omega) hS (fun M1 g1 g2 => ?_))
  dsimp only [aPush]
  refine aw_iconst (n := 54) (v := 0) dX7_small_53 (by decide) rfl ?_
  refine aw_istore (n := 56) (L' := [_, _, _, _, _]) dX7_small_54 (Nat.le_of_ble_eq_true rfl) rfl rfl ?_
  exact loop N 0 _ M1 (by omega) g1 g2 hsL
theorem t_againNone {s : rS} (hS : cS s M) (hb : s.2.2.2.1 < 0) (hQ : Q (some (.int (-2))) EE M) : aw l K mX7_again d 0 0 0 [.ref 0] [] EE M Q := by
  have e0 := E_0
  have m08 : M 0 8 = s.2.2.2.1 := hS.2.2.2.1
  refine aw_aload_n (n := 1) dX7_again_0 rfl rfl ?_
  refine aw_geti (n := 4) dX7_again_1 fX7_60 (by assumption) rfl rfl ?_
  rw [m08]
  refine aw_if_ge (tg := 10) (n := 7) dX7_again_4 (by decide) rfl (fun c_4 => by exact absurd hb (i_nlt.mpr c_4)) (fun c_4 => ?_)
  refine aw_bipush (n := 9) (v := -2) dX7_again_7 (by decide) rfl ?_
  refine aw_iret dX7_again_9 rfl ?_
  exact hQ
theorem t_againSpent {s : rS} (hS : cS s M) (hb : ¬ s.2.2.2.1 < 0) (h3 : s.1 = 3000) (hQ : Q (some (.int (-3))) EE M) : aw l K mX7_again d 0 0 0 [.ref 0] [] EE M Q := by
  have e0 := E_0
  have e1 := E_1
  have m08 : M 0 8 = s.2.2.2.1 := hS.2.2.2.1
  have m14 : M 1 4 = nI 3000 := by rw [hS.1, h3]
  refine aw_aload_n (n := 1) dX7_again_0 rfl rfl ?_
  refine aw_geti (n := 4) dX7_again_1 fX7_60 (by assumption) rfl rfl ?_
  rw [m08]
  refine aw_if_ge (tg := 10) (n := 7) dX7_again_4 (by decide) rfl (fun c_4 => ?_) (fun c_4 => by exact absurd (i_nlt.mp hb) c_4)
  refine aw_aload_n (n := 11) dX7_again_10 rfl rfl ?_
  refine aw_getr (n := 14) dX7_again_11 fX7_10 (by assumption) rfl rfl ?_
  refine aw_geti (n := 17) dX7_again_14 fX7_101 (by assumption) rfl rfl ?_
  refine aw_sipush (n := 20) (v := 3000) dX7_again_17 (by decide) rfl ?_
  rw [m14]
  refine aw_icmp_lt (tg := 26) (n := 23) dX7_again_20 (by decide) rfl (fun c_20 => by exact absurd c_20 (by decide)) (fun c_20 => ?_)
  refine aw_bipush (n := 25) (v := -3) dX7_again_23 (by decide) rfl ?_
  refine aw_iret dX7_again_25 rfl ?_
  exact hQ
theorem t_again {cnt np k : Nat} {T : tm} {P : Nat → pr} {s : rS} (hd : 142 ≤ d) (hW : wfA cnt T np P) (hA : cA cnt T np P M) (hS : cS s M) (hk : k < np) (hfl : s.2.2.2.1 = nI k) (h3 : s.1 < 3000)
    (hQ : ∀ M', cS (s.1 + 1, s.2.1, s.2.2.1, s.2.2.2.1, s.2.2.2.2) M' → fR0 M M' → Q (some (.int (outS T s.2.2.2.2 (P k 3) (P k 4) (P k 6)).2)) EE M') : aw l K mX7_again d 0 0 0 [.ref 0] [] EE M Q := by
  have e0 := E_0
  have e1 := E_1
  have e145 := E_145r
  have m08 : M 0 8 = nI k := hS.2.2.2.1.trans hfl
  have m14 : M 1 4 = nI s.1 := hS.1
  obtain ⟨w1, w2, w3, w4⟩ := hW
  obtain ⟨q1, q2, q3, q4⟩ := w4 k hk
  have hk8 : k < 8 := by omega
  have hnn : ¬ nI k < 0 := nI_pos (by omega)
  have hinp : vp_in (nI k) rPr.length := vp_in_nI (show k < 8 by omega) (by decide)
  have hrp : rPr[(nI k).toNatClampNeg]? = some (some (146 + 2 * k)) := by rw [nI_clamp (by omega)]; exact rPr_at k hk8
  refine aw_aload_n (n := 1) dX7_again_0 rfl rfl ?_
  refine aw_geti (n := 4) dX7_again_1 fX7_60 (by assumption) rfl rfl ?_
  rw [m08]
  refine aw_if_ge (tg := 10) (n := 7) dX7_again_4 (by decide) rfl (fun c_4 => ?_) (fun c_4 => by exact absurd (i_nlt.mp hnn) c_4)
  refine aw_aload_n (n := 11) dX7_again_10 rfl rfl ?_
  refine aw_getr (n := 14) dX7_again_11 fX7_10 (by assumption) rfl rfl ?_
  refine aw_geti (n := 17) dX7_again_14 fX7_101 (by assumption) rfl rfl ?_
  refine aw_sipush (n := 20) (v := 3000) dX7_again_17 (by decide) rfl ?_
  rw [m14]
  refine aw_icmp_lt (tg := 26) (n := 23) dX7_again_20 (by decide) rfl (fun c_20 => ?_) (fun c_20 => by exact absurd ((nI_ltI (b := 3000) (by omega) (by decide)).mpr h3) c_20)
  refine aw_aload_n (n := 27) dX7_again_26 rfl rfl ?_
  refine aw_getr (n := 30) dX7_again_27 fX7_32 (by assumption) rfl rfl ?_
  refine aw_aload_n (n := 31) dX7_again_30 rfl rfl ?_
  refine aw_getr (n := 34) dX7_again_31 fX7_25 (by assumption) rfl rfl ?_
  refine aw_s2 (d1 := d - 1) (n := 37) (Z := mX7_copyAll) (L0 := [_, _, .null]) dX7_again_34 kX7_copyAll gX7_140 syX7_copyAll rfl rfl (Nat.le_of_ble_eq_true rfl) rfl rfl (by omega) (Nat.le_of_ble_eq_true rfl) (t_toTried (inp := s.2.2.2.2) (by omega) (hS.2.2.2.2 (by rw [hfl]; exact hnn)) (fun M1 g1 g2 => ?_))
  dsimp only [aPush]
  have f1 : fR0 M M1 := ⟨fun q hq => g2 q (by omega), fun j _ => by rw [g2 0 (by omega)]⟩
  obtain ⟨A1, A2, A3, A4⟩ := cA_same hA f1 w3
  obtain ⟨p1, p2, p3, p4, p5⟩ := A4 k hk
  have m08' : M1 0 8 = nI k := by rw [g2 0 (by omega)]; exact m08
  refine aw_aload_n (n := 38) dX7_again_37 rfl rfl ?_
  refine aw_getr (n := 41) dX7_again_38 fX7_10 (by assumption) rfl rfl ?_
  refine aw_aload_n (n := 42) dX7_again_41 rfl rfl ?_
  refine aw_getr (n := 45) dX7_again_42 fX7_44 (by assumption) rfl rfl ?_
  refine aw_aload_n (n := 46) dX7_again_45 rfl rfl ?_
  refine aw_geti (n := 49) dX7_again_46 fX7_60 (by assumption) rfl rfl ?_
  rw [m08']
  refine aw_aald (n := 50) dX7_again_49 (by assumption) (by decide) (by assumption) (by assumption) rfl ?_
  refine aw_v1 (d1 := d - 1) (n := 53) (Z := mX6_outcome) (ci := 4) (L0 := [_, _, .null]) dX7_again_50 kX6_outcome gX7_144 iyX6_outcome eyX6_outcome rfl rfl (by assumption) rfl (Nat.le_of_ble_eq_true rfl) rfl rfl (by omega) (Nat.le_of_ble_eq_true rfl) (t_outcome (inp := s.2.2.2.2) (by omega) w1 w2 (iP_at k hk8) (by omega) A2 g1 p2 p3 p5 q2 q3 (fun M4 k1 k2 k3 => ?_))
  dsimp only [aPush]
  refine aw_iret dX7_again_53 rfl ?_
  refine hQ _ ⟨?_, ?_, ?_, ?_, ?_⟩ (fR0_trans f1 (fO_R0 k3))
  · rw [k3.2.1, g2 1 (by omega), m14, nI_1]
  · intro j hj; rw [k3.1 162 (by omega) (by omega), g2 162 (by omega)]; exact hS.2.1 j hj
  · intro j hj; rw [k3.1 163 (by omega) (by omega), g2 163 (by omega)]; exact hS.2.2.1 j hj
  · rw [k3.1 0 (by omega) (by omega), g2 0 (by omega)]; exact hS.2.2.2.1
  · intro hn i hi
    exact vAt_same (hS.2.2.2.2 hn i hi) (by rw [k3.1 _ (by omega) (by omega), g2 _ (by omega)]) (by rw [k3.1 _ (by omega) (by omega), g2 _ (by omega)])
theorem t_counter {s : rS} {x y : Int32} (hd : 1 ≤ d) (hS : cS s M) (hQ : Q (some (.int (if s.2.2.2.1 < 0 ∨ x < 0 ∨ 3 ≤ x then -2147483648 else rd (s.2.2.2.2 x.toNatClampNeg) y))) EE M) : aw l K mX7_counter d 0 0 0 [.ref 0, .int x, .int y] [] EE M Q := by
  have e0 := E_0
  have e136 := E_136r
  have m08 : M 0 8 = s.2.2.2.1 := hS.2.2.2.1
  by_cases hb : s.2.2.2.1 < 0 ∨ x < 0 ∨ 3 ≤ x
  · rw [if_pos hb] at hQ
    refine aw_aload_n (n := 1) dX7_counter_0 rfl rfl ?_
    refine aw_geti (n := 4) dX7_counter_1 fX7_60 (by assumption) rfl rfl ?_
    rw [m08]
    refine aw_if_lt (tg := 16) (n := 7) dX7_counter_4 (by decide) rfl (fun c_4 => ?_) (fun c_4 => ?_)
    · refine aw_ldc (n := 18) dX7_counter_16 qX7_148 rfl ?_
      refine aw_iret dX7_counter_18 rfl ?_
      exact hQ
    · refine aw_iload_n (n := 8) dX7_counter_7 rfl rfl ?_
      refine aw_if_lt (tg := 16) (n := 11) dX7_counter_8 (by decide) rfl (fun c_8 => ?_) (fun c_8 => ?_)
      · refine aw_ldc (n := 18) dX7_counter_16 qX7_148 rfl ?_
        refine aw_iret dX7_counter_18 rfl ?_
        exact hQ
      · refine aw_iload_n (n := 12) dX7_counter_11 rfl rfl ?_
        refine aw_iconst (n := 13) (v := 3) dX7_counter_12 (by decide) rfl ?_
        refine aw_icmp_lt (tg := 19) (n := 16) dX7_counter_13 (by decide) rfl (fun c_13 => ?_) (fun c_13 => ?_)
        · exact absurd hb (fun q => q.elim c_4 (fun q => q.elim c_8 (i_nle.mpr c_13)))
        · refine aw_ldc (n := 18) dX7_counter_16 qX7_148 rfl ?_
          refine aw_iret dX7_counter_18 rfl ?_
          exact hQ
  · rw [if_neg hb] at hQ
    have h1 : ¬ s.2.2.2.1 < 0 := fun q => hb (Or.inl q)
    obtain ⟨i, hi, rfl⟩ := vp_lt (k := x) (n := 3) (by decide) (fun q => hb (Or.inr (Or.inl q))) (fun q => hb (Or.inr (Or.inr q)))
    rw [nI_clamp (by omega)] at hQ
    have hin : vp_in (nI i) rSm.length := vp_in_nI (show i < 3 by omega) (by decide)
    have hr : rSm[(nI i).toNatClampNeg]? = some (some (137 + 2 * i)) := by rw [nI_clamp (by omega)]; exact rSm_at i hi
    have ix := (iV_sm i hi).1
    refine aw_aload_n (n := 1) dX7_counter_0 rfl rfl ?_
    refine aw_geti (n := 4) dX7_counter_1 fX7_60 (by assumption) rfl rfl ?_
    rw [m08]
    refine aw_if_lt (tg := 16) (n := 7) dX7_counter_4 (by decide) rfl (fun c_4 => by exact absurd c_4 h1) (fun c_4 => ?_)
    refine aw_iload_n (n := 8) dX7_counter_7 rfl rfl ?_
    refine aw_if_lt (tg := 16) (n := 11) dX7_counter_8 (by decide) rfl (fun c_8 => by exact absurd c_8 (nI_pos (by omega))) (fun c_8 => ?_)
    refine aw_iload_n (n := 12) dX7_counter_11 rfl rfl ?_
    refine aw_iconst (n := 13) (v := 3) dX7_counter_12 (by decide) rfl ?_
    refine aw_icmp_lt (tg := 19) (n := 16) dX7_counter_13 (by decide) rfl (fun c_13 => ?_) (fun c_13 => by exact absurd ((nI_ltI (b := 3) (by omega) (by decide)).mpr hi) c_13)
    refine aw_aload_n (n := 20) dX7_counter_19 rfl rfl ?_
    refine aw_getr (n := 23) dX7_counter_20 fX7_32 (by assumption) rfl rfl ?_
    refine aw_iload_n (n := 24) dX7_counter_23 rfl rfl ?_
    refine aw_aald (n := 25) dX7_counter_24 (by assumption) (by decide) (by assumption) (by assumption) rfl ?_
    refine aw_iload_n (n := 26) dX7_counter_25 rfl rfl ?_
    refine aw_v1 (d1 := d - 1) (n := 29) (Z := mX5_read) (ci := 3) (L0 := [_, _]) dX7_counter_26 kX5_read gX7_149 iyX5_read eyX5_read rfl rfl (by assumption) rfl (Nat.le_of_ble_eq_true rfl) rfl rfl (by omega) (Nat.le_of_ble_eq_true rfl) (t_read (iV_sm i hi) (hS.2.2.2.2 h1 i hi) ?_)
    dsimp only [aPush]
    refine aw_iret dX7_counter_29 rfl ?_
    exact hQ
def drB (c i ty : Int32) : Bool := decide (¬ c < 0) && decide (¬ 200 ≤ c) && decide (¬ i < 0) && decide (¬ 3 ≤ i) && decide (¬ ty < 0) && decide (¬ 1 < ty)
theorem t_drawnBad {seed c i ty k : Int32} (hb : drB c i ty = false) (hQ : Q (some (.int (-2147483648))) EE M) : aw l K mX7_drawn d 0 0 0 [.ref 0, .int seed, .int c, .int i, .int ty, .int k] [] EE M Q := by
  have e0 := E_0
  refine aw_iload_n (n := 1) dX7_drawn_0 rfl rfl ?_
  refine aw_if_lt (tg := 31) (n := 4) dX7_drawn_1 (by decide) rfl (fun c_1 => ?_) (fun c_1 => ?_)
  · refine aw_ldc (n := 33) dX7_drawn_31 qX7_148 rfl ?_
    refine aw_iret dX7_drawn_33 rfl ?_
    exact hQ
  · refine aw_iload_n (n := 5) dX7_drawn_4 rfl rfl ?_
    refine aw_sipush (n := 8) (v := 200) dX7_drawn_5 (by decide) rfl ?_
    refine aw_icmp_ge (tg := 31) (n := 11) dX7_drawn_8 (by decide) rfl (fun c_8 => ?_) (fun c_8 => ?_)
    · refine aw_ldc (n := 33) dX7_drawn_31 qX7_148 rfl ?_
      refine aw_iret dX7_drawn_33 rfl ?_
      exact hQ
    · refine aw_iload_n (n := 12) dX7_drawn_11 rfl rfl ?_
      refine aw_if_lt (tg := 31) (n := 15) dX7_drawn_12 (by decide) rfl (fun c_12 => ?_) (fun c_12 => ?_)
      · refine aw_ldc (n := 33) dX7_drawn_31 qX7_148 rfl ?_
        refine aw_iret dX7_drawn_33 rfl ?_
        exact hQ
      · refine aw_iload_n (n := 16) dX7_drawn_15 rfl rfl ?_
        refine aw_iconst (n := 17) (v := 3) dX7_drawn_16 (by decide) rfl ?_
        refine aw_icmp_ge (tg := 31) (n := 20) dX7_drawn_17 (by decide) rfl (fun c_17 => ?_) (fun c_17 => ?_)
        · refine aw_ldc (n := 33) dX7_drawn_31 qX7_148 rfl ?_
          refine aw_iret dX7_drawn_33 rfl ?_
          exact hQ
        · refine aw_iload (n := 22) dX7_drawn_20 rfl rfl ?_
          refine aw_if_lt (tg := 31) (n := 25) dX7_drawn_22 (by decide) rfl (fun c_22 => ?_) (fun c_22 => ?_)
          · refine aw_ldc (n := 33) dX7_drawn_31 qX7_148 rfl ?_
            refine aw_iret dX7_drawn_33 rfl ?_
            exact hQ
          · refine aw_iload (n := 27) dX7_drawn_25 rfl rfl ?_
            refine aw_iconst (n := 28) (v := 1) dX7_drawn_27 (by decide) rfl ?_
            refine aw_icmp_le (tg := 34) (n := 31) dX7_drawn_28 (by decide) rfl (fun c_28 => ?_) (fun c_28 => ?_)
            · exact absurd hb (by unfold drB; rw [decide_eq_true c_1, decide_eq_true c_8, decide_eq_true c_12, decide_eq_true c_17, decide_eq_true c_22, decide_eq_true (i_nlt.mpr c_28)]; decide)
            · refine aw_ldc (n := 33) dX7_drawn_31 qX7_148 rfl ?_
              refine aw_iret dX7_drawn_33 rfl ?_
              exact hQ
theorem t_drawn {c i : Nat} {seed ty k : Int32} (hd : 4 ≤ d) (hc : c < 200) (hi : i < 3) (hty : ¬ ty < 0 ∧ ¬ 1 < ty) (hQ : ∀ M', (∀ q, q ≠ 143 → q ≠ 144 → M' q = M q) → Q (some (.int (rd (drw seed c i ty) k))) EE M') : aw l K mX7_drawn d 0 0 0 [.ref 0, .int seed, .int (nI c), .int (nI i), .int ty, .int k] [] EE M Q := by
  have e0 := E_0
  have ix := iV_sh.1
  refine aw_iload_n (n := 1) dX7_drawn_0 rfl rfl ?_
  refine aw_if_lt (tg := 31) (n := 4) dX7_drawn_1 (by decide) rfl (fun c_1 => by exact absurd c_1 (nI_pos (by omega))) (fun c_1 => ?_)
  refine aw_iload_n (n := 5) dX7_drawn_4 rfl rfl ?_
  refine aw_sipush (n := 8) (v := 200) dX7_drawn_5 (by decide) rfl ?_
  refine aw_icmp_ge (tg := 31) (n := 11) dX7_drawn_8 (by decide) rfl (fun c_8 => by exact absurd c_8 (nI_ge (b := 200) hc (by decide))) (fun c_8 => ?_)
  refine aw_iload_n (n := 12) dX7_drawn_11 rfl rfl ?_
  refine aw_if_lt (tg := 31) (n := 15) dX7_drawn_12 (by decide) rfl (fun c_12 => by exact absurd c_12 (nI_pos (by omega))) (fun c_12 => ?_)
  refine aw_iload_n (n := 16) dX7_drawn_15 rfl rfl ?_
  refine aw_iconst (n := 17) (v := 3) dX7_drawn_16 (by decide) rfl ?_
  refine aw_icmp_ge (tg := 31) (n := 20) dX7_drawn_17 (by decide) rfl (fun c_17 => by exact absurd c_17 (nI_ge (b := 3) hi (by decide))) (fun c_17 => ?_)
  refine aw_iload (n := 22) dX7_drawn_20 rfl rfl ?_
  refine aw_if_lt (tg := 31) (n := 25) dX7_drawn_22 (by decide) rfl (fun c_22 => by exact absurd c_22 hty.1) (fun c_22 => ?_)
  refine aw_iload (n := 27) dX7_drawn_25 rfl rfl ?_
  refine aw_iconst (n := 28) (v := 1) dX7_drawn_27 (by decide) rfl ?_
  refine aw_icmp_le (tg := 34) (n := 31) dX7_drawn_28 (by decide) rfl (fun c_28 => ?_) (fun c_28 => by exact absurd (i_nlt.mp hty.2) c_28)
  refine aw_aload_n (n := 35) dX7_drawn_34 rfl rfl ?_
  refine aw_getr (n := 38) dX7_drawn_35 fX7_38 (by assumption) rfl rfl ?_
  refine aw_iload_n (n := 39) dX7_drawn_38 rfl rfl ?_
  refine aw_iload_n (n := 40) dX7_drawn_39 rfl rfl ?_
  refine aw_iload_n (n := 41) dX7_drawn_40 rfl rfl ?_
  refine aw_iload (n := 43) dX7_drawn_41 rfl rfl ?_
  refine aw_s5 (d1 := d - 1) (n := 46) (Z := mX0_into) (L0 := [_, _, _, _, _, .null, .null, .null]) dX7_drawn_43 kX0_into gX7_111 syX0_into rfl rfl rfl rfl rfl (Nat.le_of_ble_eq_true rfl) rfl rfl (by omega) (Nat.le_of_ble_eq_true rfl) (t_drawInto (by omega) iV_sh hc hi (fun M1 g1 g2 => ?_))
  dsimp only [aPush]
  refine aw_aload_n (n := 47) dX7_drawn_46 rfl rfl ?_
  refine aw_getr (n := 50) dX7_drawn_47 fX7_38 (by assumption) rfl rfl ?_
  refine aw_iload (n := 52) dX7_drawn_50 rfl rfl ?_
  refine aw_v1 (d1 := d - 1) (n := 55) (Z := mX5_read) (ci := 3) (L0 := [_, _]) dX7_drawn_52 kX5_read gX7_149 iyX5_read eyX5_read rfl rfl (by assumption) rfl (Nat.le_of_ble_eq_true rfl) rfl rfl (by omega) (Nat.le_of_ble_eq_true rfl) (t_read iV_sh g1 ?_)
  dsimp only [aPush]
  refine aw_iret dX7_drawn_55 rfl ?_
  exact hQ _ g2
def toldS (cnt np : Nat) (s : rS) (x : Int32) : Int32 := if x < 0 ∨ 11 ≤ x then -1 else if x = 8 then nI cnt else if x = 9 then nI np else if x = 10 then nI s.1 else s.2.1 x.toNatClampNeg
theorem t_told {cnt np : Nat} {T : tm} {P : Nat → pr} {s : rS} {x : Int32} (hd : 1 ≤ d) (hA : cA cnt T np P M) (hS : cS s M) (h7 : s.2.1 7 = 0 ∨ s.2.1 7 = 1) (hQ : Q (some (.int (toldS cnt np s x))) EE M) : aw l K mX7_told d 0 0 0 [.ref 0, .int x] [] EE M Q := by
  have e0 := E_0
  have e1 := E_1
  have e2 := E_2
  have e162 := E_162
  by_cases hb : x < 0 ∨ 11 ≤ x
  · rw [show toldS cnt np s x = -1 from if_pos hb] at hQ
    have hx : x.toInt < 0 ∨ 11 ≤ x.toInt := hb.elim (fun q => Or.inl (by rw [Int32.lt_iff_toInt_lt, ti_0] at q; exact q)) (fun q => Or.inr (by rw [Int32.le_iff_toInt_le] at q; exact q))
    refine aw_iload_n (n := 1) dX7_told_0 rfl rfl ?_
    refine aw_tswOut (n := 49) dX7_told_1 (by omega) (by decide) ?_
    refine aw_aload_n (n := 50) dX7_told_49 rfl rfl ?_
    refine aw_getr (n := 53) dX7_told_50 fX7_52 (by assumption) rfl rfl ?_
    refine aw_iload_n (n := 54) dX7_told_53 rfl rfl ?_
    refine aw_v1 (d1 := d - 1) (n := 57) (Z := mX3_read) (ci := 1) (L0 := [_, _]) dX7_told_54 kX3_read gX7_153 iyX3_read eyX3_read rfl rfl (by assumption) rfl (Nat.le_of_ble_eq_true rfl) rfl rfl (by omega) (Nat.le_of_ble_eq_true rfl) ?_
    refine aw_iload_n (n := 1) dX3_read_0 rfl rfl ?_
    refine aw_tswOut (n := 96) dX3_read_1 (by omega) (by decide) ?_
    refine aw_iconst (n := 97) (v := -1) dX3_read_96 (by decide) rfl ?_
    refine aw_iret dX3_read_97 rfl ?_
    dsimp only [aPush]
    refine aw_iret dX7_told_57 rfl ?_
    exact hQ
  · obtain ⟨j, hj, rfl⟩ := vp_lt (k := x) (n := 11) (by decide) (fun q => hb (Or.inl q)) (fun q => hb (Or.inr q))
    have ht : toldS cnt np s (nI j) = if nI j = 8 then nI cnt else if nI j = 9 then nI np else if nI j = 10 then nI s.1 else s.2.1 j := by
      rw [show toldS cnt np s (nI j) = _ from if_neg hb, nI_clamp (by omega)]
    rw [ht] at hQ
    rcases (show j = 0 ∨ j = 1 ∨ j = 2 ∨ j = 3 ∨ j = 4 ∨ j = 5 ∨ j = 6 ∨ j = 7 ∨ j = 8 ∨ j = 9 ∨ j = 10 by omega) with rfl | rfl | rfl | rfl | rfl | rfl | rfl | rfl | rfl | rfl | rfl
    · rw [if_neg (by decide), if_neg (by decide), if_neg (by decide)] at hQ
      have hm : M 162 1 = s.2.1 0 := hS.2.1 0 (by decide)
      refine aw_iload_n (n := 1) dX7_told_0 rfl rfl ?_
      refine aw_tswOut (n := 49) dX7_told_1 (by decide) (by decide) ?_
      refine aw_aload_n (n := 50) dX7_told_49 rfl rfl ?_
      refine aw_getr (n := 53) dX7_told_50 fX7_52 (by assumption) rfl rfl ?_
      refine aw_iload_n (n := 54) dX7_told_53 rfl rfl ?_
      refine aw_v1 (d1 := d - 1) (n := 57) (Z := mX3_read) (ci := 1) (L0 := [_, _]) dX7_told_54 kX3_read gX7_153 iyX3_read eyX3_read rfl rfl (by assumption) rfl (Nat.le_of_ble_eq_true rfl) rfl rfl (by omega) (Nat.le_of_ble_eq_true rfl) ?_
      refine aw_iload_n (n := 1) dX3_read_0 rfl rfl ?_
      refine aw_tswIn (n := 48) (off := 47) dX3_read_1 (by decide) (by decide) (by decide) (by decide) ?_
      refine aw_aload_n (n := 49) dX3_read_48 rfl rfl ?_
      refine aw_geti (n := 52) dX3_read_49 fX3_15 (by assumption) rfl rfl ?_
      refine aw_iret dX3_read_52 rfl ?_
      dsimp only [aPush]
      refine aw_iret dX7_told_57 rfl ?_
      rw [hm]; exact hQ
    · rw [if_neg (by decide), if_neg (by decide), if_neg (by decide)] at hQ
      have hm : M 162 2 = s.2.1 1 := hS.2.1 1 (by decide)
      refine aw_iload_n (n := 1) dX7_told_0 rfl rfl ?_
      refine aw_tswOut (n := 49) dX7_told_1 (by decide) (by decide) ?_
      refine aw_aload_n (n := 50) dX7_told_49 rfl rfl ?_
      refine aw_getr (n := 53) dX7_told_50 fX7_52 (by assumption) rfl rfl ?_
      refine aw_iload_n (n := 54) dX7_told_53 rfl rfl ?_
      refine aw_v1 (d1 := d - 1) (n := 57) (Z := mX3_read) (ci := 1) (L0 := [_, _]) dX7_told_54 kX3_read gX7_153 iyX3_read eyX3_read rfl rfl (by assumption) rfl (Nat.le_of_ble_eq_true rfl) rfl rfl (by omega) (Nat.le_of_ble_eq_true rfl) ?_
      refine aw_iload_n (n := 1) dX3_read_0 rfl rfl ?_
      refine aw_tswIn (n := 53) (off := 52) dX3_read_1 (by decide) (by decide) (by decide) (by decide) ?_
      refine aw_aload_n (n := 54) dX3_read_53 rfl rfl ?_
      refine aw_geti (n := 57) dX3_read_54 fX3_19 (by assumption) rfl rfl ?_
      refine aw_iret dX3_read_57 rfl ?_
      dsimp only [aPush]
      refine aw_iret dX7_told_57 rfl ?_
      rw [hm]; exact hQ
    · rw [if_neg (by decide), if_neg (by decide), if_neg (by decide)] at hQ
      have hm : M 162 3 = s.2.1 2 := hS.2.1 2 (by decide)
      refine aw_iload_n (n := 1) dX7_told_0 rfl rfl ?_
      refine aw_tswOut (n := 49) dX7_told_1 (by decide) (by decide) ?_
      refine aw_aload_n (n := 50) dX7_told_49 rfl rfl ?_
      refine aw_getr (n := 53) dX7_told_50 fX7_52 (by assumption) rfl rfl ?_
      refine aw_iload_n (n := 54) dX7_told_53 rfl rfl ?_
      refine aw_v1 (d1 := d - 1) (n := 57) (Z := mX3_read) (ci := 1) (L0 := [_, _]) dX7_told_54 kX3_read gX7_153 iyX3_read eyX3_read rfl rfl (by assumption) rfl (Nat.le_of_ble_eq_true rfl) rfl rfl (by omega) (Nat.le_of_ble_eq_true rfl) ?_
      refine aw_iload_n (n := 1) dX3_read_0 rfl rfl ?_
      refine aw_tswIn (n := 58) (off := 57) dX3_read_1 (by decide) (by decide) (by decide) (by decide) ?_
      refine aw_aload_n (n := 59) dX3_read_58 rfl rfl ?_
      refine aw_geti (n := 62) dX3_read_59 fX3_22 (by assumption) rfl rfl ?_
      refine aw_iret dX3_read_62 rfl ?_
      dsimp only [aPush]
      refine aw_iret dX7_told_57 rfl ?_
      rw [hm]; exact hQ
    · rw [if_neg (by decide), if_neg (by decide), if_neg (by decide)] at hQ
      have hm : M 162 4 = s.2.1 3 := hS.2.1 3 (by decide)
      refine aw_iload_n (n := 1) dX7_told_0 rfl rfl ?_
      refine aw_tswOut (n := 49) dX7_told_1 (by decide) (by decide) ?_
      refine aw_aload_n (n := 50) dX7_told_49 rfl rfl ?_
      refine aw_getr (n := 53) dX7_told_50 fX7_52 (by assumption) rfl rfl ?_
      refine aw_iload_n (n := 54) dX7_told_53 rfl rfl ?_
      refine aw_v1 (d1 := d - 1) (n := 57) (Z := mX3_read) (ci := 1) (L0 := [_, _]) dX7_told_54 kX3_read gX7_153 iyX3_read eyX3_read rfl rfl (by assumption) rfl (Nat.le_of_ble_eq_true rfl) rfl rfl (by omega) (Nat.le_of_ble_eq_true rfl) ?_
      refine aw_iload_n (n := 1) dX3_read_0 rfl rfl ?_
      refine aw_tswIn (n := 63) (off := 62) dX3_read_1 (by decide) (by decide) (by decide) (by decide) ?_
      refine aw_aload_n (n := 64) dX3_read_63 rfl rfl ?_
      refine aw_geti (n := 67) dX3_read_64 fX3_25 (by assumption) rfl rfl ?_
      refine aw_iret dX3_read_67 rfl ?_
      dsimp only [aPush]
      refine aw_iret dX7_told_57 rfl ?_
      rw [hm]; exact hQ
    · rw [if_neg (by decide), if_neg (by decide), if_neg (by decide)] at hQ
      have hm : M 162 5 = s.2.1 4 := hS.2.1 4 (by decide)
      refine aw_iload_n (n := 1) dX7_told_0 rfl rfl ?_
      refine aw_tswOut (n := 49) dX7_told_1 (by decide) (by decide) ?_
      refine aw_aload_n (n := 50) dX7_told_49 rfl rfl ?_
      refine aw_getr (n := 53) dX7_told_50 fX7_52 (by assumption) rfl rfl ?_
      refine aw_iload_n (n := 54) dX7_told_53 rfl rfl ?_
      refine aw_v1 (d1 := d - 1) (n := 57) (Z := mX3_read) (ci := 1) (L0 := [_, _]) dX7_told_54 kX3_read gX7_153 iyX3_read eyX3_read rfl rfl (by assumption) rfl (Nat.le_of_ble_eq_true rfl) rfl rfl (by omega) (Nat.le_of_ble_eq_true rfl) ?_
      refine aw_iload_n (n := 1) dX3_read_0 rfl rfl ?_
      refine aw_tswIn (n := 68) (off := 67) dX3_read_1 (by decide) (by decide) (by decide) (by decide) ?_
      refine aw_aload_n (n := 69) dX3_read_68 rfl rfl ?_
      refine aw_geti (n := 72) dX3_read_69 fX3_28 (by assumption) rfl rfl ?_
      refine aw_iret dX3_read_72 rfl ?_
      dsimp only [aPush]
      refine aw_iret dX7_told_57 rfl ?_
      rw [hm]; exact hQ
    · rw [if_neg (by decide), if_neg (by decide), if_neg (by decide)] at hQ
      have hm : M 162 6 = s.2.1 5 := hS.2.1 5 (by decide)
      refine aw_iload_n (n := 1) dX7_told_0 rfl rfl ?_
      refine aw_tswOut (n := 49) dX7_told_1 (by decide) (by decide) ?_
      refine aw_aload_n (n := 50) dX7_told_49 rfl rfl ?_
      refine aw_getr (n := 53) dX7_told_50 fX7_52 (by assumption) rfl rfl ?_
      refine aw_iload_n (n := 54) dX7_told_53 rfl rfl ?_
      refine aw_v1 (d1 := d - 1) (n := 57) (Z := mX3_read) (ci := 1) (L0 := [_, _]) dX7_told_54 kX3_read gX7_153 iyX3_read eyX3_read rfl rfl (by assumption) rfl (Nat.le_of_ble_eq_true rfl) rfl rfl (by omega) (Nat.le_of_ble_eq_true rfl) ?_
      refine aw_iload_n (n := 1) dX3_read_0 rfl rfl ?_
      refine aw_tswIn (n := 73) (off := 72) dX3_read_1 (by decide) (by decide) (by decide) (by decide) ?_
      refine aw_aload_n (n := 74) dX3_read_73 rfl rfl ?_
      refine aw_geti (n := 77) dX3_read_74 fX3_31 (by assumption) rfl rfl ?_
      refine aw_iret dX3_read_77 rfl ?_
      dsimp only [aPush]
      refine aw_iret dX7_told_57 rfl ?_
      rw [hm]; exact hQ
    · rw [if_neg (by decide), if_neg (by decide), if_neg (by decide)] at hQ
      have hm : M 162 7 = s.2.1 6 := hS.2.1 6 (by decide)
      refine aw_iload_n (n := 1) dX7_told_0 rfl rfl ?_
      refine aw_tswOut (n := 49) dX7_told_1 (by decide) (by decide) ?_
      refine aw_aload_n (n := 50) dX7_told_49 rfl rfl ?_
      refine aw_getr (n := 53) dX7_told_50 fX7_52 (by assumption) rfl rfl ?_
      refine aw_iload_n (n := 54) dX7_told_53 rfl rfl ?_
      refine aw_v1 (d1 := d - 1) (n := 57) (Z := mX3_read) (ci := 1) (L0 := [_, _]) dX7_told_54 kX3_read gX7_153 iyX3_read eyX3_read rfl rfl (by assumption) rfl (Nat.le_of_ble_eq_true rfl) rfl rfl (by omega) (Nat.le_of_ble_eq_true rfl) ?_
      refine aw_iload_n (n := 1) dX3_read_0 rfl rfl ?_
      refine aw_tswIn (n := 78) (off := 77) dX3_read_1 (by decide) (by decide) (by decide) (by decide) ?_
      refine aw_aload_n (n := 79) dX3_read_78 rfl rfl ?_
      refine aw_geti (n := 82) dX3_read_79 fX3_34 (by assumption) rfl rfl ?_
      refine aw_iret dX3_read_82 rfl ?_
      dsimp only [aPush]
      refine aw_iret dX7_told_57 rfl ?_
      rw [hm]; exact hQ
    · rw [if_neg (by decide), if_neg (by decide), if_neg (by decide)] at hQ
      have hm : M 162 8 = s.2.1 7 := hS.2.1 7 (by decide)
      refine aw_iload_n (n := 1) dX7_told_0 rfl rfl ?_
      refine aw_tswOut (n := 49) dX7_told_1 (by decide) (by decide) ?_
      refine aw_aload_n (n := 50) dX7_told_49 rfl rfl ?_
      refine aw_getr (n := 53) dX7_told_50 fX7_52 (by assumption) rfl rfl ?_
      refine aw_iload_n (n := 54) dX7_told_53 rfl rfl ?_
      refine aw_v1 (d1 := d - 1) (n := 57) (Z := mX3_read) (ci := 1) (L0 := [_, _]) dX7_told_54 kX3_read gX7_153 iyX3_read eyX3_read rfl rfl (by assumption) rfl (Nat.le_of_ble_eq_true rfl) rfl rfl (by omega) (Nat.le_of_ble_eq_true rfl) ?_
      refine aw_iload_n (n := 1) dX3_read_0 rfl rfl ?_
      refine aw_tswIn (n := 83) (off := 82) dX3_read_1 (by decide) (by decide) (by decide) (by decide) ?_
      refine aw_aload_n (n := 84) dX3_read_83 rfl rfl ?_
      refine aw_geti (n := 87) dX3_read_84 fX3_37 (by assumption) rfl rfl ?_
      rw [hm]
      refine aw_if_eq (tg := 94) (n := 90) dX3_read_87 (by decide) rfl (fun c_87 => ?_) (fun c_87 => ?_)
      · refine aw_iconst (n := 95) (v := 0) dX3_read_94 (by decide) rfl ?_
        refine aw_iret dX3_read_95 rfl ?_
        dsimp only [aPush]
        refine aw_iret dX7_told_57 rfl ?_
        first
          | (have e7 := h7.resolve_right (fun q => absurd (c_87.symm.trans q) (by decide))
             rw [e7] at hQ; exact hQ)
          | (have e7 := h7.resolve_left c_87
             rw [e7] at hQ; exact hQ)
      · refine aw_iconst (n := 91) (v := 1) dX3_read_90 (by decide) rfl ?_
        refine aw_goto (n := 95) dX3_read_91 (by decide) ?_
        refine aw_iret dX3_read_95 rfl ?_
        dsimp only [aPush]
        refine aw_iret dX7_told_57 rfl ?_
        first
          | (have e7 := h7.resolve_right (fun q => absurd (c_87.symm.trans q) (by decide))
             rw [e7] at hQ; exact hQ)
          | (have e7 := h7.resolve_left c_87
             rw [e7] at hQ; exact hQ)
    · rw [if_pos (by decide)] at hQ
      have hm := hA.1
      refine aw_iload_n (n := 1) dX7_told_0 rfl rfl ?_
      refine aw_tswIn (n := 28) (off := 27) dX7_told_1 (by decide) (by decide) (by decide) (by decide) ?_
      refine aw_aload_n (n := 29) dX7_told_28 rfl rfl ?_
      refine aw_getr (n := 32) dX7_told_29 fX7_20 (by assumption) rfl rfl ?_
      refine aw_geti (n := 35) dX7_told_32 fX7_73 (by assumption) rfl rfl ?_
      refine aw_iret dX7_told_35 rfl ?_
      rw [hm]; exact hQ
    · rw [if_neg (by decide), if_pos (by decide)] at hQ
      have hm := hA.2.2.1
      refine aw_iload_n (n := 1) dX7_told_0 rfl rfl ?_
      refine aw_tswIn (n := 36) (off := 35) dX7_told_1 (by decide) (by decide) (by decide) (by decide) ?_
      refine aw_aload_n (n := 37) dX7_told_36 rfl rfl ?_
      refine aw_geti (n := 40) dX7_told_37 fX7_56 (by assumption) rfl rfl ?_
      refine aw_iret dX7_told_40 rfl ?_
      rw [hm]; exact hQ
    · rw [if_neg (by decide), if_neg (by decide), if_pos (by decide)] at hQ
      have hm := hS.1
      refine aw_iload_n (n := 1) dX7_told_0 rfl rfl ?_
      refine aw_tswIn (n := 41) (off := 40) dX7_told_1 (by decide) (by decide) (by decide) (by decide) ?_
      refine aw_aload_n (n := 42) dX7_told_41 rfl rfl ?_
      refine aw_getr (n := 45) dX7_told_42 fX7_10 (by assumption) rfl rfl ?_
      refine aw_geti (n := 48) dX7_told_45 fX7_101 (by assumption) rfl rfl ?_
      refine aw_iret dX7_told_48 rfl ?_
      rw [hm]; exact hQ
theorem t_label {s : rS} {x : Int32} (hS : cS s M) (hQ : Q (some (.int (if x < 0 ∨ 9 ≤ x then -1 else s.2.2.1 x.toNatClampNeg))) EE M) : aw l K mX7_label d 0 0 0 [.ref 0, .int x] [] EE M Q := by
  have e0 := E_0
  have e162 := E_162
  have e163 := E_163
  by_cases hb : x < 0 ∨ 9 ≤ x
  · rw [if_pos hb] at hQ
    refine aw_iload_n (n := 1) dX7_label_0 rfl rfl ?_
    refine aw_if_lt (tg := 10) (n := 4) dX7_label_1 (by decide) rfl (fun c_1 => ?_) (fun c_1 => ?_)
    · refine aw_iconst (n := 11) (v := -1) dX7_label_10 (by decide) rfl ?_
      refine aw_goto (n := 23) dX7_label_11 (by decide) ?_
      refine aw_iret dX7_label_23 rfl ?_
      exact hQ
    · refine aw_iload_n (n := 5) dX7_label_4 rfl rfl ?_
      refine aw_bipush (n := 7) (v := 9) dX7_label_5 (by decide) rfl ?_
      refine aw_icmp_lt (tg := 14) (n := 10) dX7_label_7 (by decide) rfl (fun c_7 => ?_) (fun c_7 => ?_)
      · exact absurd hb (fun q => q.elim c_1 (i_nle.mpr c_7))
      · refine aw_iconst (n := 11) (v := -1) dX7_label_10 (by decide) rfl ?_
        refine aw_goto (n := 23) dX7_label_11 (by decide) ?_
        refine aw_iret dX7_label_23 rfl ?_
        exact hQ
  · rw [if_neg hb] at hQ
    obtain ⟨i, hi, rfl⟩ := vp_lt (k := x) (n := 9) (by decide) (fun q => hb (Or.inl q)) (fun q => hb (Or.inr q))
    have hii : (nI i).toNatClampNeg = i := nI_clamp (by omega)
    rw [hii] at hQ
    have hin : vp_in (nI i) 9 := vp_in_nI hi (by decide)
    have hm := hS.2.2.1 i hi
    refine aw_iload_n (n := 1) dX7_label_0 rfl rfl ?_
    refine aw_if_lt (tg := 10) (n := 4) dX7_label_1 (by decide) rfl (fun c_1 => by exact absurd c_1 (nI_pos (by omega))) (fun c_1 => ?_)
    refine aw_iload_n (n := 5) dX7_label_4 rfl rfl ?_
    refine aw_bipush (n := 7) (v := 9) dX7_label_5 (by decide) rfl ?_
    refine aw_icmp_lt (tg := 14) (n := 10) dX7_label_7 (by decide) rfl (fun c_7 => ?_) (fun c_7 => by exact absurd ((nI_ltI (b := 9) (by omega) (by decide)).mpr hi) c_7)
    refine aw_aload_n (n := 15) dX7_label_14 rfl rfl ?_
    refine aw_getr (n := 18) dX7_label_15 fX7_52 (by assumption) rfl rfl ?_
    refine aw_getr (n := 21) dX7_label_18 fX7_154 (by assumption) rfl rfl ?_
    refine aw_iload_n (n := 22) dX7_label_21 rfl rfl ?_
    refine aw_iald (n := 23) dX7_label_22 (by assumption) (by assumption) rfl ?_
    refine aw_iret dX7_label_23 rfl ?_
    rw [hii, hm]; exact hQ
end PUB3
