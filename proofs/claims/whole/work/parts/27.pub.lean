def b2 (b : Bool) : Int32 := if b then 1 else 0
theorem b2_t : b2 true = 1 := rfl
theorem b2_f : b2 false = 0 := rfl
theorem b2_01 (b : Bool) : b2 b = 0 ∨ b2 b = 1 := by cases b <;> simp [b2]
def hasB (cnt : Nat) (x : Int32) : Bool := decide (¬ x < 0) && decide (¬ nI cnt ≤ x)
def honB (cnt : Nat) (x : Int32) : Bool := decide (x = -1) || hasB cnt x
def alwB (w n : Int32) : Bool := decide (¬ w < 0) && decide (¬ 20 < w) && (decide (¬ w = 0) || (decide (¬ n < 0) && decide (¬ 3 ≤ n)))
def prtB (cnt w : Nat) (a b c : Int32) : Bool := (decide (pts w < 1) || hasB cnt a) && (decide (pts w < 2) || hasB cnt b) && (decide (pts w < 3) || hasB cnt c)
def typB (t : Int32) : Bool := decide (¬ t < -1) && decide (¬ 1 < t)
def prpB (cnt : Nat) (p : pr) : Bool := typB (p 0) && typB (p 1) && typB (p 2) && decide (¬ p 6 < 0) && decide (¬ 7 < p 6) && honB cnt (p 3) && hasB cnt (p 4) && honB cnt (p 5)
def upT (T : tm) (t : Nat) (w a b c n : Int32) : tm := fun f j => if j = t then (if f = 0 then w else if f = 1 then a else if f = 2 then b else if f = 3 then c else n) else T f j
theorem hasB_is {cnt : Nat} {x : Int32} (hc : cnt < 2 ^ 31) (h : hasB cnt x = true) : isNo x cnt := by
  simp only [hasB, Bool.and_eq_true, decide_eq_true_eq] at h
  exact vp_lt hc h.1 h.2
theorem isNo_has {cnt : Nat} {x : Int32} (hc : cnt < 2 ^ 31) (h : isNo x cnt) : hasB cnt x = true := by
  obtain ⟨j, hj, rfl⟩ := h
  simp only [hasB, Bool.and_eq_true, decide_eq_true_eq]
  exact ⟨nI_pos (by omega), nI_ge hj (by omega)⟩
section PUB
variable {l : Launch} {K : aK} {d : Nat} {M : aM} {Q : Option Value → aE → aM → Prop}
theorem t_has {cnt : Nat} {x : Int32} (hM : M 2 5 = nI cnt) (hQ : Q (some (.int (b2 (hasB cnt x)))) EE M) : aw l K mX4_has d 0 0 0 [.ref 2, .int x] [] EE M Q := by
  have e2 := E_2
  refine aw_iload_n (n := 1) dX4_has_0 rfl rfl ?_
  refine aw_if_lt (tg := 16) (n := 4) dX4_has_1 (by decide) rfl (fun c_1 => ?_) (fun c_1 => ?_)
  · refine aw_iconst (n := 17) (v := 0) dX4_has_16 (by decide) rfl ?_
    refine aw_zret dX4_has_17 rfl (by first | exact Or.inl rfl | exact Or.inr rfl | assumption) ?_
    rw [show hasB cnt x = false by simp [hasB, c_1]] at hQ; exact hQ
  · refine aw_iload_n (n := 5) dX4_has_4 rfl rfl ?_
    refine aw_aload_n (n := 6) dX4_has_5 rfl rfl ?_
    refine aw_geti (n := 9) dX4_has_6 fX4_27 (by assumption) rfl rfl ?_
    rw [hM]
    refine aw_icmp_ge (tg := 16) (n := 12) dX4_has_9 (by decide) rfl (fun c_9 => ?_) (fun c_9 => ?_)
    · refine aw_iconst (n := 17) (v := 0) dX4_has_16 (by decide) rfl ?_
      refine aw_zret dX4_has_17 rfl (by first | exact Or.inl rfl | exact Or.inr rfl | assumption) ?_
      rw [show hasB cnt x = false by simp [hasB, c_9]] at hQ; exact hQ
    · refine aw_iconst (n := 13) (v := 1) dX4_has_12 (by decide) rfl ?_
      refine aw_goto (n := 17) dX4_has_13 (by decide) ?_
      refine aw_zret dX4_has_17 rfl (by first | exact Or.inl rfl | exact Or.inr rfl | assumption) ?_
      rw [show hasB cnt x = true by simp only [hasB, decide_eq_true c_1, decide_eq_true c_9, Bool.and_self]] at hQ; exact hQ
theorem t_hon {cnt : Nat} {x : Int32} (hd : 1 ≤ d) (hM : M 2 5 = nI cnt) (hQ : Q (some (.int (b2 (honB cnt x)))) EE M) : aw l K mX4_hasOrNone d 0 0 0 [.ref 2, .int x] [] EE M Q := by
  have e2 := E_2
  refine aw_iload_n (n := 1) dX4_hasOrNone_0 rfl rfl ?_
  refine aw_iconst (n := 2) (v := -1) dX4_hasOrNone_1 (by decide) rfl ?_
  refine aw_icmp_eq (tg := 13) (n := 5) dX4_hasOrNone_2 (by decide) rfl (fun c_2 => ?_) (fun c_2 => ?_)
  · refine aw_iconst (n := 14) (v := 1) dX4_hasOrNone_13 (by decide) rfl ?_
    refine aw_goto (n := 18) dX4_hasOrNone_14 (by decide) ?_
    refine aw_zret dX4_hasOrNone_18 rfl (by first | exact Or.inl rfl | exact Or.inr rfl | assumption) ?_
    rw [show honB cnt x = true by simp [honB, c_2]] at hQ; exact hQ
  · refine aw_aload_n (n := 6) dX4_hasOrNone_5 rfl rfl ?_
    refine aw_iload_n (n := 7) dX4_hasOrNone_6 rfl rfl ?_
    refine aw_v1 (d1 := d - 1) (n := 10) (Z := mX4_has) (ci := 2) (L0 := [_, _]) dX4_hasOrNone_7 kX4_has gX4_31 iyX4_has eyX4_has rfl rfl (by assumption) rfl (Nat.le_of_ble_eq_true rfl) rfl rfl (by omega) (Nat.le_of_ble_eq_true rfl) (t_has hM ?_)
    dsimp only [aPush]
    refine aw_if_eq (tg := 17) (n := 13) dX4_hasOrNone_10 (by decide) rfl (fun c_10 => ?_) (fun c_10 => ?_)
    · refine aw_iconst (n := 18) (v := 0) dX4_hasOrNone_17 (by decide) rfl ?_
      refine aw_zret dX4_hasOrNone_18 rfl (by first | exact Or.inl rfl | exact Or.inr rfl | assumption) ?_
      rw [show honB cnt x = false by
        have h : hasB cnt x = false := by cases hb : hasB cnt x with | false => rfl | true => rw [hb] at c_10; exact absurd c_10 (by decide)
        simp [honB, c_2, h]] at hQ
      exact hQ
    · refine aw_iconst (n := 14) (v := 1) dX4_hasOrNone_13 (by decide) rfl ?_
      refine aw_goto (n := 18) dX4_hasOrNone_14 (by decide) ?_
      refine aw_zret dX4_hasOrNone_18 rfl (by first | exact Or.inl rfl | exact Or.inr rfl | assumption) ?_
      rw [show honB cnt x = true by
        have h : hasB cnt x = true := by cases hb : hasB cnt x with | true => rfl | false => rw [hb] at c_10; exact absurd rfl c_10
        simp [honB, h]] at hQ
      exact hQ
theorem t_allows {w n : Int32} (hQ : Q (some (.int (b2 (alwB w n)))) EE M) : aw l K mX4_allows d 0 0 0 [.ref 2, .int w, .int n] [] EE M Q := by
  refine aw_iload_n (n := 1) dX4_allows_0 rfl rfl ?_
  refine aw_if_lt (tg := 10) (n := 4) dX4_allows_1 (by decide) rfl (fun c_1 => ?_) (fun c_1 => ?_)
  · refine aw_iconst (n := 11) (v := 0) dX4_allows_10 (by decide) rfl ?_
    refine aw_zret dX4_allows_11 rfl (by first | exact Or.inl rfl | exact Or.inr rfl | assumption) ?_
    rw [show alwB w n = false by simp [alwB, c_1]] at hQ; exact hQ
  · refine aw_iload_n (n := 5) dX4_allows_4 rfl rfl ?_
    refine aw_bipush (n := 7) (v := 20) dX4_allows_5 (by decide) rfl ?_
    refine aw_icmp_le (tg := 12) (n := 10) dX4_allows_7 (by decide) rfl (fun c_7 => ?_) (fun c_7 => ?_)
    · refine aw_iload_n (n := 13) dX4_allows_12 rfl rfl ?_
      refine aw_if_ne (tg := 25) (n := 16) dX4_allows_13 (by decide) rfl (fun c_13 => ?_) (fun c_13 => ?_)
      · refine aw_iconst (n := 26) (v := 1) dX4_allows_25 (by decide) rfl ?_
        refine aw_goto (n := 30) dX4_allows_26 (by decide) ?_
        refine aw_zret dX4_allows_30 rfl (by first | exact Or.inl rfl | exact Or.inr rfl | assumption) ?_
        rw [show alwB w n = true by simp [alwB, c_1, i_nlt.mpr c_7, c_13]] at hQ; exact hQ
      · refine aw_iload_n (n := 17) dX4_allows_16 rfl rfl ?_
        refine aw_if_lt (tg := 29) (n := 20) dX4_allows_17 (by decide) rfl (fun c_17 => ?_) (fun c_17 => ?_)
        · refine aw_iconst (n := 30) (v := 0) dX4_allows_29 (by decide) rfl ?_
          refine aw_zret dX4_allows_30 rfl (by first | exact Or.inl rfl | exact Or.inr rfl | assumption) ?_
          rw [show alwB w n = false by simp [alwB, c_13, c_17]] at hQ; exact hQ
        · refine aw_iload_n (n := 21) dX4_allows_20 rfl rfl ?_
          refine aw_iconst (n := 22) (v := 3) dX4_allows_21 (by decide) rfl ?_
          refine aw_icmp_ge (tg := 29) (n := 25) dX4_allows_22 (by decide) rfl (fun c_22 => ?_) (fun c_22 => ?_)
          · refine aw_iconst (n := 30) (v := 0) dX4_allows_29 (by decide) rfl ?_
            refine aw_zret dX4_allows_30 rfl (by first | exact Or.inl rfl | exact Or.inr rfl | assumption) ?_
            rw [show alwB w n = false by simp [alwB, c_13, c_22]] at hQ; exact hQ
          · refine aw_iconst (n := 26) (v := 1) dX4_allows_25 (by decide) rfl ?_
            refine aw_goto (n := 30) dX4_allows_26 (by decide) ?_
            refine aw_zret dX4_allows_30 rfl (by first | exact Or.inl rfl | exact Or.inr rfl | assumption) ?_
            rw [show alwB w n = true by simp [alwB, c_1, i_nlt.mpr c_7, c_17, c_22]] at hQ; exact hQ
    · refine aw_iconst (n := 11) (v := 0) dX4_allows_10 (by decide) rfl ?_
      refine aw_zret dX4_allows_11 rfl (by first | exact Or.inl rfl | exact Or.inr rfl | assumption) ?_
      rw [show alwB w n = false by simp [alwB, i_nle.mp c_7]] at hQ; exact hQ
theorem t_hasParts {cnt w : Nat} {a b c : Int32} (hd : 1 ≤ d) (hw : w ≤ 20) (hM : M 2 5 = nI cnt) (hQ : Q (some (.int (b2 (prtB cnt w a b c)))) EE M) : aw l K mX4_hasParts d 0 0 0 [.ref 2, .int (nI w), .int a, .int b, .int c, .null] [] EE M Q := by
  have e2 := E_2
  have hin : vp_in (nI w) 21 := vp_in_nI (by omega) (by decide)
  have hww : (nI w).toNatClampNeg = w := nI_clamp (by omega)
  have hp := ptsLe w hw
  have l1 : nI (pts w) < 1 ↔ pts w < 1 := nI_ltI (b := 1) (by omega) (by decide)
  have l2 : nI (pts w) < 2 ↔ pts w < 2 := nI_ltI (b := 2) (by omega) (by decide)
  have l3 : nI (pts w) < 3 ↔ pts w < 3 := nI_ltI (b := 3) (by omega) (by decide)
  have z : ∀ b : Bool, b2 b = 0 → b = false := fun b h => by cases b with | false => rfl | true => exact absurd h (by decide)
  have nz : ∀ b : Bool, ¬ b2 b = 0 → b = true := fun b h => by cases b with | true => rfl | false => exact absurd rfl h
  have n1 : ¬ nI (pts w) < 1 → ¬ pts w < 1 := fun h q => h (l1.mpr q)
  have n2 : ¬ nI (pts w) < 2 → ¬ pts w < 2 := fun h q => h (l2.mpr q)
  have n3 : ¬ nI (pts w) < 3 → ¬ pts w < 3 := fun h q => h (l3.mpr q)
  refine aw_gets (n := 3) (t := 0) dX4_hasParts_0 (by decide) tX4_35 rfl ?_
  refine aw_iload_n (n := 4) dX4_hasParts_3 rfl rfl ?_
  refine aw_tld (n := 5) (t := 0) dX4_hasParts_4 (by decide) (by assumption) rfl ?_
  rw [hww, tab0 w hw]
  refine aw_istore (n := 7) (L' := [_, _, _, _, _, _]) dX4_hasParts_5 (Nat.le_of_ble_eq_true rfl) rfl rfl ?_
  refine aw_iload (n := 9) dX4_hasParts_7 rfl rfl ?_
  refine aw_iconst (n := 10) (v := 1) dX4_hasParts_9 (by decide) rfl ?_
  refine aw_icmp_lt (tg := 21) (n := 13) dX4_hasParts_10 (by decide) rfl (fun c_10 => ?_) (fun c_10 => ?_)
  · refine aw_iload (n := 23) dX4_hasParts_21 rfl rfl ?_
    refine aw_iconst (n := 24) (v := 2) dX4_hasParts_23 (by decide) rfl ?_
    refine aw_icmp_lt (tg := 35) (n := 27) dX4_hasParts_24 (by decide) rfl (fun c_24 => ?_) (fun c_24 => ?_)
    · refine aw_iload (n := 37) dX4_hasParts_35 rfl rfl ?_
      refine aw_iconst (n := 38) (v := 3) dX4_hasParts_37 (by decide) rfl ?_
      refine aw_icmp_lt (tg := 50) (n := 41) dX4_hasParts_38 (by decide) rfl (fun c_38 => ?_) (fun c_38 => ?_)
      · refine aw_iconst (n := 51) (v := 1) dX4_hasParts_50 (by decide) rfl ?_
        refine aw_goto (n := 55) dX4_hasParts_51 (by decide) ?_
        refine aw_zret dX4_hasParts_55 rfl (by first | exact Or.inl rfl | exact Or.inr rfl | assumption) ?_
        have hA : (decide (pts w < 1) || hasB cnt a) = true := by first | simp [l1.mp c_10] | simp [nz _ c_18]
        have hB : (decide (pts w < 2) || hasB cnt b) = true := by first | simp [l2.mp c_24] | simp [nz _ c_32]
        have hC : (decide (pts w < 3) || hasB cnt c) = true := by first | simp [l3.mp c_38] | simp [nz _ c_47]
        rw [show prtB cnt w a b c = true by unfold prtB; rw [hA, hB, hC]; rfl] at hQ
        exact hQ
      · refine aw_aload_n (n := 42) dX4_hasParts_41 rfl rfl ?_
        refine aw_iload (n := 44) dX4_hasParts_42 rfl rfl ?_
        refine aw_v1 (d1 := d - 1) (n := 47) (Z := mX4_has) (ci := 2) (L0 := [_, _]) dX4_hasParts_44 kX4_has gX4_31 iyX4_has eyX4_has rfl rfl (by assumption) rfl (Nat.le_of_ble_eq_true rfl) rfl rfl (by omega) (Nat.le_of_ble_eq_true rfl) (t_has hM ?_)
        dsimp only [aPush]
        refine aw_if_eq (tg := 54) (n := 50) dX4_hasParts_47 (by decide) rfl (fun c_47 => ?_) (fun c_47 => ?_)
        · refine aw_iconst (n := 55) (v := 0) dX4_hasParts_54 (by decide) rfl ?_
          refine aw_zret dX4_hasParts_55 rfl (by first | exact Or.inl rfl | exact Or.inr rfl | assumption) ?_
          have hX : (decide (pts w < 3) || hasB cnt c) = false := by rw [z _ c_47, decide_eq_false (n3 c_38)]; rfl
          rw [show prtB cnt w a b c = false by unfold prtB; rw [hX]; simp only [Bool.and_false, Bool.false_and]] at hQ
          exact hQ
        · refine aw_iconst (n := 51) (v := 1) dX4_hasParts_50 (by decide) rfl ?_
          refine aw_goto (n := 55) dX4_hasParts_51 (by decide) ?_
          refine aw_zret dX4_hasParts_55 rfl (by first | exact Or.inl rfl | exact Or.inr rfl | assumption) ?_
          have hA : (decide (pts w < 1) || hasB cnt a) = true := by first | simp [l1.mp c_10] | simp [nz _ c_18]
          have hB : (decide (pts w < 2) || hasB cnt b) = true := by first | simp [l2.mp c_24] | simp [nz _ c_32]
          have hC : (decide (pts w < 3) || hasB cnt c) = true := by first | simp [l3.mp c_38] | simp [nz _ c_47]
          rw [show prtB cnt w a b c = true by unfold prtB; rw [hA, hB, hC]; rfl] at hQ
          exact hQ
    · refine aw_aload_n (n := 28) dX4_hasParts_27 rfl rfl ?_
      refine aw_iload_n (n := 29) dX4_hasParts_28 rfl rfl ?_
      refine aw_v1 (d1 := d - 1) (n := 32) (Z := mX4_has) (ci := 2) (L0 := [_, _]) dX4_hasParts_29 kX4_has gX4_31 iyX4_has eyX4_has rfl rfl (by assumption) rfl (Nat.le_of_ble_eq_true rfl) rfl rfl (by omega) (Nat.le_of_ble_eq_true rfl) (t_has hM ?_)
      dsimp only [aPush]
      refine aw_if_eq (tg := 54) (n := 35) dX4_hasParts_32 (by decide) rfl (fun c_32 => ?_) (fun c_32 => ?_)
      · refine aw_iconst (n := 55) (v := 0) dX4_hasParts_54 (by decide) rfl ?_
        refine aw_zret dX4_hasParts_55 rfl (by first | exact Or.inl rfl | exact Or.inr rfl | assumption) ?_
        have hX : (decide (pts w < 2) || hasB cnt b) = false := by rw [z _ c_32, decide_eq_false (n2 c_24)]; rfl
        rw [show prtB cnt w a b c = false by unfold prtB; rw [hX]; simp only [Bool.and_false, Bool.false_and]] at hQ
        exact hQ
      · refine aw_iload (n := 37) dX4_hasParts_35 rfl rfl ?_
        refine aw_iconst (n := 38) (v := 3) dX4_hasParts_37 (by decide) rfl ?_
        refine aw_icmp_lt (tg := 50) (n := 41) dX4_hasParts_38 (by decide) rfl (fun c_38 => ?_) (fun c_38 => ?_)
        · refine aw_iconst (n := 51) (v := 1) dX4_hasParts_50 (by decide) rfl ?_
          refine aw_goto (n := 55) dX4_hasParts_51 (by decide) ?_
          refine aw_zret dX4_hasParts_55 rfl (by first | exact Or.inl rfl | exact Or.inr rfl | assumption) ?_
          have hA : (decide (pts w < 1) || hasB cnt a) = true := by first | simp [l1.mp c_10] | simp [nz _ c_18]
          have hB : (decide (pts w < 2) || hasB cnt b) = true := by first | simp [l2.mp c_24] | simp [nz _ c_32]
          have hC : (decide (pts w < 3) || hasB cnt c) = true := by first | simp [l3.mp c_38] | simp [nz _ c_47]
          rw [show prtB cnt w a b c = true by unfold prtB; rw [hA, hB, hC]; rfl] at hQ
          exact hQ
        · refine aw_aload_n (n := 42) dX4_hasParts_41 rfl rfl ?_
          refine aw_iload (n := 44) dX4_hasParts_42 rfl rfl ?_
          refine aw_v1 (d1 := d - 1) (n := 47) (Z := mX4_has) (ci := 2) (L0 := [_, _]) dX4_hasParts_44 kX4_has gX4_31 iyX4_has eyX4_has rfl rfl (by assumption) rfl (Nat.le_of_ble_eq_true rfl) rfl rfl (by omega) (Nat.le_of_ble_eq_true rfl) (t_has hM ?_)
          dsimp only [aPush]
          refine aw_if_eq (tg := 54) (n := 50) dX4_hasParts_47 (by decide) rfl (fun c_47 => ?_) (fun c_47 => ?_)
          · refine aw_iconst (n := 55) (v := 0) dX4_hasParts_54 (by decide) rfl ?_
            refine aw_zret dX4_hasParts_55 rfl (by first | exact Or.inl rfl | exact Or.inr rfl | assumption) ?_
            have hX : (decide (pts w < 3) || hasB cnt c) = false := by rw [z _ c_47, decide_eq_false (n3 c_38)]; rfl
            rw [show prtB cnt w a b c = false by unfold prtB; rw [hX]; simp only [Bool.and_false, Bool.false_and]] at hQ
            exact hQ
          · refine aw_iconst (n := 51) (v := 1) dX4_hasParts_50 (by decide) rfl ?_
            refine aw_goto (n := 55) dX4_hasParts_51 (by decide) ?_
            refine aw_zret dX4_hasParts_55 rfl (by first | exact Or.inl rfl | exact Or.inr rfl | assumption) ?_
            have hA : (decide (pts w < 1) || hasB cnt a) = true := by first | simp [l1.mp c_10] | simp [nz _ c_18]
            have hB : (decide (pts w < 2) || hasB cnt b) = true := by first | simp [l2.mp c_24] | simp [nz _ c_32]
            have hC : (decide (pts w < 3) || hasB cnt c) = true := by first | simp [l3.mp c_38] | simp [nz _ c_47]
            rw [show prtB cnt w a b c = true by unfold prtB; rw [hA, hB, hC]; rfl] at hQ
            exact hQ
  · refine aw_aload_n (n := 14) dX4_hasParts_13 rfl rfl ?_
    refine aw_iload_n (n := 15) dX4_hasParts_14 rfl rfl ?_
    refine aw_v1 (d1 := d - 1) (n := 18) (Z := mX4_has) (ci := 2) (L0 := [_, _]) dX4_hasParts_15 kX4_has gX4_31 iyX4_has eyX4_has rfl rfl (by assumption) rfl (Nat.le_of_ble_eq_true rfl) rfl rfl (by omega) (Nat.le_of_ble_eq_true rfl) (t_has hM ?_)
    dsimp only [aPush]
    refine aw_if_eq (tg := 54) (n := 21) dX4_hasParts_18 (by decide) rfl (fun c_18 => ?_) (fun c_18 => ?_)
    · refine aw_iconst (n := 55) (v := 0) dX4_hasParts_54 (by decide) rfl ?_
      refine aw_zret dX4_hasParts_55 rfl (by first | exact Or.inl rfl | exact Or.inr rfl | assumption) ?_
      have hX : (decide (pts w < 1) || hasB cnt a) = false := by rw [z _ c_18, decide_eq_false (n1 c_10)]; rfl
      rw [show prtB cnt w a b c = false by unfold prtB; rw [hX]; simp only [Bool.and_false, Bool.false_and]] at hQ
      exact hQ
    · refine aw_iload (n := 23) dX4_hasParts_21 rfl rfl ?_
      refine aw_iconst (n := 24) (v := 2) dX4_hasParts_23 (by decide) rfl ?_
      refine aw_icmp_lt (tg := 35) (n := 27) dX4_hasParts_24 (by decide) rfl (fun c_24 => ?_) (fun c_24 => ?_)
      · refine aw_iload (n := 37) dX4_hasParts_35 rfl rfl ?_
        refine aw_iconst (n := 38) (v := 3) dX4_hasParts_37 (by decide) rfl ?_
        refine aw_icmp_lt (tg := 50) (n := 41) dX4_hasParts_38 (by decide) rfl (fun c_38 => ?_) (fun c_38 => ?_)
        · refine aw_iconst (n := 51) (v := 1) dX4_hasParts_50 (by decide) rfl ?_
          refine aw_goto (n := 55) dX4_hasParts_51 (by decide) ?_
          refine aw_zret dX4_hasParts_55 rfl (by first | exact Or.inl rfl | exact Or.inr rfl | assumption) ?_
          have hA : (decide (pts w < 1) || hasB cnt a) = true := by first | simp [l1.mp c_10] | simp [nz _ c_18]
          have hB : (decide (pts w < 2) || hasB cnt b) = true := by first | simp [l2.mp c_24] | simp [nz _ c_32]
          have hC : (decide (pts w < 3) || hasB cnt c) = true := by first | simp [l3.mp c_38] | simp [nz _ c_47]
          rw [show prtB cnt w a b c = true by unfold prtB; rw [hA, hB, hC]; rfl] at hQ
          exact hQ
        · refine aw_aload_n (n := 42) dX4_hasParts_41 rfl rfl ?_
          refine aw_iload (n := 44) dX4_hasParts_42 rfl rfl ?_
          refine aw_v1 (d1 := d - 1) (n := 47) (Z := mX4_has) (ci := 2) (L0 := [_, _]) dX4_hasParts_44 kX4_has gX4_31 iyX4_has eyX4_has rfl rfl (by assumption) rfl (Nat.le_of_ble_eq_true rfl) rfl rfl (by omega) (Nat.le_of_ble_eq_true rfl) (t_has hM ?_)
          dsimp only [aPush]
          refine aw_if_eq (tg := 54) (n := 50) dX4_hasParts_47 (by decide) rfl (fun c_47 => ?_) (fun c_47 => ?_)
          · refine aw_iconst (n := 55) (v := 0) dX4_hasParts_54 (by decide) rfl ?_
            refine aw_zret dX4_hasParts_55 rfl (by first | exact Or.inl rfl | exact Or.inr rfl | assumption) ?_
            have hX : (decide (pts w < 3) || hasB cnt c) = false := by rw [z _ c_47, decide_eq_false (n3 c_38)]; rfl
            rw [show prtB cnt w a b c = false by unfold prtB; rw [hX]; simp only [Bool.and_false, Bool.false_and]] at hQ
            exact hQ
          · refine aw_iconst (n := 51) (v := 1) dX4_hasParts_50 (by decide) rfl ?_
            refine aw_goto (n := 55) dX4_hasParts_51 (by decide) ?_
            refine aw_zret dX4_hasParts_55 rfl (by first | exact Or.inl rfl | exact Or.inr rfl | assumption) ?_
            have hA : (decide (pts w < 1) || hasB cnt a) = true := by first | simp [l1.mp c_10] | simp [nz _ c_18]
            have hB : (decide (pts w < 2) || hasB cnt b) = true := by first | simp [l2.mp c_24] | simp [nz _ c_32]
            have hC : (decide (pts w < 3) || hasB cnt c) = true := by first | simp [l3.mp c_38] | simp [nz _ c_47]
            rw [show prtB cnt w a b c = true by unfold prtB; rw [hA, hB, hC]; rfl] at hQ
            exact hQ
      · refine aw_aload_n (n := 28) dX4_hasParts_27 rfl rfl ?_
        refine aw_iload_n (n := 29) dX4_hasParts_28 rfl rfl ?_
        refine aw_v1 (d1 := d - 1) (n := 32) (Z := mX4_has) (ci := 2) (L0 := [_, _]) dX4_hasParts_29 kX4_has gX4_31 iyX4_has eyX4_has rfl rfl (by assumption) rfl (Nat.le_of_ble_eq_true rfl) rfl rfl (by omega) (Nat.le_of_ble_eq_true rfl) (t_has hM ?_)
        dsimp only [aPush]
        refine aw_if_eq (tg := 54) (n := 35) dX4_hasParts_32 (by decide) rfl (fun c_32 => ?_) (fun c_32 => ?_)
        · refine aw_iconst (n := 55) (v := 0) dX4_hasParts_54 (by decide) rfl ?_
          refine aw_zret dX4_hasParts_55 rfl (by first | exact Or.inl rfl | exact Or.inr rfl | assumption) ?_
          have hX : (decide (pts w < 2) || hasB cnt b) = false := by rw [z _ c_32, decide_eq_false (n2 c_24)]; rfl
          rw [show prtB cnt w a b c = false by unfold prtB; rw [hX]; simp only [Bool.and_false, Bool.false_and]] at hQ
          exact hQ
        · refine aw_iload (n := 37) dX4_hasParts_35 rfl rfl ?_
          refine aw_iconst (n := 38) (v := 3) dX4_hasParts_37 (by decide) rfl ?_
          refine aw_icmp_lt (tg := 50) (n := 41) dX4_hasParts_38 (by decide) rfl (fun c_38 => ?_) (fun c_38 => ?_)
          · refine aw_iconst (n := 51) (v := 1) dX4_hasParts_50 (by decide) rfl ?_
            refine aw_goto (n := 55) dX4_hasParts_51 (by decide) ?_
            refine aw_zret dX4_hasParts_55 rfl (by first | exact Or.inl rfl | exact Or.inr rfl | assumption) ?_
            have hA : (decide (pts w < 1) || hasB cnt a) = true := by first | simp [l1.mp c_10] | simp [nz _ c_18]
            have hB : (decide (pts w < 2) || hasB cnt b) = true := by first | simp [l2.mp c_24] | simp [nz _ c_32]
            have hC : (decide (pts w < 3) || hasB cnt c) = true := by first | simp [l3.mp c_38] | simp [nz _ c_47]
            rw [show prtB cnt w a b c = true by unfold prtB; rw [hA, hB, hC]; rfl] at hQ
            exact hQ
          · refine aw_aload_n (n := 42) dX4_hasParts_41 rfl rfl ?_
            refine aw_iload (n := 44) dX4_hasParts_42 rfl rfl ?_
            refine aw_v1 (d1 := d - 1) (n := 47) (Z := mX4_has) (ci := 2) (L0 := [_, _]) dX4_hasParts_44 kX4_has gX4_31 iyX4_has eyX4_has rfl rfl (by assumption) rfl (Nat.le_of_ble_eq_true rfl) rfl rfl (by omega) (Nat.le_of_ble_eq_true rfl) (t_has hM ?_)
            dsimp only [aPush]
            refine aw_if_eq (tg := 54) (n := 50) dX4_hasParts_47 (by decide) rfl (fun c_47 => ?_) (fun c_47 => ?_)
            · refine aw_iconst (n := 55) (v := 0) dX4_hasParts_54 (by decide) rfl ?_
              refine aw_zret dX4_hasParts_55 rfl (by first | exact Or.inl rfl | exact Or.inr rfl | assumption) ?_
              have hX : (decide (pts w < 3) || hasB cnt c) = false := by rw [z _ c_47, decide_eq_false (n3 c_38)]; rfl
              rw [show prtB cnt w a b c = false by unfold prtB; rw [hX]; simp only [Bool.and_false, Bool.false_and]] at hQ
              exact hQ
            · refine aw_iconst (n := 51) (v := 1) dX4_hasParts_50 (by decide) rfl ?_
              refine aw_goto (n := 55) dX4_hasParts_51 (by decide) ?_
              refine aw_zret dX4_hasParts_55 rfl (by first | exact Or.inl rfl | exact Or.inr rfl | assumption) ?_
              have hA : (decide (pts w < 1) || hasB cnt a) = true := by first | simp [l1.mp c_10] | simp [nz _ c_18]
              have hB : (decide (pts w < 2) || hasB cnt b) = true := by first | simp [l2.mp c_24] | simp [nz _ c_32]
              have hC : (decide (pts w < 3) || hasB cnt c) = true := by first | simp [l3.mp c_38] | simp [nz _ c_47]
              rw [show prtB cnt w a b c = true by unfold prtB; rw [hA, hB, hC]; rfl] at hQ
              exact hQ
end PUB
