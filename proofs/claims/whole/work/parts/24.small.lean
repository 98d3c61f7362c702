def gs (b k : Nat) : Nat := ((List.range (k + 1)).map (fun j => b ^ j)).sum
theorem gs_0 (b : Nat) : gs b 0 = 1 := by simp [gs]
theorem gs_s (b k : Nat) : gs b (k + 1) = gs b k + b ^ (k + 1) := by
  unfold gs
  rw [List.range_succ, List.map_append, List.sum_append]
  simp
theorem gs_pos (b k : Nat) : 0 < gs b k := by
  induction k with
  | zero => rw [gs_0]; decide
  | succ k ih => rw [gs_s]; omega
theorem cnS_1 {m : Nat} {ty : Int32} (h1 : ¬ ty = -1) (h0 : ¬ ty = 0) : cnS ty m = gs (2 * m + 1) m := by
  unfold cnS gs
  rw [if_neg h1, if_neg h0]
theorem cnS_pos (ty : Int32) (m : Nat) : 0 < cnS ty m := by
  by_cases h1 : ty = -1
  · unfold cnS; rw [if_pos h1]; decide
  by_cases h0 : ty = 0
  · unfold cnS; rw [if_neg h1, if_pos h0]; omega
  · rw [cnS_1 h1 h0]; exact gs_pos _ _
theorem cnS_le (ty : Int32) {m : Nat} (hm : m ≤ 3) : cnS ty m ≤ 400 := by
  by_cases h1 : ty = -1
  · unfold cnS; rw [if_pos h1]; decide
  by_cases h0 : ty = 0
  · unfold cnS; rw [if_neg h1, if_pos h0]; omega
  · rw [cnS_1 h1 h0]
    rcases (show m = 0 ∨ m = 1 ∨ m = 2 ∨ m = 3 by omega) with rfl | rfl | rfl | rfl <;> decide
theorem alS_le (p : pr) {m : Nat} (hm : m ≤ 3) : alS p m ≤ 64000000 := by
  unfold alS
  have h1 := cnS_le (p 0) hm
  have h2 := cnS_le (p 1) hm
  have h3 := cnS_le (p 2) hm
  calc cnS (p 0) m * cnS (p 1) m * cnS (p 2) m ≤ 400 * 400 * 400 := Nat.mul_le_mul (Nat.mul_le_mul h1 h2) h3
    _ = 64000000 := by decide
theorem e21 (m : Nat) : (2 : Int32) * nI m + 1 = nI (2 * m + 1) := by rw [show (2 : Int32) = nI 2 from rfl, pk_mul, nI_1]
section SMALL
variable {l : Launch} {K : aK} {d : Nat} {M : aM} {Q : Option Value → aE → aM → Prop}
theorem t_count {E : aE} {ty : Int32} {m : Nat} (hd : 1 ≤ d) (hm : m ≤ 3) (hQ : Q (some (.int (nI (cnS ty m)))) E M) : aw l K mX2_count d 0 0 0 [.int ty, .int (nI m), .null, .null, .null] [] E M Q := by
  by_cases h1 : ty = -1
  · have hc : cnS ty m = 1 := if_pos h1
    rw [hc] at hQ
    refine aw_iload_n (n := 1) dX2_count_0 rfl rfl ?_
    refine aw_iconst (n := 2) (v := -1) dX2_count_1 (by decide) rfl ?_
    refine aw_icmp_ne (tg := 7) (n := 5) dX2_count_2 (by decide) rfl (fun c_2 => by exact absurd h1 c_2) (fun c_2 => ?_)
    refine aw_iconst (n := 6) (v := 1) dX2_count_5 (by decide) rfl ?_
    refine aw_iret dX2_count_6 rfl ?_
    exact hQ
  by_cases h0 : ty = 0
  · have hc : cnS ty m = 2 * m + 1 := (if_neg h1).trans (if_pos h0)
    rw [hc, ← e21] at hQ
    refine aw_iload_n (n := 1) dX2_count_0 rfl rfl ?_
    refine aw_iconst (n := 2) (v := -1) dX2_count_1 (by decide) rfl ?_
    refine aw_icmp_ne (tg := 7) (n := 5) dX2_count_2 (by decide) rfl (fun c_2 => ?_) (fun c_2 => by exact absurd c_2 h1)
    refine aw_iload_n (n := 8) dX2_count_7 rfl rfl ?_
    refine aw_if_ne (tg := 16) (n := 11) dX2_count_8 (by decide) rfl (fun c_8 => by exact absurd h0 c_8) (fun c_8 => ?_)
    refine aw_iload_n (n := 12) dX2_count_11 rfl rfl ?_
    refine aw_s1 (d1 := d - 1) (n := 15) (Z := mX2_wholes) (L0 := [_]) dX2_count_12 kX2_wholes gX2_9 syX2_wholes rfl (Nat.le_of_ble_eq_true rfl) rfl rfl (by omega) (Nat.le_of_ble_eq_true rfl) ?_
    refine aw_iconst (n := 1) (v := 2) dX2_wholes_0 (by decide) rfl ?_
    refine aw_iload_n (n := 2) dX2_wholes_1 rfl rfl ?_
    refine aw_imul (n := 3) dX2_wholes_2 rfl ?_
    refine aw_iconst (n := 4) (v := 1) dX2_wholes_3 (by decide) rfl ?_
    refine aw_iadd (n := 5) dX2_wholes_4 rfl ?_
    refine aw_iret dX2_wholes_5 rfl ?_
    dsimp only [aPush]
    refine aw_iret dX2_count_15 rfl ?_
    exact hQ
  rw [cnS_1 h1 h0] at hQ
  have loop : ∀ f k tot p, f + k = m → tot = nI (gs (2 * m + 1) k) → p = nI ((2 * m + 1) ^ k) → aw l K mX2_count d 0 0 23 [.int ty, .int (nI m), .int tot, .int p, .int (nI (k + 1))] [] E M Q := by
    intro f
    induction f with
    | zero =>
      intro k tot p hk ht hp
      obtain rfl : k = m := by omega
      refine aw_iload (n := 25) dX2_count_23 rfl rfl ?_
      refine aw_iload_n (n := 26) dX2_count_25 rfl rfl ?_
      refine aw_icmp_gt (tg := 46) (n := 29) dX2_count_26 (by decide) rfl (fun c_26 => ?_) (fun c_26 => by exact absurd (nI_lt (by omega) (by omega)) c_26)
      refine aw_iload_n (n := 47) dX2_count_46 rfl rfl ?_
      refine aw_iret dX2_count_47 rfl ?_
      rw [ht]; exact hQ
    | succ f ih =>
      intro k tot p hk ht hp
      refine aw_iload (n := 25) dX2_count_23 rfl rfl ?_
      refine aw_iload_n (n := 26) dX2_count_25 rfl rfl ?_
      refine aw_icmp_gt (tg := 46) (n := 29) dX2_count_26 (by decide) rfl (fun c_26 => by exact absurd c_26 (nI_nlt (by omega) (by omega))) (fun c_26 => ?_)
      refine aw_iload_n (n := 30) dX2_count_29 rfl rfl ?_
      refine aw_iload_n (n := 31) dX2_count_30 rfl rfl ?_
      refine aw_s1 (d1 := d - 1) (n := 34) (Z := mX2_wholes) (L0 := [_]) dX2_count_31 kX2_wholes gX2_9 syX2_wholes rfl (Nat.le_of_ble_eq_true rfl) rfl rfl (by omega) (Nat.le_of_ble_eq_true rfl) ?_
      refine aw_iconst (n := 1) (v := 2) dX2_wholes_0 (by decide) rfl ?_
      refine aw_iload_n (n := 2) dX2_wholes_1 rfl rfl ?_
      refine aw_imul (n := 3) dX2_wholes_2 rfl ?_
      refine aw_iconst (n := 4) (v := 1) dX2_wholes_3 (by decide) rfl ?_
      refine aw_iadd (n := 5) dX2_wholes_4 rfl ?_
      refine aw_iret dX2_wholes_5 rfl ?_
      dsimp only [aPush]
      refine aw_imul (n := 35) dX2_count_34 rfl ?_
      refine aw_istore_n (n := 36) (L' := [_, _, _, _, _]) dX2_count_35 (Nat.le_of_ble_eq_true rfl) rfl rfl ?_
      refine aw_iload_n (n := 37) dX2_count_36 rfl rfl ?_
      refine aw_iload_n (n := 38) dX2_count_37 rfl rfl ?_
      refine aw_iadd (n := 39) dX2_count_38 rfl ?_
      refine aw_istore_n (n := 40) (L' := [_, _, _, _, _]) dX2_count_39 (Nat.le_of_ble_eq_true rfl) rfl rfl ?_
      refine aw_incp (n := 43) (L' := [_, _, _, _, _]) dX2_count_40 rfl rfl rfl ?_
      refine aw_goto (n := 23) dX2_count_43 (by decide) ?_
      rw [nI_1]
      refine ih (k + 1) _ _ (by omega) ?_ ?_
      · rw [ht, hp, e21, pk_mul, nI_add, gs_s, Nat.pow_succ]
      · rw [hp, e21, pk_mul, Nat.pow_succ]
  refine aw_iload_n (n := 1) dX2_count_0 rfl rfl ?_
  refine aw_iconst (n := 2) (v := -1) dX2_count_1 (by decide) rfl ?_
  refine aw_icmp_ne (tg := 7) (n := 5) dX2_count_2 (by decide) rfl (fun c_2 => ?_) (fun c_2 => by exact absurd c_2 h1)
  refine aw_iload_n (n := 8) dX2_count_7 rfl rfl ?_
  refine aw_if_ne (tg := 16) (n := 11) dX2_count_8 (by decide) rfl (fun c_8 => ?_) (fun c_8 => by exact absurd c_8 h0)
  refine aw_iconst (n := 17) (v := 1) dX2_count_16 (by decide) rfl ?_
  refine aw_istore_n (n := 18) (L' := [_, _, _, _, _]) dX2_count_17 (Nat.le_of_ble_eq_true rfl) rfl rfl ?_
  refine aw_iconst (n := 19) (v := 1) dX2_count_18 (by decide) rfl ?_
  refine aw_istore_n (n := 20) (L' := [_, _, _, _, _]) dX2_count_19 (Nat.le_of_ble_eq_true rfl) rfl rfl ?_
  refine aw_iconst (n := 21) (v := 1) dX2_count_20 (by decide) rfl ?_
  refine aw_istore (n := 23) (L' := [_, _, _, _, _]) dX2_count_21 (Nat.le_of_ble_eq_true rfl) rfl rfl ?_
  exact loop m 0 _ _ (by omega) (by rw [gs_0]; rfl) rfl
theorem t_countFor {E : aE} {p : pr} {m a : Nat} (hd : 2 ≤ d) (hm : m ≤ 3) (hE : E[a]? = some (.inr (.inl 3))) (hM : ∀ i, i < 3 → M a i = p i) (hQ : Q (some (.int (nI (alS p m)))) E M) : aw l K mX2_countFor d 0 0 0 [.ref a, .int (nI m), .null, .null] [] E M Q := by
  have h3 : aw l K mX2_countFor d 0 0 4 [.ref a, .int (nI m), .int (nI (cnS (p 0) m * cnS (p 1) m * cnS (p 2) m)), .int (nI 3)] [] E M Q := by
    refine aw_iload_n (n := 5) dX2_countFor_4 rfl rfl ?_
    refine aw_iconst (n := 6) (v := 3) dX2_countFor_5 (by decide) rfl ?_
    refine aw_icmp_ge (tg := 25) (n := 9) dX2_countFor_6 (by decide) rfl (fun c_6 => ?_) (fun c_6 => by exact absurd (by decide) c_6)
    refine aw_iload_n (n := 26) dX2_countFor_25 rfl rfl ?_
    refine aw_iret dX2_countFor_26 rfl ?_
    exact hQ
  have h2 : aw l K mX2_countFor d 0 0 4 [.ref a, .int (nI m), .int (nI (cnS (p 0) m * cnS (p 1) m)), .int (nI 2)] [] E M Q := by
    have hin : vp_in (nI 2) 3 := vp_in_nI (by decide) (by decide)
    have hx : M a (nI 2).toNatClampNeg = p 2 := hM 2 (by decide)
    refine aw_iload_n (n := 5) dX2_countFor_4 rfl rfl ?_
    refine aw_iconst (n := 6) (v := 3) dX2_countFor_5 (by decide) rfl ?_
    refine aw_icmp_ge (tg := 25) (n := 9) dX2_countFor_6 (by decide) rfl (fun c_6 => by exact absurd c_6 (by decide)) (fun c_6 => ?_)
    refine aw_iload_n (n := 10) dX2_countFor_9 rfl rfl ?_
    refine aw_aload_n (n := 11) dX2_countFor_10 rfl rfl ?_
    refine aw_iload_n (n := 12) dX2_countFor_11 rfl rfl ?_
    refine aw_iald (n := 13) dX2_countFor_12 (by assumption) (by assumption) rfl ?_
    refine aw_iload_n (n := 14) dX2_countFor_13 rfl rfl ?_
    rw [hx]
    refine aw_s2 (d1 := d - 1) (n := 17) (Z := mX2_count) (L0 := [_, _, .null, .null, .null]) dX2_countFor_14 kX2_count gX2_15 syX2_count rfl rfl (Nat.le_of_ble_eq_true rfl) rfl rfl (by omega) (Nat.le_of_ble_eq_true rfl) (t_count (by omega) hm ?_)
    dsimp only [aPush]
    refine aw_imul (n := 18) dX2_countFor_17 rfl ?_
    refine aw_istore_n (n := 19) (L' := [_, _, _, _]) dX2_countFor_18 (Nat.le_of_ble_eq_true rfl) rfl rfl ?_
    refine aw_incp (n := 22) (L' := [_, _, _, _]) dX2_countFor_19 rfl rfl rfl ?_
    refine aw_goto (n := 4) dX2_countFor_22 (by decide) ?_
    rw [pk_mul]; exact h3
  have h1 : aw l K mX2_countFor d 0 0 4 [.ref a, .int (nI m), .int (nI (cnS (p 0) m)), .int (nI 1)] [] E M Q := by
    have hin : vp_in (nI 1) 3 := vp_in_nI (by decide) (by decide)
    have hx : M a (nI 1).toNatClampNeg = p 1 := hM 1 (by decide)
    refine aw_iload_n (n := 5) dX2_countFor_4 rfl rfl ?_
    refine aw_iconst (n := 6) (v := 3) dX2_countFor_5 (by decide) rfl ?_
    refine aw_icmp_ge (tg := 25) (n := 9) dX2_countFor_6 (by decide) rfl (fun c_6 => by exact absurd c_6 (by decide)) (fun c_6 => ?_)
    refine aw_iload_n (n := 10) dX2_countFor_9 rfl rfl ?_
    refine aw_aload_n (n := 11) dX2_countFor_10 rfl rfl ?_
    refine aw_iload_n (n := 12) dX2_countFor_11 rfl rfl ?_
    refine aw_iald (n := 13) dX2_countFor_12 (by assumption) (by assumption) rfl ?_
    refine aw_iload_n (n := 14) dX2_countFor_13 rfl rfl ?_
    rw [hx]
    refine aw_s2 (d1 := d - 1) (n := 17) (Z := mX2_count) (L0 := [_, _, .null, .null, .null]) dX2_countFor_14 kX2_count gX2_15 syX2_count rfl rfl (Nat.le_of_ble_eq_true rfl) rfl rfl (by omega) (Nat.le_of_ble_eq_true rfl) (t_count (by omega) hm ?_)
    dsimp only [aPush]
    refine aw_imul (n := 18) dX2_countFor_17 rfl ?_
    refine aw_istore_n (n := 19) (L' := [_, _, _, _]) dX2_countFor_18 (Nat.le_of_ble_eq_true rfl) rfl rfl ?_
    refine aw_incp (n := 22) (L' := [_, _, _, _]) dX2_countFor_19 rfl rfl rfl ?_
    refine aw_goto (n := 4) dX2_countFor_22 (by decide) ?_
    rw [pk_mul]; exact h2
  have h0 : aw l K mX2_countFor d 0 0 4 [.ref a, .int (nI m), .int 1, .int (nI 0)] [] E M Q := by
    have hin : vp_in (nI 0) 3 := vp_in_nI (by decide) (by decide)
    have hx : M a (nI 0).toNatClampNeg = p 0 := hM 0 (by decide)
    refine aw_iload_n (n := 5) dX2_countFor_4 rfl rfl ?_
    refine aw_iconst (n := 6) (v := 3) dX2_countFor_5 (by decide) rfl ?_
    refine aw_icmp_ge (tg := 25) (n := 9) dX2_countFor_6 (by decide) rfl (fun c_6 => by exact absurd c_6 (by decide)) (fun c_6 => ?_)
    refine aw_iload_n (n := 10) dX2_countFor_9 rfl rfl ?_
    refine aw_aload_n (n := 11) dX2_countFor_10 rfl rfl ?_
    refine aw_iload_n (n := 12) dX2_countFor_11 rfl rfl ?_
    refine aw_iald (n := 13) dX2_countFor_12 (by assumption) (by assumption) rfl ?_
    refine aw_iload_n (n := 14) dX2_countFor_13 rfl rfl ?_
    rw [hx]
    refine aw_s2 (d1 := d - 1) (n := 17) (Z := mX2_count) (L0 := [_, _, .null, .null, .null]) dX2_countFor_14 kX2_count gX2_15 syX2_count rfl rfl (Nat.le_of_ble_eq_true rfl) rfl rfl (by omega) (Nat.le_of_ble_eq_true rfl) (t_count (by omega) hm ?_)
    dsimp only [aPush]
    refine aw_imul (n := 18) dX2_countFor_17 rfl ?_
    refine aw_istore_n (n := 19) (L' := [_, _, _, _]) dX2_countFor_18 (Nat.le_of_ble_eq_true rfl) rfl rfl ?_
    refine aw_incp (n := 22) (L' := [_, _, _, _]) dX2_countFor_19 rfl rfl rfl ?_
    refine aw_goto (n := 4) dX2_countFor_22 (by decide) ?_
    rw [Int32.one_mul]; exact h1
  refine aw_iconst (n := 1) (v := 1) dX2_countFor_0 (by decide) rfl ?_
  refine aw_istore_n (n := 2) (L' := [_, _, _, _]) dX2_countFor_1 (Nat.le_of_ble_eq_true rfl) rfl rfl ?_
  refine aw_iconst (n := 3) (v := 0) dX2_countFor_2 (by decide) rfl ?_
  refine aw_istore_n (n := 4) (L' := [_, _, _, _]) dX2_countFor_3 (Nat.le_of_ble_eq_true rfl) rfl rfl ?_
  exact h0
theorem t_rk {E : aE} {j : Nat} (hj : j < 2 ^ 30) (hQ : Q (some (.int (rk j))) E M) : aw l K mX2_whole d 0 0 0 [.int (nI j)] [] E M Q := by
  have e2 : nI j - nI j / 2 * 2 = nI (j % 2) := pk_rem (d := 2) (by omega) (by decide) (by decide)
  have e3 : (nI j + 1) / 2 = nI ((j + 1) / 2) := by rw [nI_1]; exact pk_div (d := 2) (by omega) (by decide) (by decide)
  have e4 : nI j / 2 = nI (j / 2) := pk_div (d := 2) (by omega) (by decide) (by decide)
  refine aw_iload_n (n := 1) dX2_whole_0 rfl rfl ?_
  refine aw_iconst (n := 2) (v := 2) dX2_whole_1 (by decide) rfl ?_
  refine aw_irem (n := 3) dX2_whole_2 (by first | assumption | decide) rfl ?_
  rw [e2]
  refine aw_iconst (n := 4) (v := 1) dX2_whole_3 (by decide) rfl ?_
  refine aw_icmp_ne (tg := 15) (n := 7) dX2_whole_4 (by decide) rfl (fun c_4 => ?_) (fun c_4 => ?_)
  · refine aw_iload_n (n := 16) dX2_whole_15 rfl rfl ?_
    refine aw_iconst (n := 17) (v := 2) dX2_whole_16 (by decide) rfl ?_
    refine aw_idiv (n := 18) dX2_whole_17 (by first | assumption | decide) rfl ?_
    rw [e4]
    refine aw_ineg (n := 19) dX2_whole_18 rfl ?_
    refine aw_iret dX2_whole_19 rfl ?_
    first
      | (rw [show rk j = -(nI (j / 2)) from if_neg (fun q => c_4 (by rw [q]; rfl))] at hQ; exact hQ)
      | (rw [show rk j = nI ((j + 1) / 2) from if_pos ((nI_eq (b := 1) (by omega) (by decide)).mp c_4)] at hQ; exact hQ)
  · refine aw_iload_n (n := 8) dX2_whole_7 rfl rfl ?_
    refine aw_iconst (n := 9) (v := 1) dX2_whole_8 (by decide) rfl ?_
    refine aw_iadd (n := 10) dX2_whole_9 rfl ?_
    refine aw_iconst (n := 11) (v := 2) dX2_whole_10 (by decide) rfl ?_
    refine aw_idiv (n := 12) dX2_whole_11 (by first | assumption | decide) rfl ?_
    rw [e3]
    refine aw_goto (n := 19) dX2_whole_12 (by decide) ?_
    refine aw_iret dX2_whole_19 rfl ?_
    first
      | (rw [show rk j = -(nI (j / 2)) from if_neg (fun q => c_4 (by rw [q]; rfl))] at hQ; exact hQ)
      | (rw [show rk j = nI ((j + 1) / 2) from if_pos ((nI_eq (b := 1) (by omega) (by decide)).mp c_4)] at hQ; exact hQ)
theorem rl_len (b : Nat) : ∀ f left p len, (rl b f left p len).1 ≤ f + len ∧ (rl b f left p len).2 ≤ left := by
  intro f
  induction f with
  | zero => intro left p len; exact ⟨by simp [rl], Nat.le_refl _⟩
  | succ f ih =>
    intro left p len
    unfold rl
    split
    · exact ⟨by show len ≤ _; omega, Nat.le_refl _⟩
    · have := ih (left - p) (p * b) (len + 1)
      exact ⟨by omega, by omega⟩
theorem t_rowInto {a m j : Nat} (hd : 2 ≤ d) (ha : iV a) (hm : m ≤ 3) (hj : j < 2 ^ 30) (hQ : ∀ M', vAt M' a (smv 1 m j) → (∀ q, q ≠ a → q ≠ a + 1 → M' q = M q) → Q none EE M') : aw l K mX2_rowInto d 0 0 0 [.ref a, .int (nI m), .int (nI j), .null, .null, .null, .null] [] EE M Q := by
  have ha' := ha
  obtain ⟨hva, hvb⟩ := ha
  obtain ⟨b, hb⟩ : ∃ b, b = 2 * m + 1 := ⟨_, rfl⟩
  obtain ⟨len, left, hrl⟩ : ∃ len left, rl b m j 1 0 = (len, left) := ⟨_, _, rfl⟩
  have hsm : smv 1 m j = some (.inr (lR len (fun k => rk (left / b ^ (len - 1 - k) % b)))) := by
    have h1 : smv 1 m j = some (.inr (lR (rl (2 * m + 1) m j 1 0).1 (fun k => rk ((rl (2 * m + 1) m j 1 0).2 / (2 * m + 1) ^ ((rl (2 * m + 1) m j 1 0).1 - 1 - k) % (2 * m + 1))))) := rfl
    rw [h1, ← hb, hrl]
  rw [hsm] at hQ
  have hll := rl_len b m j 1 0
  rw [hrl] at hll
  obtain ⟨hlen, hleft⟩ : len ≤ m + 0 ∧ left ≤ j := hll
  have hb7 : b ≤ 7 := by omega
  have hbne : ¬ nI b = 0 := nI_ne0 (by omega) (by omega)
  -- the digits
  have second : ∀ k Mk lf x2 x4, k ≤ len → lf = left / b ^ (len - k) → Mk a 0 = 1 → Mk a 2 = nI len → (∀ q, q ≠ a → q ≠ a + 1 → Mk q = M q) → (∀ i, k ≤ i → i < len → Mk (a + 1) i = rk (left / b ^ (len - 1 - i) % b)) → aw l K mX2_rowInto d 0 0 52 [.ref a, .int (nI m), x2, .int (nI lf), x4, .int (nI len), .int (nI k + -1)] [] EE Mk Q := by
    intro k
    induction k with
    | zero =>
      intro Mk lf x2 x4 hk hlf g0 g2 hf h5
      refine aw_iload (n := 54) dX2_rowInto_52 rfl rfl ?_
      refine aw_if_lt (tg := 86) (n := 57) dX2_rowInto_54 (by decide) rfl (fun c_54 => ?_) (fun c_54 => by exact absurd (by decide) c_54)
      refine aw_vret dX2_rowInto_86 rfl ?_
      refine hQ _ ⟨g0, by rw [len_lR]; omega, by rw [len_lR]; exact g2, fun i hi => ?_⟩ hf
      rw [len_lR] at hi
      rw [getD_lR _ _ _ hi]; exact h5 i (Nat.zero_le _) hi
    | succ k ih =>
      intro Mk lf x2 x4 hk hlf g0 g2 hf h5
      have hlfj : lf ≤ j := by
        rw [hlf]; exact Nat.le_trans (Nat.div_le_self _ _) hleft
      have hin : vp_in (nI k) 16 := vp_in_nI (by omega) (by decide)
      have hkk : (nI k).toNatClampNeg = k := nI_clamp (by omega)
      have e1 : nI lf - nI lf / nI b * nI b = nI (lf % b) := pk_rem (by omega) (by omega) (by omega)
      have e2 : nI lf / nI b = nI (lf / b) := pk_div (by omega) (by omega) (by omega)
      have hlf2 : lf / b = left / b ^ (len - k) := by
        rw [hlf, Nat.div_div_eq_div_mul, ← Nat.pow_succ]
        congr 2; omega
      rw [pk_m1]
      refine aw_iload (n := 54) dX2_rowInto_52 rfl rfl ?_
      refine aw_if_lt (tg := 86) (n := 57) dX2_rowInto_54 (by decide) rfl (fun c_54 => by exact absurd c_54 (nI_pos (by omega))) (fun c_54 => ?_)
      refine aw_aload_n (n := 58) dX2_rowInto_57 rfl rfl ?_
      refine aw_getr (n := 61) dX2_rowInto_58 fX2_42 (by assumption) rfl rfl ?_
      refine aw_iload (n := 63) dX2_rowInto_61 rfl rfl ?_
      refine aw_iload_n (n := 64) dX2_rowInto_63 rfl rfl ?_
      refine aw_iload_n (n := 65) dX2_rowInto_64 rfl rfl ?_
      refine aw_s1 (d1 := d - 1) (n := 68) (Z := mX2_wholes) (L0 := [_]) dX2_rowInto_65 kX2_wholes gX2_9 syX2_wholes rfl (Nat.le_of_ble_eq_true rfl) rfl rfl (by omega) (Nat.le_of_ble_eq_true rfl) ?_
      refine aw_iconst (n := 1) (v := 2) dX2_wholes_0 (by decide) rfl ?_
      refine aw_iload_n (n := 2) dX2_wholes_1 rfl rfl ?_
      refine aw_imul (n := 3) dX2_wholes_2 rfl ?_
      refine aw_iconst (n := 4) (v := 1) dX2_wholes_3 (by decide) rfl ?_
      refine aw_iadd (n := 5) dX2_wholes_4 rfl ?_
      refine aw_iret dX2_wholes_5 rfl ?_
      dsimp only [aPush]
      rw [e21, ← hb]
      refine aw_irem (n := 69) dX2_rowInto_68 (by first | assumption | decide) rfl ?_
      rw [e1]
      refine aw_s1 (d1 := d - 1) (n := 72) (Z := mX2_whole) (L0 := [_]) dX2_rowInto_69 kX2_whole gX2_23 syX2_whole rfl (Nat.le_of_ble_eq_true rfl) rfl rfl (by omega) (Nat.le_of_ble_eq_true rfl) (t_rk (by have := Nat.mod_le lf b; omega) ?_)
      dsimp only [aPush]
      refine aw_iast (n := 73) dX2_rowInto_72 (by assumption) (by assumption) rfl ?_
      refine aw_iload_n (n := 74) dX2_rowInto_73 rfl rfl ?_
      refine aw_iload_n (n := 75) dX2_rowInto_74 rfl rfl ?_
      refine aw_s1 (d1 := d - 1) (n := 78) (Z := mX2_wholes) (L0 := [_]) dX2_rowInto_75 kX2_wholes gX2_9 syX2_wholes rfl (Nat.le_of_ble_eq_true rfl) rfl rfl (by omega) (Nat.le_of_ble_eq_true rfl) ?_
      refine aw_iconst (n := 1) (v := 2) dX2_wholes_0 (by decide) rfl ?_
      refine aw_iload_n (n := 2) dX2_wholes_1 rfl rfl ?_
      refine aw_imul (n := 3) dX2_wholes_2 rfl ?_
      refine aw_iconst (n := 4) (v := 1) dX2_wholes_3 (by decide) rfl ?_
      refine aw_iadd (n := 5) dX2_wholes_4 rfl ?_
      refine aw_iret dX2_wholes_5 rfl ?_
      dsimp only [aPush]
      rw [e21, ← hb]
      refine aw_idiv (n := 79) dX2_rowInto_78 (by first | assumption | decide) rfl ?_
      rw [e2]
      refine aw_istore_n (n := 80) (L' := [_, _, _, _, _, _, _]) dX2_rowInto_79 (Nat.le_of_ble_eq_true rfl) rfl rfl ?_
      refine aw_incm (n := 83) (L' := [_, _, _, _, _, _, _]) dX2_rowInto_80 rfl rfl rfl ?_
      refine aw_goto (n := 52) dX2_rowInto_83 (by decide) ?_
      rw [hkk]
      refine ih _ (lf / b) _ _ (by omega) hlf2 ?_ ?_ (fun q q1 q2 => ?_) (fun i hi1 hi2 => ?_)
      · rw [up2_a _ _ (by omega)]; exact g0
      · rw [up2_a _ _ (by omega)]; exact g2
      · rw [up2_ra _ _ q2]; exact hf q q1 q2
      · by_cases hik : i = k
        · subst hik; rw [up2_s, hlf, show len - (i + 1) = len - 1 - i by omega]
        · rw [up2_k _ _ hik]; exact h5 i (by omega) hi2
  have first : ∀ f lf p ln x2, f + ln = m → lf ≤ j → p ≤ 7 ^ ln → rl b f lf p ln = (len, left) → aw l K mX2_rowInto d 0 0 8 [.ref a, .int (nI m), x2, .int (nI lf), .int (nI p), .int (nI ln), .null] [] EE M Q := by
    have fin : ∀ p x2, aw l K mX2_rowInto d 0 0 40 [.ref a, .int (nI m), x2, .int (nI left), p, .int (nI len), .null] [] EE M Q := by
      intro p x2
      refine aw_aload_n (n := 41) dX2_rowInto_40 rfl rfl ?_
      refine aw_iload (n := 43) dX2_rowInto_41 rfl rfl ?_
      refine aw_v1 (d1 := d - 1) (n := 46) (Z := mX5_setRow) (ci := 3) (L0 := [_, _]) dX2_rowInto_43 kX5_setRow gX2_39 iyX5_setRow eyX5_setRow rfl rfl (by assumption) rfl (Nat.le_of_ble_eq_true rfl) rfl rfl (by omega) (Nat.le_of_ble_eq_true rfl) (t_setRow ha' (fun M1 g0 g2 g3 => ?_))
      dsimp only [aPush]
      refine aw_iload (n := 48) dX2_rowInto_46 rfl rfl ?_
      refine aw_iconst (n := 49) (v := 1) dX2_rowInto_48 (by decide) rfl ?_
      refine aw_isub (n := 50) dX2_rowInto_49 rfl ?_
      refine aw_istore (n := 52) (L' := [_, _, _, _, _, _, _]) dX2_rowInto_50 (Nat.le_of_ble_eq_true rfl) rfl rfl ?_
      rw [Int32.sub_eq_add_neg]
      exact second len _ left _ _ (Nat.le_refl _) (by rw [Nat.sub_self, Nat.pow_zero, Nat.div_one]) g0 g2 (fun q q1 q2 => g3 q q1) (fun i h1 h2 => by omega)
    intro f
    induction f with
    | zero =>
      intro lf p ln x2 hfl hlf hp hr
      have h1 : ln = len ∧ lf = left := by
        have : (ln, lf) = (len, left) := hr
        exact ⟨congrArg Prod.fst this, congrArg Prod.snd this⟩
      obtain ⟨rfl, rfl⟩ := h1
      refine aw_iload (n := 10) dX2_rowInto_8 rfl rfl ?_
      refine aw_iload_n (n := 11) dX2_rowInto_10 rfl rfl ?_
      refine aw_icmp_ge (tg := 40) (n := 14) dX2_rowInto_11 (by decide) rfl (fun c_11 => ?_) (fun c_11 => by exact absurd (nI_le (by omega) (by omega)) c_11)
      exact fin _ _
    | succ f ih =>
      intro lf p ln x2 hfl hlf hp hr
      have hp343 : p ≤ 343 := by
        have h1 : 7 ^ ln ≤ 7 ^ 3 := Nat.pow_le_pow_right (by decide) (by omega)
        have h2 : (7 : Nat) ^ 3 = 343 := by decide
        omega
      unfold rl at hr
      refine aw_iload (n := 10) dX2_rowInto_8 rfl rfl ?_
      refine aw_iload_n (n := 11) dX2_rowInto_10 rfl rfl ?_
      refine aw_icmp_ge (tg := 40) (n := 14) dX2_rowInto_11 (by decide) rfl (fun c_11 => by exact absurd c_11 (nI_ge (by omega) (by omega))) (fun c_11 => ?_)
      refine aw_iload_n (n := 15) dX2_rowInto_14 rfl rfl ?_
      refine aw_iload (n := 17) dX2_rowInto_15 rfl rfl ?_
      refine aw_icmp_lt (tg := 40) (n := 20) dX2_rowInto_17 (by decide) rfl (fun c_17 => ?_) (fun c_17 => ?_)
      · rw [if_pos ((nI_ltI (by omega) (by omega)).mp c_17)] at hr
        have h1 : ln = len ∧ lf = left := ⟨congrArg Prod.fst hr, congrArg Prod.snd hr⟩
        obtain ⟨rfl, rfl⟩ := h1
        exact fin _ _
      · refine aw_iload_n (n := 21) dX2_rowInto_20 rfl rfl ?_
        refine aw_iload (n := 23) dX2_rowInto_21 rfl rfl ?_
        refine aw_isub (n := 24) dX2_rowInto_23 rfl ?_
        refine aw_istore_n (n := 25) (L' := [_, _, _, _, _, _, _]) dX2_rowInto_24 (Nat.le_of_ble_eq_true rfl) rfl rfl ?_
        refine aw_iload (n := 27) dX2_rowInto_25 rfl rfl ?_
        refine aw_iload_n (n := 28) dX2_rowInto_27 rfl rfl ?_
        refine aw_s1 (d1 := d - 1) (n := 31) (Z := mX2_wholes) (L0 := [_]) dX2_rowInto_28 kX2_wholes gX2_9 syX2_wholes rfl (Nat.le_of_ble_eq_true rfl) rfl rfl (by omega) (Nat.le_of_ble_eq_true rfl) ?_
        refine aw_iconst (n := 1) (v := 2) dX2_wholes_0 (by decide) rfl ?_
        refine aw_iload_n (n := 2) dX2_wholes_1 rfl rfl ?_
        refine aw_imul (n := 3) dX2_wholes_2 rfl ?_
        refine aw_iconst (n := 4) (v := 1) dX2_wholes_3 (by decide) rfl ?_
        refine aw_iadd (n := 5) dX2_wholes_4 rfl ?_
        refine aw_iret dX2_wholes_5 rfl ?_
        dsimp only [aPush]
        refine aw_imul (n := 32) dX2_rowInto_31 rfl ?_
        refine aw_istore (n := 34) (L' := [_, _, _, _, _, _, _]) dX2_rowInto_32 (Nat.le_of_ble_eq_true rfl) rfl rfl ?_
        refine aw_incp (n := 37) (L' := [_, _, _, _, _, _, _]) dX2_rowInto_34 rfl rfl rfl ?_
        refine aw_goto (n := 8) dX2_rowInto_37 (by decide) ?_
        have hnl : ¬ lf < p := fun q => c_17 ((nI_ltI (by omega) (by omega)).mpr q)
        rw [if_neg hnl] at hr
        rw [nI_1, pk_sub (by omega), e21, ← hb, pk_mul]
        refine ih (lf - p) (p * b) (ln + 1) _ (by omega) (by omega) ?_ hr
        rw [Nat.pow_succ]
        exact Nat.mul_le_mul hp hb7
  refine aw_iload_n (n := 1) dX2_rowInto_0 rfl rfl ?_
  refine aw_istore_n (n := 2) (L' := [_, _, _, _, _, _, _]) dX2_rowInto_1 (Nat.le_of_ble_eq_true rfl) rfl rfl ?_
  refine aw_iconst (n := 3) (v := 1) dX2_rowInto_2 (by decide) rfl ?_
  refine aw_istore (n := 5) (L' := [_, _, _, _, _, _, _]) dX2_rowInto_3 (Nat.le_of_ble_eq_true rfl) rfl rfl ?_
  refine aw_iconst (n := 6) (v := 0) dX2_rowInto_5 (by decide) rfl ?_
  refine aw_istore (n := 8) (L' := [_, _, _, _, _, _, _]) dX2_rowInto_6 (Nat.le_of_ble_eq_true rfl) rfl rfl ?_
  exact first m j 1 0 _ (by omega) (Nat.le_refl _) (by decide) hrl
theorem t_smallInto {a m j : Nat} {ty : Int32} (hd : 3 ≤ d) (ha : iV a) (hm : m ≤ 3) (hj : j < 2 ^ 30) (hQ : ∀ M', vAt M' a (smv ty m j) → (∀ q, q ≠ a → q ≠ a + 1 → M' q = M q) → Q none EE M') : aw l K mX2_into d 0 0 0 [.ref a, .int ty, .int (nI m), .int (nI j)] [] EE M Q := by
  have ha' := ha
  obtain ⟨hva, hvb⟩ := ha
  refine aw_iload_n (n := 1) dX2_into_0 rfl rfl ?_
  refine aw_if_ne (tg := 15) (n := 4) dX2_into_1 (by decide) rfl (fun c_1 => ?_) (fun c_1 => ?_)
  · refine aw_iload_n (n := 16) dX2_into_15 rfl rfl ?_
    refine aw_iconst (n := 17) (v := 1) dX2_into_16 (by decide) rfl ?_
    refine aw_icmp_ne (tg := 29) (n := 20) dX2_into_17 (by decide) rfl (fun c_17 => ?_) (fun c_17 => ?_)
    · refine aw_aload_n (n := 30) dX2_into_29 rfl rfl ?_
      refine aw_v0 (d1 := d - 1) (n := 33) (Z := mX5_setNothing) (ci := 3) (L0 := [_]) dX2_into_30 kX5_setNothing gX2_36 iyX5_setNothing eyX5_setNothing rfl rfl (by assumption) (Nat.le_of_ble_eq_true rfl) rfl rfl (by omega) (Nat.le_of_ble_eq_true rfl) (t_setNothing ha' (fun M' h1 h2 => ?_))
      dsimp only [aPush]
      refine aw_vret dX2_into_33 rfl ?_
      refine hQ _ ?_ (fun q q1 q2 => h2 q q1)
      rw [show smv ty m j = none from (if_neg c_1).trans (if_neg c_17)]; exact h1
    · refine aw_aload_n (n := 21) dX2_into_20 rfl rfl ?_
      refine aw_iload_n (n := 22) dX2_into_21 rfl rfl ?_
      refine aw_iload_n (n := 23) dX2_into_22 rfl rfl ?_
      refine aw_s3 (d1 := d - 1) (n := 26) (Z := mX2_rowInto) (L0 := [_, _, _, .null, .null, .null, .null]) dX2_into_23 kX2_rowInto gX2_32 syX2_rowInto rfl rfl rfl (Nat.le_of_ble_eq_true rfl) rfl rfl (by omega) (Nat.le_of_ble_eq_true rfl) (t_rowInto (by omega) ha' hm hj (fun M' h1 h2 => ?_))
      dsimp only [aPush]
      refine aw_goto (n := 33) dX2_into_26 (by decide) ?_
      refine aw_vret dX2_into_33 rfl ?_
      refine hQ _ ?_ h2
      rw [c_17]; exact h1
  · refine aw_aload_n (n := 5) dX2_into_4 rfl rfl ?_
    refine aw_iload_n (n := 6) dX2_into_5 rfl rfl ?_
    refine aw_s1 (d1 := d - 1) (n := 9) (Z := mX2_whole) (L0 := [_]) dX2_into_6 kX2_whole gX2_23 syX2_whole rfl (Nat.le_of_ble_eq_true rfl) rfl rfl (by omega) (Nat.le_of_ble_eq_true rfl) (t_rk hj ?_)
    dsimp only [aPush]
    refine aw_v1 (d1 := d - 1) (n := 12) (Z := mX5_setWhole) (ci := 3) (L0 := [_, _]) dX2_into_9 kX5_setWhole gX2_26 iyX5_setWhole eyX5_setWhole rfl rfl (by assumption) rfl (Nat.le_of_ble_eq_true rfl) rfl rfl (by omega) (Nat.le_of_ble_eq_true rfl) (t_setWhole ha' (fun M' h1 h2 => ?_))
    dsimp only [aPush]
    refine aw_goto (n := 33) dX2_into_12 (by decide) ?_
    refine aw_vret dX2_into_33 rfl ?_
    refine hQ _ ?_ (fun q q1 q2 => h2 q q1)
    rw [show smv ty m j = some (.inl (rk j)) from if_pos c_1]; exact h1
theorem t_fill {p : pr} {m j a : Nat} (hd : 4 ≤ d) (hm : m ≤ 3) (hj : j < 2 ^ 30) (hE : EE[a]? = some (.inr (.inl 3))) (ha : 136 ≤ a) (hM : ∀ i, i < 3 → M a i = p i) (hQ : ∀ M', (∀ i, i < 3 → vAt M' (9 + 2 * i) (smI p m j i)) → (∀ q, q < 9 ∨ 15 ≤ q → M' q = M q) → Q none EE M') : aw l K mX2_fill d 0 0 0 [.ref 8, .ref a, .int (nI m), .int (nI j), .null, .null, .null] [] EE M Q := by
  have e8 := E_8r
  obtain ⟨c0, hc0⟩ : ∃ c, c = cnS (p 0) m := ⟨_, rfl⟩
  obtain ⟨c1, hc1⟩ : ∃ c, c = cnS (p 1) m := ⟨_, rfl⟩
  obtain ⟨c2, hc2⟩ : ∃ c, c = cnS (p 2) m := ⟨_, rfl⟩
  have p0 : 0 < c0 := by rw [hc0]; exact cnS_pos _ _
  have p1 : 0 < c1 := by rw [hc1]; exact cnS_pos _ _
  have p2 : 0 < c2 := by rw [hc2]; exact cnS_pos _ _
  have q0 : c0 ≤ 400 := by rw [hc0]; exact cnS_le _ hm
  have q1 : c1 ≤ 400 := by rw [hc1]; exact cnS_le _ hm
  have q2 : c2 ≤ 400 := by rw [hc2]; exact cnS_le _ hm
  have hd1 : j / c2 ≤ j := Nat.div_le_self _ _
  have hd2 : j / c2 / c1 ≤ j / c2 := Nat.div_le_self _ _
  have hm1 : j % c2 ≤ j := Nat.mod_le _ _
  have hm2 : j / c2 % c1 ≤ j / c2 := Nat.mod_le _ _
  have hm3 : j / c2 / c1 % c0 ≤ j / c2 / c1 := Nat.mod_le _ _
  have z : ∀ M3 x4 x6, (∀ i, i < 3 → vAt M3 (9 + 2 * i) (smI p m j i)) → (∀ q, q < 9 ∨ 15 ≤ q → M3 q = M q) → aw l K mX2_fill d 0 0 6 [.ref 8, .ref a, .int (nI m), .int (nI j), x4, .int (nI 0 + -1), x6] [] EE M3 Q := by
    intro M3 x4 x6 h1 h2
    refine aw_iload (n := 8) dX2_fill_6 rfl rfl ?_
    refine aw_if_lt (tg := 51) (n := 11) dX2_fill_8 (by decide) rfl (fun c_8 => ?_) (fun c_8 => by exact absurd (by decide) c_8)
    refine aw_vret dX2_fill_51 rfl ?_
    exact hQ _ h1 h2
  have y0 : ∀ M2 x6, (∀ i, 1 ≤ i → i < 3 → vAt M2 (9 + 2 * i) (smI p m j i)) → (∀ q, q < 9 ∨ 15 ≤ q → M2 q = M q) → aw l K mX2_fill d 0 0 6 [.ref 8, .ref a, .int (nI m), .int (nI j), .int (nI (j / c2 / c1)), .int (nI 0), x6] [] EE M2 Q := by
    intro M2 x6 h1 h2
    have hin : vp_in (nI 0) 3 := vp_in_nI (by decide) (by decide)
    have hin2 : vp_in (nI 0) rIn.length := vp_in_nI (show 0 < 3 by decide) (by decide)
    have hr : rIn[(nI 0).toNatClampNeg]? = some (some 9) := rIn_at 0 (by decide)
    have hx : M2 a (nI 0).toNatClampNeg = p 0 := by rw [h2 a (by omega)]; exact hM 0 (by decide)
    have hne : ¬ nI c0 = 0 := nI_ne0 p0 (by omega)
    have e1 : nI (j / c2 / c1) - nI (j / c2 / c1) / nI c0 * nI c0 = nI (j / c2 / c1 % c0) := pk_rem (by omega) p0 (by omega)
    refine aw_iload (n := 8) dX2_fill_6 rfl rfl ?_
    refine aw_if_lt (tg := 51) (n := 11) dX2_fill_8 (by decide) rfl (fun c_8 => by exact absurd c_8 (by decide)) (fun c_8 => ?_)
    refine aw_aload_n (n := 12) dX2_fill_11 rfl rfl ?_
    refine aw_iload (n := 14) dX2_fill_12 rfl rfl ?_
    refine aw_iald (n := 15) dX2_fill_14 (by assumption) (by assumption) rfl ?_
    refine aw_iload_n (n := 16) dX2_fill_15 rfl rfl ?_
    rw [hx]
    refine aw_s2 (d1 := d - 1) (n := 19) (Z := mX2_count) (L0 := [_, _, .null, .null, .null]) dX2_fill_16 kX2_count gX2_15 syX2_count rfl rfl (Nat.le_of_ble_eq_true rfl) rfl rfl (by omega) (Nat.le_of_ble_eq_true rfl) (t_count (by omega) hm ?_)
    dsimp only [aPush]
    rw [← hc0]
    refine aw_istore (n := 21) (L' := [_, _, _, _, _, _, _]) dX2_fill_19 (Nat.le_of_ble_eq_true rfl) rfl rfl ?_
    refine aw_aload_n (n := 22) dX2_fill_21 rfl rfl ?_
    refine aw_iload (n := 24) dX2_fill_22 rfl rfl ?_
    refine aw_aald (n := 25) dX2_fill_24 (by assumption) (by decide) (by assumption) (by assumption) rfl ?_
    refine aw_aload_n (n := 26) dX2_fill_25 rfl rfl ?_
    refine aw_iload (n := 28) dX2_fill_26 rfl rfl ?_
    refine aw_iald (n := 29) dX2_fill_28 (by assumption) (by assumption) rfl ?_
    rw [hx]
    refine aw_iload_n (n := 30) dX2_fill_29 rfl rfl ?_
    refine aw_iload (n := 32) dX2_fill_30 rfl rfl ?_
    refine aw_iload (n := 34) dX2_fill_32 rfl rfl ?_
    refine aw_irem (n := 35) dX2_fill_34 (by first | assumption | decide) rfl ?_
    rw [e1]
    refine aw_s4 (d1 := d - 1) (n := 38) (Z := mX2_into) (L0 := [_, _, _, _]) dX2_fill_35 kX2_into gX2_19 syX2_into rfl rfl rfl rfl (Nat.le_of_ble_eq_true rfl) rfl rfl (by omega) (Nat.le_of_ble_eq_true rfl) (t_smallInto (by omega) (iV_in 0 (by decide)) hm (by omega) (fun M' h5 h6 => ?_))
    dsimp only [aPush]
    refine aw_iload (n := 40) dX2_fill_38 rfl rfl ?_
    refine aw_iload (n := 42) dX2_fill_40 rfl rfl ?_
    refine aw_idiv (n := 43) dX2_fill_42 (by first | assumption | decide) rfl ?_
    refine aw_istore (n := 45) (L' := [_, _, _, _, _, _, _]) dX2_fill_43 (Nat.le_of_ble_eq_true rfl) rfl rfl ?_
    refine aw_incm (n := 48) (L' := [_, _, _, _, _, _, _]) dX2_fill_45 rfl rfl rfl ?_
    refine aw_goto (n := 6) dX2_fill_48 (by decide) ?_
    refine z _ _ _ (fun i hi => ?_) (fun q hq => ?_)
    · rcases (show i = 0 ∨ i = 1 ∨ i = 2 by omega) with rfl | rfl | rfl
      · rw [hc0, hc1, hc2] at h5; exact h5
      · exact vAt_same (h1 1 (by decide) (by decide)) (h6 _ (by decide) (by decide)) (h6 _ (by decide) (by decide))
      · exact vAt_same (h1 2 (by decide) (by decide)) (h6 _ (by decide) (by decide)) (h6 _ (by decide) (by decide))
    · rw [h6 q (by omega) (by omega)]; exact h2 q hq
  have y1 : ∀ M2 x6, vAt M2 13 (smI p m j 2) → (∀ q, q < 9 ∨ 15 ≤ q → M2 q = M q) → aw l K mX2_fill d 0 0 6 [.ref 8, .ref a, .int (nI m), .int (nI j), .int (nI (j / c2)), .int (nI 1), x6] [] EE M2 Q := by
    intro M2 x6 h1 h2
    have hin : vp_in (nI 1) 3 := vp_in_nI (by decide) (by decide)
    have hin2 : vp_in (nI 1) rIn.length := vp_in_nI (show 1 < 3 by decide) (by decide)
    have hr : rIn[(nI 1).toNatClampNeg]? = some (some 11) := rIn_at 1 (by decide)
    have hx : M2 a (nI 1).toNatClampNeg = p 1 := by rw [h2 a (by omega)]; exact hM 1 (by decide)
    have hne : ¬ nI c1 = 0 := nI_ne0 p1 (by omega)
    have e1 : nI (j / c2) - nI (j / c2) / nI c1 * nI c1 = nI (j / c2 % c1) := pk_rem (by omega) p1 (by omega)
    have e2 : nI (j / c2) / nI c1 = nI (j / c2 / c1) := pk_div (by omega) p1 (by omega)
    refine aw_iload (n := 8) dX2_fill_6 rfl rfl ?_
    refine aw_if_lt (tg := 51) (n := 11) dX2_fill_8 (by decide) rfl (fun c_8 => by exact absurd c_8 (by decide)) (fun c_8 => ?_)
    refine aw_aload_n (n := 12) dX2_fill_11 rfl rfl ?_
    refine aw_iload (n := 14) dX2_fill_12 rfl rfl ?_
    refine aw_iald (n := 15) dX2_fill_14 (by assumption) (by assumption) rfl ?_
    refine aw_iload_n (n := 16) dX2_fill_15 rfl rfl ?_
    rw [hx]
    refine aw_s2 (d1 := d - 1) (n := 19) (Z := mX2_count) (L0 := [_, _, .null, .null, .null]) dX2_fill_16 kX2_count gX2_15 syX2_count rfl rfl (Nat.le_of_ble_eq_true rfl) rfl rfl (by omega) (Nat.le_of_ble_eq_true rfl) (t_count (by omega) hm ?_)
    dsimp only [aPush]
    rw [← hc1]
    refine aw_istore (n := 21) (L' := [_, _, _, _, _, _, _]) dX2_fill_19 (Nat.le_of_ble_eq_true rfl) rfl rfl ?_
    refine aw_aload_n (n := 22) dX2_fill_21 rfl rfl ?_
    refine aw_iload (n := 24) dX2_fill_22 rfl rfl ?_
    refine aw_aald (n := 25) dX2_fill_24 (by assumption) (by decide) (by assumption) (by assumption) rfl ?_
    refine aw_aload_n (n := 26) dX2_fill_25 rfl rfl ?_
    refine aw_iload (n := 28) dX2_fill_26 rfl rfl ?_
    refine aw_iald (n := 29) dX2_fill_28 (by assumption) (by assumption) rfl ?_
    rw [hx]
    refine aw_iload_n (n := 30) dX2_fill_29 rfl rfl ?_
    refine aw_iload (n := 32) dX2_fill_30 rfl rfl ?_
    refine aw_iload (n := 34) dX2_fill_32 rfl rfl ?_
    refine aw_irem (n := 35) dX2_fill_34 (by first | assumption | decide) rfl ?_
    rw [e1]
    refine aw_s4 (d1 := d - 1) (n := 38) (Z := mX2_into) (L0 := [_, _, _, _]) dX2_fill_35 kX2_into gX2_19 syX2_into rfl rfl rfl rfl (Nat.le_of_ble_eq_true rfl) rfl rfl (by omega) (Nat.le_of_ble_eq_true rfl) (t_smallInto (by omega) (iV_in 1 (by decide)) hm (by omega) (fun M' h5 h6 => ?_))
    dsimp only [aPush]
    refine aw_iload (n := 40) dX2_fill_38 rfl rfl ?_
    refine aw_iload (n := 42) dX2_fill_40 rfl rfl ?_
    refine aw_idiv (n := 43) dX2_fill_42 (by first | assumption | decide) rfl ?_
    rw [e2]
    refine aw_istore (n := 45) (L' := [_, _, _, _, _, _, _]) dX2_fill_43 (Nat.le_of_ble_eq_true rfl) rfl rfl ?_
    refine aw_incm (n := 48) (L' := [_, _, _, _, _, _, _]) dX2_fill_45 rfl rfl rfl ?_
    refine aw_goto (n := 6) dX2_fill_48 (by decide) ?_
    refine y0 _ _ (fun i hi1 hi => ?_) (fun q hq => ?_)
    · rcases (show i = 1 ∨ i = 2 by omega) with rfl | rfl
      · rw [hc1, hc2] at h5; exact h5
      · exact vAt_same h1 (h6 _ (by decide) (by decide)) (h6 _ (by decide) (by decide))
    · rw [h6 q (by omega) (by omega)]; exact h2 q hq
  have y2 : aw l K mX2_fill d 0 0 6 [.ref 8, .ref a, .int (nI m), .int (nI j), .int (nI j), .int (nI 2), .null] [] EE M Q := by
    have hin : vp_in (nI 2) 3 := vp_in_nI (by decide) (by decide)
    have hin2 : vp_in (nI 2) rIn.length := vp_in_nI (show 2 < 3 by decide) (by decide)
    have hr : rIn[(nI 2).toNatClampNeg]? = some (some 13) := rIn_at 2 (by decide)
    have hx : M a (nI 2).toNatClampNeg = p 2 := hM 2 (by decide)
    have hne : ¬ nI c2 = 0 := nI_ne0 p2 (by omega)
    have e1 : nI j - nI j / nI c2 * nI c2 = nI (j % c2) := pk_rem (by omega) p2 (by omega)
    have e2 : nI j / nI c2 = nI (j / c2) := pk_div (by omega) p2 (by omega)
    refine aw_iload (n := 8) dX2_fill_6 rfl rfl ?_
    refine aw_if_lt (tg := 51) (n := 11) dX2_fill_8 (by decide) rfl (fun c_8 => by exact absurd c_8 (by decide)) (fun c_8 => ?_)
    refine aw_aload_n (n := 12) dX2_fill_11 rfl rfl ?_
    refine aw_iload (n := 14) dX2_fill_12 rfl rfl ?_
    refine aw_iald (n := 15) dX2_fill_14 (by assumption) (by assumption) rfl ?_
    refine aw_iload_n (n := 16) dX2_fill_15 rfl rfl ?_
    rw [hx]
    refine aw_s2 (d1 := d - 1) (n := 19) (Z := mX2_count) (L0 := [_, _, .null, .null, .null]) dX2_fill_16 kX2_count gX2_15 syX2_count rfl rfl (Nat.le_of_ble_eq_true rfl) rfl rfl (by omega) (Nat.le_of_ble_eq_true rfl) (t_count (by omega) hm ?_)
    dsimp only [aPush]
    rw [← hc2]
    refine aw_istore (n := 21) (L' := [_, _, _, _, _, _, _]) dX2_fill_19 (Nat.le_of_ble_eq_true rfl) rfl rfl ?_
    refine aw_aload_n (n := 22) dX2_fill_21 rfl rfl ?_
    refine aw_iload (n := 24) dX2_fill_22 rfl rfl ?_
    refine aw_aald (n := 25) dX2_fill_24 (by assumption) (by decide) (by assumption) (by assumption) rfl ?_
    refine aw_aload_n (n := 26) dX2_fill_25 rfl rfl ?_
    refine aw_iload (n := 28) dX2_fill_26 rfl rfl ?_
    refine aw_iald (n := 29) dX2_fill_28 (by assumption) (by assumption) rfl ?_
    rw [hx]
    refine aw_iload_n (n := 30) dX2_fill_29 rfl rfl ?_
    refine aw_iload (n := 32) dX2_fill_30 rfl rfl ?_
    refine aw_iload (n := 34) dX2_fill_32 rfl rfl ?_
    refine aw_irem (n := 35) dX2_fill_34 (by first | assumption | decide) rfl ?_
    rw [e1]
    refine aw_s4 (d1 := d - 1) (n := 38) (Z := mX2_into) (L0 := [_, _, _, _]) dX2_fill_35 kX2_into gX2_19 syX2_into rfl rfl rfl rfl (Nat.le_of_ble_eq_true rfl) rfl rfl (by omega) (Nat.le_of_ble_eq_true rfl) (t_smallInto (by omega) (iV_in 2 (by decide)) hm (by omega) (fun M' h5 h6 => ?_))
    dsimp only [aPush]
    refine aw_iload (n := 40) dX2_fill_38 rfl rfl ?_
    refine aw_iload (n := 42) dX2_fill_40 rfl rfl ?_
    refine aw_idiv (n := 43) dX2_fill_42 (by first | assumption | decide) rfl ?_
    rw [e2]
    refine aw_istore (n := 45) (L' := [_, _, _, _, _, _, _]) dX2_fill_43 (Nat.le_of_ble_eq_true rfl) rfl rfl ?_
    refine aw_incm (n := 48) (L' := [_, _, _, _, _, _, _]) dX2_fill_45 rfl rfl rfl ?_
    refine aw_goto (n := 6) dX2_fill_48 (by decide) ?_
    refine y1 _ _ ?_ (fun q hq => h6 q (by omega) (by omega))
    rw [hc2] at h5; exact h5
  refine aw_iload_n (n := 1) dX2_fill_0 rfl rfl ?_
  refine aw_istore (n := 3) (L' := [_, _, _, _, _, _, _]) dX2_fill_1 (Nat.le_of_ble_eq_true rfl) rfl rfl ?_
  refine aw_iconst (n := 4) (v := 2) dX2_fill_3 (by decide) rfl ?_
  refine aw_istore (n := 6) (L' := [_, _, _, _, _, _, _]) dX2_fill_4 (Nat.le_of_ble_eq_true rfl) rfl rfl ?_
  exact y2
end SMALL
