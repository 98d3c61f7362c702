def cS (s : rS) (M : aM) : Prop := M 1 4 = nI s.1 ∧ (∀ k, k < 8 → M 162 (k + 1) = s.2.1 k) ∧ (∀ k, k < 9 → M 163 k = s.2.2.1 k) ∧ M 0 8 = s.2.2.2.1 ∧ (¬ s.2.2.2.1 < 0 → ∀ i, i < 3 → vAt M (137 + 2 * i) (s.2.2.2.2 i))
def cP1 (p : pr) (a : Nat) (M : aM) : Prop := (∀ i, i < 3 → M (a + 1) i = p i) ∧ M a 1 = p 3 ∧ M a 2 = p 4 ∧ M a 3 = p 5 ∧ M a 4 = p 6
def cP (np : Nat) (P : Nat → pr) (M : aM) : Prop := ∀ k, k < np → cP1 (P k) (146 + 2 * k) M
def wfP1 (cnt : Nat) (p : pr) : Prop := (∀ i, i < 3 → p i = -1 ∨ p i = 0 ∨ p i = 1) ∧ (p 3 = -1 ∨ isNo (p 3) cnt) ∧ isNo (p 4) cnt ∧ (p 5 = -1 ∨ isNo (p 5) cnt)
def wfP (cnt np : Nat) (P : Nat → pr) : Prop := ∀ k, k < np → wfP1 cnt (P k)
/-- the terms and properties are there -/
def cA (cnt : Nat) (T : tm) (np : Nat) (P : Nat → pr) (M : aM) : Prop := M 2 5 = nI cnt ∧ cT cnt T M ∧ M 0 7 = nI np ∧ cP np P M
def wfA (cnt : Nat) (T : tm) (np : Nat) (P : Nat → pr) : Prop := cnt ≤ 60 ∧ wfT cnt T ∧ np ≤ 8 ∧ wfP cnt np P
/-- what a run may change: its own cells -/
def fR0 (M M' : aM) : Prop := (∀ q, (2 ≤ q ∧ q ≤ 8) ∨ q = 15 ∨ q = 136 ∨ (143 ≤ q ∧ q ≤ 161) ∨ 164 ≤ q → M' q = M q) ∧ (∀ j, j ≠ 8 → M' 0 j = M 0 j)
theorem fR0_refl (M : aM) : fR0 M M := ⟨fun _ _ => rfl, fun _ _ => rfl⟩
theorem fR0_trans {M M1 M2 : aM} (h1 : fR0 M M1) (h2 : fR0 M1 M2) : fR0 M M2 := ⟨fun q hq => (h2.1 q hq).trans (h1.1 q hq), fun j hj => (h2.2 j hj).trans (h1.2 j hj)⟩
theorem cA_same {cnt np : Nat} {T : tm} {P : Nat → pr} {M M' : aM} (h : cA cnt T np P M) (hf : fR0 M M') (hnp : np ≤ 8) : cA cnt T np P M' := by
  obtain ⟨h1, h2, h3, h4⟩ := h
  refine ⟨by rw [hf.1 2 (by omega)]; exact h1, ?_, by rw [hf.2 7 (by decide)]; exact h3, ?_⟩
  · intro t ht
    rw [hf.1 3 (by omega), hf.1 4 (by omega), hf.1 5 (by omega), hf.1 6 (by omega), hf.1 7 (by omega)]
    exact h2 t ht
  · intro k hk
    obtain ⟨g1, g2⟩ := h4 k hk
    unfold cP1
    rw [hf.1 (146 + 2 * k) (by omega), hf.1 (146 + 2 * k + 1) (by omega)]
    exact ⟨g1, g2⟩
theorem fO_R0 {M M' : aM} (h : fO M M') : fR0 M M' := ⟨fun q hq => h.1 q (by omega) (by omega), fun j _ => by rw [h.1 0 (by omega) (by omega)]⟩
section INNER
variable {l : Launch} {K : aK} {d : Nat} {M : aM} {Q : Option Value → aE → aM → Prop}
theorem t_copyAll {a1 a2 b1 b2 : Nat} {r1 r2 : List (Option Nat)} {inp : Nat → vV} (hd : 1 ≤ d) (e1 : EE[a1]? = some (.inr (.inr (0, r1)))) (e2 : EE[a2]? = some (.inr (.inr (0, r2)))) (l1 : r1.length = 3) (l2 : r2.length = 3) (g1 : ∀ i, i < 3 → r1[i]? = some (some (b1 + 2 * i))) (g2 : ∀ i, i < 3 → r2[i]? = some (some (b2 + 2 * i))) (v1 : ∀ i, i < 3 → iV (b1 + 2 * i)) (v2 : ∀ i, i < 3 → iV (b2 + 2 * i)) (hb : b1 + 6 ≤ b2 ∨ b2 + 6 ≤ b1) (hM : ∀ i, i < 3 → vAt M (b1 + 2 * i) (inp i))
    (hQ : ∀ M', (∀ i, i < 3 → vAt M' (b2 + 2 * i) (inp i)) → (∀ q, q < b2 ∨ b2 + 6 ≤ q → M' q = M q) → Q none EE M') : aw l K mX7_copyAll d 0 0 0 [.ref a1, .ref a2, .null] [] EE M Q := by
  have loop : ∀ m k Mk, m + k = 3 → (∀ i, i < k → vAt Mk (b2 + 2 * i) (inp i)) → (∀ q, q < b2 ∨ b2 + 6 ≤ q → Mk q = M q) → aw l K mX7_copyAll d 0 0 2 [.ref a1, .ref a2, .int (nI k)] [] EE Mk Q := by
    intro m
    induction m with
    | zero =>
      intro k Mk hk h1 h2
      obtain rfl : k = 3 := by omega
      refine aw_iload_n (n := 3) dX7_copyAll_2 rfl rfl ?_
      refine aw_iconst (n := 4) (v := 3) dX7_copyAll_3 (by decide) rfl ?_
      refine aw_icmp_ge (tg := 22) (n := 7) dX7_copyAll_4 (by decide) rfl (fun c_4 => ?_) (fun c_4 => by exact absurd (by decide) c_4)
      refine aw_vret dX7_copyAll_22 rfl ?_
      exact hQ _ h1 h2
    | succ m ih =>
      intro k Mk hk h1 h2
      have hk3 : k < 3 := by omega
      have hin1 : vp_in (nI k) r1.length := by rw [l1]; exact vp_in_nI hk3 (by decide)
      have hin2 : vp_in (nI k) r2.length := by rw [l2]; exact vp_in_nI hk3 (by decide)
      have hr1 : r1[(nI k).toNatClampNeg]? = some (some (b1 + 2 * k)) := by rw [nI_clamp (by omega)]; exact g1 k hk3
      have hr2 : r2[(nI k).toNatClampNeg]? = some (some (b2 + 2 * k)) := by rw [nI_clamp (by omega)]; exact g2 k hk3
      have hx := (v2 k hk3).1
      refine aw_iload_n (n := 3) dX7_copyAll_2 rfl rfl ?_
      refine aw_iconst (n := 4) (v := 3) dX7_copyAll_3 (by decide) rfl ?_
      refine aw_icmp_ge (tg := 22) (n := 7) dX7_copyAll_4 (by decide) rfl (fun c_4 => by exact absurd c_4 (nI_ge (b := 3) hk3 (by decide))) (fun c_4 => ?_)
      refine aw_aload_n (n := 8) dX7_copyAll_7 rfl rfl ?_
      refine aw_iload_n (n := 9) dX7_copyAll_8 rfl rfl ?_
      refine aw_aald (n := 10) dX7_copyAll_9 (by assumption) (by decide) (by assumption) (by assumption) rfl ?_
      refine aw_aload_n (n := 11) dX7_copyAll_10 rfl rfl ?_
      refine aw_iload_n (n := 12) dX7_copyAll_11 rfl rfl ?_
      refine aw_aald (n := 13) dX7_copyAll_12 (by assumption) (by decide) (by assumption) (by assumption) rfl ?_
      refine aw_v1 (d1 := d - 1) (n := 16) (Z := mX5_copy) (ci := 3) (L0 := [_, _, .null]) dX7_copyAll_13 kX5_copy gX7_157 iyX5_copy eyX5_copy rfl rfl (by assumption) rfl (Nat.le_of_ble_eq_true rfl) rfl rfl (by omega) (Nat.le_of_ble_eq_true rfl) (t_copy (v2 k hk3) (v1 k hk3) (by omega) (vAt_same (hM k hk3) (h2 _ (by omega)) (h2 _ (by omega))) (fun M' h5 h6 => ?_))
      dsimp only [aPush]
      refine aw_incp (n := 19) (L' := [_, _, _]) dX7_copyAll_16 rfl rfl rfl ?_
      refine aw_goto (n := 2) dX7_copyAll_19 (by decide) ?_
      rw [nI_1]
      refine ih (k + 1) _ (by omega) (fun i hi => ?_) (fun q hq => ?_)
      · by_cases hik : i = k
        · subst hik; exact h5
        · exact vAt_same (h1 i (by omega)) (h6 _ (by omega) (by omega)) (h6 _ (by omega) (by omega))
      · rw [h6 q (by omega) (by omega)]; exact h2 q hq
  refine aw_iconst (n := 1) (v := 0) dX7_copyAll_0 (by decide) rfl ?_
  refine aw_istore_n (n := 2) (L' := [_, _, _]) dX7_copyAll_1 (Nat.le_of_ble_eq_true rfl) rfl rfl ?_
  exact loop 3 0 M (by omega) (fun i hi => by omega) (fun _ _ => rfl)
theorem t_toSmallest {inp : Nat → vV} (hd : 1 ≤ d) (hM : cI inp M) (hQ : ∀ M', (∀ i, i < 3 → vAt M' (137 + 2 * i) (inp i)) → (∀ q, q < 137 ∨ 143 ≤ q → M' q = M q) → Q none EE M') : aw l K mX7_copyAll d 0 0 0 [.ref 8, .ref 136, .null] [] EE M Q :=
  t_copyAll hd E_8r E_136r rfl rfl rIn_at rSm_at iV_in iV_sm (Or.inl (by decide)) hM hQ
theorem t_toTried {inp : Nat → vV} (hd : 1 ≤ d) (hM : ∀ i, i < 3 → vAt M (137 + 2 * i) (inp i)) (hQ : ∀ M', cI inp M' → (∀ q, q < 9 ∨ 15 ≤ q → M' q = M q) → Q none EE M') : aw l K mX7_copyAll d 0 0 0 [.ref 136, .ref 8, .null] [] EE M Q :=
  t_copyAll hd E_136r E_8r rfl rfl rSm_at rIn_at iV_sm iV_in (Or.inr (by decide)) hM hQ
theorem t_clear (hQ : ∀ M', (∀ k, k < 8 → M' 162 (k + 1) = ta0 k) → (∀ k, k < 9 → M' 163 k = 0) → (∀ q, q ≠ 162 → q ≠ 163 → M' q = M q) → Q none EE M') : aw l K mX3_clear d 0 0 0 [.ref 162, .null] [] EE M Q := by
  have e1 := E_162
  have e2 := E_163
  have loop : ∀ m k Mk, m + k = 9 → (∀ i, i < k → Mk 163 i = 0) → (∀ q, q ≠ 163 → Mk q = M q) → aw l K mX3_clear d 0 0 2 [.ref 162, .int (nI k)] [] EE Mk Q := by
    intro m
    induction m with
    | zero =>
      intro k Mk hk h1 h2
      obtain rfl : k = 9 := by omega
      refine aw_iload_n (n := 3) dX3_clear_2 rfl rfl ?_
      refine aw_bipush (n := 5) (v := 9) dX3_clear_3 (by decide) rfl ?_
      refine aw_icmp_ge (tg := 21) (n := 8) dX3_clear_5 (by decide) rfl (fun c_5 => ?_) (fun c_5 => by exact absurd (by decide) c_5)
      refine aw_aload_n (n := 22) dX3_clear_21 rfl rfl ?_
      refine aw_iconst (n := 23) (v := 0) dX3_clear_22 (by decide) rfl ?_
      refine aw_puti (n := 26) dX3_clear_23 pX3_15 (by assumption) rfl rfl ?_
      refine aw_aload_n (n := 27) dX3_clear_26 rfl rfl ?_
      refine aw_iconst (n := 28) (v := 0) dX3_clear_27 (by decide) rfl ?_
      refine aw_puti (n := 31) dX3_clear_28 pX3_19 (by assumption) rfl rfl ?_
      refine aw_aload_n (n := 32) dX3_clear_31 rfl rfl ?_
      refine aw_iconst (n := 33) (v := 0) dX3_clear_32 (by decide) rfl ?_
      refine aw_puti (n := 36) dX3_clear_33 pX3_22 (by assumption) rfl rfl ?_
      refine aw_aload_n (n := 37) dX3_clear_36 rfl rfl ?_
      refine aw_iconst (n := 38) (v := 0) dX3_clear_37 (by decide) rfl ?_
      refine aw_puti (n := 41) dX3_clear_38 pX3_25 (by assumption) rfl rfl ?_
      refine aw_aload_n (n := 42) dX3_clear_41 rfl rfl ?_
      refine aw_iconst (n := 43) (v := -1) dX3_clear_42 (by decide) rfl ?_
      refine aw_puti (n := 46) dX3_clear_43 pX3_28 (by assumption) rfl rfl ?_
      refine aw_aload_n (n := 47) dX3_clear_46 rfl rfl ?_
      refine aw_iconst (n := 48) (v := 0) dX3_clear_47 (by decide) rfl ?_
      refine aw_puti (n := 51) dX3_clear_48 pX3_31 (by assumption) rfl rfl ?_
      refine aw_aload_n (n := 52) dX3_clear_51 rfl rfl ?_
      refine aw_iconst (n := 53) (v := 0) dX3_clear_52 (by decide) rfl ?_
      refine aw_puti (n := 56) dX3_clear_53 pX3_34 (by assumption) rfl rfl ?_
      refine aw_aload_n (n := 57) dX3_clear_56 rfl rfl ?_
      refine aw_iconst (n := 58) (v := 0) dX3_clear_57 (by decide) rfl ?_
      refine aw_putz (n := 61) dX3_clear_58 pX3_37 (by assumption) rfl (Or.inl rfl) rfl ?_
      refine aw_vret dX3_clear_61 rfl ?_
      refine hQ _ (fun k hk => ?_) (fun k hk => ?_) (fun q q1 q2 => ?_)
      · rcases (show k = 0 ∨ k = 1 ∨ k = 2 ∨ k = 3 ∨ k = 4 ∨ k = 5 ∨ k = 6 ∨ k = 7 by omega) with rfl | rfl | rfl | rfl | rfl | rfl | rfl | rfl <;> simp [up2, ta0]
      · simp [up2, h1 k hk]
      · funext j; simp [up2, q1, h2 q q2]
    | succ m ih =>
      intro k Mk hk h1 h2
      have hin : vp_in (nI k) 9 := vp_in_nI (by omega) (by decide)
      have hkk : (nI k).toNatClampNeg = k := nI_clamp (by omega)
      refine aw_iload_n (n := 3) dX3_clear_2 rfl rfl ?_
      refine aw_bipush (n := 5) (v := 9) dX3_clear_3 (by decide) rfl ?_
      refine aw_icmp_ge (tg := 21) (n := 8) dX3_clear_5 (by decide) rfl (fun c_5 => by exact absurd c_5 (nI_ge (b := 9) (by omega) (by decide))) (fun c_5 => ?_)
      refine aw_aload_n (n := 9) dX3_clear_8 rfl rfl ?_
      refine aw_getr (n := 12) dX3_clear_9 fX3_9 (by assumption) rfl rfl ?_
      refine aw_iload_n (n := 13) dX3_clear_12 rfl rfl ?_
      refine aw_iconst (n := 14) (v := 0) dX3_clear_13 (by decide) rfl ?_
      refine aw_iast (n := 15) dX3_clear_14 (by assumption) (by assumption) rfl ?_
      refine aw_incp (n := 18) (L' := [_, _]) dX3_clear_15 rfl rfl rfl ?_
      refine aw_goto (n := 2) dX3_clear_18 (by decide) ?_
      rw [hkk, nI_1]
      refine ih (k + 1) _ (by omega) (fun i hi => ?_) (fun q hq => ?_)
      · by_cases hik : i = k
        · subst hik; rw [up2_s]
        · rw [up2_k _ _ hik]; exact h1 i (by omega)
      · rw [up2_ra _ _ hq]; exact h2 q hq
  refine aw_iconst (n := 1) (v := 0) dX3_clear_0 (by decide) rfl ?_
  refine aw_istore_n (n := 2) (L' := [_, _]) dX3_clear_1 (Nat.le_of_ble_eq_true rfl) rfl rfl ?_
  exact loop 9 0 M (by omega) (fun i hi => by omega) (fun _ _ => rfl)
/-- what a case does to what is told -/
def tyc (o : Int32) (ta : Nat → Int32) : Nat → Int32 := if o = 0 then upN (upN ta 1 (ta 1 + 1)) 0 (ta 0 + 1) else if o = -1 then upN (upN ta 2 (ta 2 + 1)) 0 (ta 0 + 1) else upN (upN (upN ta 3 o) 4 (ta 0)) 0 (ta 0 + 1)
theorem t_countCase {o : Int32} {ta : Nat → Int32} (hM : ∀ k, k < 8 → M 162 (k + 1) = ta k) (hQ : ∀ M', (∀ k, k < 8 → M' 162 (k + 1) = tyc o ta k) → (∀ q, q ≠ 162 → M' q = M q) → Q none EE M') : aw l K mX3_countCase d 0 0 0 [.ref 162, .int o] [] EE M Q := by
  have e1 := E_162
  have m0 : M 162 1 = ta 0 := hM 0 (by decide)
  have m1 : M 162 2 = ta 1 := hM 1 (by decide)
  have m2 : M 162 3 = ta 2 := hM 2 (by decide)
  have m3 : M 162 4 = ta 3 := hM 3 (by decide)
  have m4 : M 162 5 = ta 4 := hM 4 (by decide)
  have m5 : M 162 6 = ta 5 := hM 5 (by decide)
  have m6 : M 162 7 = ta 6 := hM 6 (by decide)
  have m7 : M 162 8 = ta 7 := hM 7 (by decide)
  refine aw_iload_n (n := 1) dX3_countCase_0 rfl rfl ?_
  refine aw_if_ne (tg := 17) (n := 4) dX3_countCase_1 (by decide) rfl (fun c_1 => ?_) (fun c_1 => ?_)
  · refine aw_iload_n (n := 18) dX3_countCase_17 rfl rfl ?_
    refine aw_iconst (n := 19) (v := -1) dX3_countCase_18 (by decide) rfl ?_
    refine aw_icmp_ne (tg := 35) (n := 22) dX3_countCase_19 (by decide) rfl (fun c_19 => ?_) (fun c_19 => ?_)
    · refine aw_aload_n (n := 36) dX3_countCase_35 rfl rfl ?_
      refine aw_iload_n (n := 37) dX3_countCase_36 rfl rfl ?_
      refine aw_puti (n := 40) dX3_countCase_37 pX3_25 (by assumption) rfl rfl ?_
      refine aw_aload_n (n := 41) dX3_countCase_40 rfl rfl ?_
      refine aw_aload_n (n := 42) dX3_countCase_41 rfl rfl ?_
      refine aw_geti (n := 45) dX3_countCase_42 fX3_15 (by assumption) rfl rfl ?_
      refine aw_puti (n := 48) dX3_countCase_45 pX3_28 (by assumption) rfl rfl ?_
      refine aw_aload_n (n := 49) dX3_countCase_48 rfl rfl ?_
      refine aw_dup (n := 50) dX3_countCase_49 rfl rfl ?_
      refine aw_geti (n := 53) dX3_countCase_50 fX3_15 (by assumption) rfl rfl ?_
      refine aw_iconst (n := 54) (v := 1) dX3_countCase_53 (by decide) rfl ?_
      refine aw_iadd (n := 55) dX3_countCase_54 rfl ?_
      refine aw_puti (n := 58) dX3_countCase_55 pX3_15 (by assumption) rfl rfl ?_
      refine aw_vret dX3_countCase_58 rfl ?_
      refine hQ _ (fun k hk => ?_) (fun q q1 => ?_)
      · rw [show tyc o ta = _ from (if_neg c_1).trans (if_neg c_19)]
        rcases (show k = 0 ∨ k = 1 ∨ k = 2 ∨ k = 3 ∨ k = 4 ∨ k = 5 ∨ k = 6 ∨ k = 7 by omega) with rfl | rfl | rfl | rfl | rfl | rfl | rfl | rfl <;> simp [up2, upN, m0, m1, m2, m3, m4, m5, m6, m7]
      · funext j; simp [up2, q1]
    · refine aw_aload_n (n := 23) dX3_countCase_22 rfl rfl ?_
      refine aw_dup (n := 24) dX3_countCase_23 rfl rfl ?_
      refine aw_geti (n := 27) dX3_countCase_24 fX3_22 (by assumption) rfl rfl ?_
      refine aw_iconst (n := 28) (v := 1) dX3_countCase_27 (by decide) rfl ?_
      refine aw_iadd (n := 29) dX3_countCase_28 rfl ?_
      refine aw_puti (n := 32) dX3_countCase_29 pX3_22 (by assumption) rfl rfl ?_
      refine aw_goto (n := 48) dX3_countCase_32 (by decide) ?_
      refine aw_aload_n (n := 49) dX3_countCase_48 rfl rfl ?_
      refine aw_dup (n := 50) dX3_countCase_49 rfl rfl ?_
      refine aw_geti (n := 53) dX3_countCase_50 fX3_15 (by assumption) rfl rfl ?_
      refine aw_iconst (n := 54) (v := 1) dX3_countCase_53 (by decide) rfl ?_
      refine aw_iadd (n := 55) dX3_countCase_54 rfl ?_
      refine aw_puti (n := 58) dX3_countCase_55 pX3_15 (by assumption) rfl rfl ?_
      refine aw_vret dX3_countCase_58 rfl ?_
      refine hQ _ (fun k hk => ?_) (fun q q1 => ?_)
      · rw [show tyc o ta = _ from (if_neg c_1).trans (if_pos c_19)]
        rcases (show k = 0 ∨ k = 1 ∨ k = 2 ∨ k = 3 ∨ k = 4 ∨ k = 5 ∨ k = 6 ∨ k = 7 by omega) with rfl | rfl | rfl | rfl | rfl | rfl | rfl | rfl <;> simp [up2, upN, m0, m1, m2, m3, m4, m5, m6, m7]
      · funext j; simp [up2, q1]
  · refine aw_aload_n (n := 5) dX3_countCase_4 rfl rfl ?_
    refine aw_dup (n := 6) dX3_countCase_5 rfl rfl ?_
    refine aw_geti (n := 9) dX3_countCase_6 fX3_19 (by assumption) rfl rfl ?_
    refine aw_iconst (n := 10) (v := 1) dX3_countCase_9 (by decide) rfl ?_
    refine aw_iadd (n := 11) dX3_countCase_10 rfl ?_
    refine aw_puti (n := 14) dX3_countCase_11 pX3_19 (by assumption) rfl rfl ?_
    refine aw_goto (n := 48) dX3_countCase_14 (by decide) ?_
    refine aw_aload_n (n := 49) dX3_countCase_48 rfl rfl ?_
    refine aw_dup (n := 50) dX3_countCase_49 rfl rfl ?_
    refine aw_geti (n := 53) dX3_countCase_50 fX3_15 (by assumption) rfl rfl ?_
    refine aw_iconst (n := 54) (v := 1) dX3_countCase_53 (by decide) rfl ?_
    refine aw_iadd (n := 55) dX3_countCase_54 rfl ?_
    refine aw_puti (n := 58) dX3_countCase_55 pX3_15 (by assumption) rfl rfl ?_
    refine aw_vret dX3_countCase_58 rfl ?_
    refine hQ _ (fun k hk => ?_) (fun q q1 => ?_)
    · rw [show tyc o ta = _ from if_pos c_1]
      rcases (show k = 0 ∨ k = 1 ∨ k = 2 ∨ k = 3 ∨ k = 4 ∨ k = 5 ∨ k = 6 ∨ k = 7 by omega) with rfl | rfl | rfl | rfl | rfl | rfl | rfl | rfl <;> simp [up2, upN, m0, m1, m2, m3, m4, m5, m6, m7]
    · funext j; simp [up2, q1]
theorem labS_lt (T : tm) (inp : Nat → vV) (lab : Int32) (r : Nat) : labS T inp lab r < 9 := by
  unfold labS
  split
  · decide
  split
  · decide
  · rename_i h
    obtain ⟨j, hj, e⟩ := vp_lt (k := vwR (ev T inp 61 r lab.toNatClampNeg).2) (n := 8) (by decide) (fun q => h (Or.inl q)) (fun q => h (Or.inr q))
    rw [e, nI_clamp (by omega)]; omega
theorem t_tryCase {cnt np k : Nat} {T : tm} {P : Nat → pr} {inp : Nat → vV} {s : rS} (hd : 142 ≤ d) (hW : wfA cnt T np P) (hA : cA cnt T np P M) (hk : k < np) (hI : cI inp M) (hS : cS s M) (hfl : s.2.2.2.1 < 0)
    (hQ : ∀ M', cS (tcS T (P k) k inp s) M' → fR0 M M' → Q none EE M') : aw l K mX7_tryCase d 0 0 0 [.ref 0, .int (nI k), .null] [] EE M Q := by
  have e0 := E_0
  have e1 := E_1
  have e145 := E_145r
  have e162 := E_162
  have e163 := E_163
  obtain ⟨w1, w2, w3, w4⟩ := hW
  obtain ⟨a1, a2, a3, a4⟩ := hA
  obtain ⟨s1, s2, s3, s4, s5⟩ := hS
  have hk8 : k < 8 := by omega
  obtain ⟨p1, p2, p3, p4, p5⟩ := a4 k hk
  obtain ⟨q1, q2, q3, q4⟩ := w4 k hk
  have hinp : vp_in (nI k) rPr.length := vp_in_nI (show k < 8 by omega) (by decide)
  have hrp : rPr[(nI k).toNatClampNeg]? = some (some (146 + 2 * k)) := by rw [nI_clamp (by omega)]; exact rPr_at k hk8
  have ip1 := (iP_at k hk8).1
  obtain ⟨o, ho⟩ : ∃ o, o = (outS T inp (P k 3) (P k 4) (P k 6)).2 := ⟨_, rfl⟩
  have htc : tcS T (P k) k inp s = (s.1 + 1, tyc o s.2.1, if o = 0 ∧ 0 ≤ P k 5 then upN s.2.2.1 (labS T inp (P k 5) (outS T inp (P k 3) (P k 4) (P k 6)).1) (s.2.2.1 (labS T inp (P k 5) (outS T inp (P k 3) (P k 4) (P k 6)).1) + 1) else s.2.2.1, if 0 < o then nI k else s.2.2.2.1, if 0 < o then inp else s.2.2.2.2) := by rw [ho]; rfl
  rw [htc] at hQ
  refine aw_aload_n (n := 1) dX7_tryCase_0 rfl rfl ?_
  refine aw_getr (n := 4) dX7_tryCase_1 fX7_10 (by assumption) rfl rfl ?_
  refine aw_aload_n (n := 5) dX7_tryCase_4 rfl rfl ?_
  refine aw_getr (n := 8) dX7_tryCase_5 fX7_44 (by assumption) rfl rfl ?_
  refine aw_iload_n (n := 9) dX7_tryCase_8 rfl rfl ?_
  refine aw_aald (n := 10) dX7_tryCase_9 (by assumption) (by decide) (by assumption) (by assumption) rfl ?_
  refine aw_v1 (d1 := d - 1) (n := 13) (Z := mX6_outcome) (ci := 4) (L0 := [_, _, .null]) dX7_tryCase_10 kX6_outcome gX7_144 iyX6_outcome eyX6_outcome rfl rfl (by assumption) rfl (Nat.le_of_ble_eq_true rfl) rfl rfl (by omega) (Nat.le_of_ble_eq_true rfl) (t_outcome (inp := inp) (by omega) w1 w2 (iP_at k hk8) (by omega) a2 hI p2 p3 p5 q2 q3 (fun M1 g1 g2 g3 => ?_))
  dsimp only [aPush]
  rw [← ho]
  refine aw_istore_n (n := 14) (L' := [_, _, _]) dX7_tryCase_13 (Nat.le_of_ble_eq_true rfl) rfl rfl ?_
  refine aw_aload_n (n := 15) dX7_tryCase_14 rfl rfl ?_
  refine aw_getr (n := 18) dX7_tryCase_15 fX7_52 (by assumption) rfl rfl ?_
  refine aw_iload_n (n := 19) dX7_tryCase_18 rfl rfl ?_
  refine aw_v1 (d1 := d - 1) (n := 22) (Z := mX3_countCase) (ci := 1) (L0 := [_, _]) dX7_tryCase_19 kX3_countCase gX7_164 iyX3_countCase eyX3_countCase rfl rfl (by assumption) rfl (Nat.le_of_ble_eq_true rfl) rfl rfl (by omega) (Nat.le_of_ble_eq_true rfl) (t_countCase (ta := s.2.1) (fun j hj => by rw [g3.1 162 (by omega) (by omega)]; exact s2 j hj) (fun M2 h1 h2 => ?_))
  dsimp only [aPush]
  have f2 : fR0 M M2 := fR0_trans (fO_R0 g3) ⟨fun q hq => h2 q (by omega), fun j _ => by rw [h2 0 (by omega)]⟩
  have lab2 : M2 (146 + 2 * k) 3 = P k 5 := by rw [f2.1 _ (by omega)]; exact p4
  have m163 : ∀ j, j < 9 → M2 163 j = s.2.2.1 j := fun j hj => by rw [h2 163 (by omega), g3.1 163 (by omega) (by omega)]; exact s3 j hj
  have m14 : M2 1 4 = nI (s.1 + 1) := by rw [h2 1 (by omega), g3.2.1, s1, nI_1]
  have m08 : M2 0 8 = s.2.2.2.1 := by rw [h2 0 (by omega), g3.1 0 (by omega) (by omega)]; exact s4
  have mI : cI inp M2 := fun i hi => vAt_same (hI i hi) (by rw [h2 _ (by omega), g3.1 _ (by omega) (by omega)]) (by rw [h2 _ (by omega), g3.1 _ (by omega) (by omega)])
  refine aw_iload_n (n := 23) dX7_tryCase_22 rfl rfl ?_
  refine aw_if_ne (tg := 63) (n := 26) dX7_tryCase_23 (by decide) rfl (fun c_23 => ?_) (fun c_23 => ?_)
  · refine aw_iload_n (n := 64) dX7_tryCase_63 rfl rfl ?_
    refine aw_if_le (tg := 83) (n := 67) dX7_tryCase_64 (by decide) rfl (fun c_64 => ?_) (fun c_64 => ?_)
    · refine aw_vret dX7_tryCase_83 rfl ?_
      have hpo : ¬ 0 < o := i_nlt.mpr c_64
      rw [if_neg (c := o = 0 ∧ 0 ≤ P k 5) (fun q => c_23 q.1), if_neg (c := 0 < o) hpo, if_neg (c := 0 < o) hpo] at hQ
      exact hQ _ ⟨m14, h1, m163, m08, fun hn => absurd hfl hn⟩ f2
    · refine aw_aload_n (n := 68) dX7_tryCase_67 rfl rfl ?_
      refine aw_iload_n (n := 69) dX7_tryCase_68 rfl rfl ?_
      refine aw_puti (n := 72) dX7_tryCase_69 pX7_60 (by assumption) rfl rfl ?_
      refine aw_aload_n (n := 73) dX7_tryCase_72 rfl rfl ?_
      refine aw_getr (n := 76) dX7_tryCase_73 fX7_25 (by assumption) rfl rfl ?_
      refine aw_aload_n (n := 77) dX7_tryCase_76 rfl rfl ?_
      refine aw_getr (n := 80) dX7_tryCase_77 fX7_32 (by assumption) rfl rfl ?_
      refine aw_s2 (d1 := d - 1) (n := 83) (Z := mX7_copyAll) (L0 := [_, _, .null]) dX7_tryCase_80 kX7_copyAll gX7_140 syX7_copyAll rfl rfl (Nat.le_of_ble_eq_true rfl) rfl rfl (by omega) (Nat.le_of_ble_eq_true rfl) (t_toSmallest (inp := inp) (by omega) (fun i hi => vAt_same (mI i hi) (up2_ra _ _ (by omega)) (up2_ra _ _ (by omega))) (fun M3 k1 k2 => ?_))
      dsimp only [aPush]
      refine aw_vret dX7_tryCase_83 rfl ?_
      have hpo : 0 < o := i_nle.mp c_64
      rw [if_neg (c := o = 0 ∧ 0 ≤ P k 5) (fun q => c_23 q.1), if_pos (c := 0 < o) hpo, if_pos (c := 0 < o) hpo] at hQ
      refine hQ _ ⟨?_, ?_, ?_, ?_, fun _ => k1⟩ ?_
      · rw [k2 1 (by omega), up2_a _ _ (by decide)]; exact m14
      · intro j hj; rw [k2 162 (by omega), up2_a _ _ (by decide)]; exact h1 j hj
      · intro j hj; rw [k2 163 (by omega), up2_a _ _ (by decide)]; exact m163 j hj
      · rw [k2 0 (by omega), up2_s]
      · exact fR0_trans f2 ⟨fun q hq => by rw [k2 q (by omega), up2_ra _ _ (by omega)], fun j hj => by rw [k2 0 (by omega), up2_k _ _ hj]⟩
  · refine aw_aload_n (n := 27) dX7_tryCase_26 rfl rfl ?_
    refine aw_getr (n := 30) dX7_tryCase_27 fX7_44 (by assumption) rfl rfl ?_
    refine aw_iload_n (n := 31) dX7_tryCase_30 rfl rfl ?_
    refine aw_aald (n := 32) dX7_tryCase_31 (by assumption) (by decide) (by assumption) (by assumption) rfl ?_
    refine aw_geti (n := 35) dX7_tryCase_32 fX7_167 (by assumption) rfl rfl ?_
    rw [lab2]
    refine aw_if_lt (tg := 63) (n := 38) dX7_tryCase_35 (by decide) rfl (fun c_35 => ?_) (fun c_35 => ?_)
    · refine aw_iload_n (n := 64) dX7_tryCase_63 rfl rfl ?_
      refine aw_if_le (tg := 83) (n := 67) dX7_tryCase_64 (by decide) rfl (fun c_64 => ?_) (fun c_64 => by exact absurd (by rw [c_23]; decide) c_64)
      refine aw_vret dX7_tryCase_83 rfl ?_
      have hno : ¬ 0 < o := by rw [c_23]; decide
      rw [if_neg (c := o = 0 ∧ 0 ≤ P k 5) (fun q => i_nlt.mpr q.2 c_35), if_neg (c := 0 < o) hno, if_neg (c := 0 < o) hno] at hQ
      exact hQ _ ⟨m14, h1, m163, m08, fun hn => absurd hfl hn⟩ f2
    · refine aw_aload_n (n := 39) dX7_tryCase_38 rfl rfl ?_
      refine aw_getr (n := 42) dX7_tryCase_39 fX7_52 (by assumption) rfl rfl ?_
      refine aw_getr (n := 45) dX7_tryCase_42 fX7_154 (by assumption) rfl rfl ?_
      refine aw_aload_n (n := 46) dX7_tryCase_45 rfl rfl ?_
      refine aw_getr (n := 49) dX7_tryCase_46 fX7_10 (by assumption) rfl rfl ?_
      refine aw_aload_n (n := 50) dX7_tryCase_49 rfl rfl ?_
      refine aw_getr (n := 53) dX7_tryCase_50 fX7_44 (by assumption) rfl rfl ?_
      refine aw_iload_n (n := 54) dX7_tryCase_53 rfl rfl ?_
      refine aw_aald (n := 55) dX7_tryCase_54 (by assumption) (by decide) (by assumption) (by assumption) rfl ?_
      refine aw_v1 (d1 := d - 1) (n := 58) (Z := mX6_labelled) (ci := 4) (L0 := [_, _, .null, .null]) dX7_tryCase_55 kX6_labelled gX7_170 iyX6_labelled eyX6_labelled rfl rfl (by assumption) rfl (Nat.le_of_ble_eq_true rfl) rfl rfl (by omega) (Nat.le_of_ble_eq_true rfl) (t_labelled (cnt := cnt) (T := T) (inp := inp) (r := (outS T inp (P k 3) (P k 4) (P k 6)).1) (by omega) w1 w2 (iP_at k hk8) (by omega) (fun t ht => by rw [f2.1 3 (by omega), f2.1 4 (by omega), f2.1 5 (by omega), f2.1 6 (by omega), f2.1 7 (by omega)]; exact a2 t ht) mI lab2 (q4.resolve_left (fun q => c_35 (by rw [q]; decide))) g2 (by rw [h2 1 (by omega)]; exact g1) (fun M3 k1 k2 => ?_))
      dsimp only [aPush]
      have hlt := labS_lt T inp (P k 5) (outS T inp (P k 3) (P k 4) (P k 6)).1
      have hinl : vp_in (nI (labS T inp (P k 5) (outS T inp (P k 3) (P k 4) (P k 6)).1)) 9 := vp_in_nI hlt (by decide)
      have hll : (nI (labS T inp (P k 5) (outS T inp (P k 3) (P k 4) (P k 6)).1)).toNatClampNeg = labS T inp (P k 5) (outS T inp (P k 3) (P k 4) (P k 6)).1 := nI_clamp (by omega)
      refine aw_dup2 (n := 59) dX7_tryCase_58 rfl rfl rfl ?_
      refine aw_iald (n := 60) dX7_tryCase_59 (by assumption) (by assumption) rfl ?_
      refine aw_iconst (n := 61) (v := 1) dX7_tryCase_60 (by decide) rfl ?_
      refine aw_iadd (n := 62) dX7_tryCase_61 rfl ?_
      refine aw_iast (n := 63) dX7_tryCase_62 (by assumption) (by assumption) rfl ?_
      rw [hll]
      refine aw_iload_n (n := 64) dX7_tryCase_63 rfl rfl ?_
      refine aw_if_le (tg := 83) (n := 67) dX7_tryCase_64 (by decide) rfl (fun c_64 => ?_) (fun c_64 => by exact absurd (by rw [c_23]; decide) c_64)
      refine aw_vret dX7_tryCase_83 rfl ?_
      have hno : ¬ 0 < o := by rw [c_23]; decide
      rw [if_pos (c := o = 0 ∧ 0 ≤ P k 5) ⟨c_23, i_nlt.mp c_35⟩, if_neg (c := 0 < o) hno, if_neg (c := 0 < o) hno] at hQ
      refine hQ _ ⟨?_, ?_, ?_, ?_, ?_⟩ ?_
      · rw [up2_a _ _ (by decide), k2 4 (by decide)]; exact m14
      · intro j hj; rw [up2_a _ _ (by decide), k1 162 (by omega) (by omega)]; exact h1 j hj
      · intro j hj
        show _ = upN s.2.2.1 _ _ j
        unfold upN
        by_cases hjl : j = labS T inp (P k 5) (outS T inp (P k 3) (P k 4) (P k 6)).1
        · rw [if_pos hjl, hjl, up2_s, k1 163 (by omega) (by omega), m163 _ hlt]
        · rw [if_neg hjl, up2_k _ _ hjl, k1 163 (by omega) (by omega), m163 j hj]
      · rw [up2_a _ _ (by decide), k1 0 (by omega) (by omega)]; exact m08
      · intro hn; exact absurd hfl hn
      · exact fR0_trans f2 ⟨fun q hq => by rw [up2_ra _ _ (by omega), k1 q (by omega) (by omega)], fun j _ => by rw [up2_a _ _ (by decide), k1 0 (by omega) (by omega)]⟩
theorem t_takeCandidate {inp : Nat → vV} {j : Nat} (hd : 6 ≤ d) (hj : j < 1000) (hM : ∀ i, i < 3 → vAt M (137 + 2 * i) (inp i)) (h0 : cand inp j = none → Q (some (.int 0)) EE M) (h1 : ∀ inp' M', cand inp j = some inp' → cI inp' M' → (∀ q, q < 9 ∨ 15 ≤ q → M' q = M q) → Q (some (.int 1)) EE M') : aw l K mX7_takeCandidate d 0 0 0 [.ref 0, .int (nI j), .null, .null, .null] [] EE M Q := by
  have e0 := E_0
  have e8 := E_8r
  have e136 := E_136r
  have ccle : ∀ v : vV, okV v → cc v ≤ 64 := by
    intro v hv
    rcases v with _ | x | r
    · decide
    · show (if x = 0 then 0 else 3) ≤ 64; split <;> decide
    · have := nz_le r
      have hv' : r.length ≤ 16 := hv
      show r.length + nz r ≤ 64
      omega
  have okM : ∀ i, i < 3 → okV (inp i) := by
    intro i hi
    have h := hM i hi
    rcases hv : inp i with _ | x | r
    · exact trivial
    · exact trivial
    · rw [hv] at h; exact h.2.1
  have hit : ∀ i lf x1 x4, i < 3 → lf < cc (inp i) → cand inp j = some (upN inp i (bc (inp i) lf)) → aw l K mX7_takeCandidate d 0 0 26 [.ref 0, x1, .int (nI lf), .int (nI i), x4] [] EE M Q := by
    intro i lf x1 x4 hi hlf hc
    have hin : vp_in (nI i) rIn.length := vp_in_nI (show i < 3 by omega) (by decide)
    have hr : rIn[(nI i).toNatClampNeg]? = some (some (9 + 2 * i)) := by rw [nI_clamp (by omega)]; exact rIn_at i hi
    have ix := (iV_in i hi).1
    refine aw_aload_n (n := 27) dX7_takeCandidate_26 rfl rfl ?_
    refine aw_getr (n := 30) dX7_takeCandidate_27 fX7_32 (by assumption) rfl rfl ?_
    refine aw_aload_n (n := 31) dX7_takeCandidate_30 rfl rfl ?_
    refine aw_getr (n := 34) dX7_takeCandidate_31 fX7_25 (by assumption) rfl rfl ?_
    refine aw_s2 (d1 := d - 1) (n := 37) (Z := mX7_copyAll) (L0 := [_, _, .null]) dX7_takeCandidate_34 kX7_copyAll gX7_140 syX7_copyAll rfl rfl (Nat.le_of_ble_eq_true rfl) rfl rfl (by omega) (Nat.le_of_ble_eq_true rfl) (t_toTried (inp := inp) (by omega) hM (fun M1 g1 g2 => ?_))
    dsimp only [aPush]
    refine aw_aload_n (n := 38) dX7_takeCandidate_37 rfl rfl ?_
    refine aw_getr (n := 41) dX7_takeCandidate_38 fX7_25 (by assumption) rfl rfl ?_
    refine aw_iload_n (n := 42) dX7_takeCandidate_41 rfl rfl ?_
    refine aw_aald (n := 43) dX7_takeCandidate_42 (by assumption) (by decide) (by assumption) (by assumption) rfl ?_
    refine aw_iload_n (n := 44) dX7_takeCandidate_43 rfl rfl ?_
    refine aw_v1 (d1 := d - 1) (n := 47) (Z := mX5_becomeCandidate) (ci := 3) (L0 := [_, _]) dX7_takeCandidate_44 kX5_becomeCandidate gX7_192 iyX5_becomeCandidate eyX5_becomeCandidate rfl rfl (by assumption) rfl (Nat.le_of_ble_eq_true rfl) rfl rfl (by omega) (Nat.le_of_ble_eq_true rfl) (t_bc (by omega) (iV_in i hi) (g1 i hi) hlf (fun M2 k1 k2 => ?_))
    dsimp only [aPush]
    refine aw_iconst (n := 48) (v := 1) dX7_takeCandidate_47 (by decide) rfl ?_
    refine aw_zret dX7_takeCandidate_48 rfl (by first | exact Or.inl rfl | exact Or.inr rfl | assumption) ?_
    refine h1 _ _ hc (fun q hq => ?_) (fun q hq => ?_)
    · unfold upN
      by_cases hqi : q = i
      · rw [if_pos hqi, hqi]; exact k1
      · rw [if_neg hqi]; exact vAt_same (g1 q hq) (k2 _ (by omega) (by omega)) (k2 _ (by omega) (by omega))
    · rw [k2 q (by omega) (by omega)]; exact g2 q hq
  have s3 : ∀ x1 x2 x4, cand inp j = none → aw l K mX7_takeCandidate d 0 0 4 [.ref 0, x1, x2, .int (nI 3), x4] [] EE M Q := by
    intro x1 x2 x4 hc
    refine aw_iload_n (n := 5) dX7_takeCandidate_4 rfl rfl ?_
    refine aw_iconst (n := 6) (v := 3) dX7_takeCandidate_5 (by decide) rfl ?_
    refine aw_icmp_ge (tg := 60) (n := 9) dX7_takeCandidate_6 (by decide) rfl (fun c_6 => ?_) (fun c_6 => by exact absurd (by decide) c_6)
    refine aw_iconst (n := 61) (v := 0) dX7_takeCandidate_60 (by decide) rfl ?_
    refine aw_zret dX7_takeCandidate_61 rfl (by first | exact Or.inl rfl | exact Or.inr rfl | assumption) ?_
    exact h0 hc
  have sg : ∀ i lf x1 x4, i < 3 → lf < 1000 → (lf < cc (inp i) → cand inp j = some (upN inp i (bc (inp i) lf))) → (¬ lf < cc (inp i) → ∀ x4, aw l K mX7_takeCandidate d 0 0 4 [.ref 0, x1, .int (nI (lf - cc (inp i))), .int (nI (i + 1)), x4] [] EE M Q) → aw l K mX7_takeCandidate d 0 0 4 [.ref 0, x1, .int (nI lf), .int (nI i), x4] [] EE M Q := by
    intro i lf x1 x4 hi hlf ha hb
    have hin : vp_in (nI i) rSm.length := vp_in_nI (show i < 3 by omega) (by decide)
    have hr : rSm[(nI i).toNatClampNeg]? = some (some (137 + 2 * i)) := by rw [nI_clamp (by omega)]; exact rSm_at i hi
    have ix := (iV_sm i hi).1
    have hcc := ccle _ (okM i hi)
    refine aw_iload_n (n := 5) dX7_takeCandidate_4 rfl rfl ?_
    refine aw_iconst (n := 6) (v := 3) dX7_takeCandidate_5 (by decide) rfl ?_
    refine aw_icmp_ge (tg := 60) (n := 9) dX7_takeCandidate_6 (by decide) rfl (fun c_6 => by exact absurd c_6 (nI_ge (b := 3) hi (by decide))) (fun c_6 => ?_)
    refine aw_aload_n (n := 10) dX7_takeCandidate_9 rfl rfl ?_
    refine aw_getr (n := 13) dX7_takeCandidate_10 fX7_32 (by assumption) rfl rfl ?_
    refine aw_iload_n (n := 14) dX7_takeCandidate_13 rfl rfl ?_
    refine aw_aald (n := 15) dX7_takeCandidate_14 (by assumption) (by decide) (by assumption) (by assumption) rfl ?_
    refine aw_v0 (d1 := d - 1) (n := 18) (Z := mX5_candidateCount) (ci := 3) (L0 := [_, .null, .null]) dX7_takeCandidate_15 kX5_candidateCount gX7_188 iyX5_candidateCount eyX5_candidateCount rfl rfl (by assumption) (Nat.le_of_ble_eq_true rfl) rfl rfl (by omega) (Nat.le_of_ble_eq_true rfl) (t_cc (iV_sm i hi) (hM i hi) ?_)
    dsimp only [aPush]
    refine aw_istore (n := 20) (L' := [_, _, _, _, _]) dX7_takeCandidate_18 (Nat.le_of_ble_eq_true rfl) rfl rfl ?_
    refine aw_iload_n (n := 21) dX7_takeCandidate_20 rfl rfl ?_
    refine aw_iload (n := 23) dX7_takeCandidate_21 rfl rfl ?_
    refine aw_icmp_ge (tg := 49) (n := 26) dX7_takeCandidate_23 (by decide) rfl (fun c_23 => ?_) (fun c_23 => ?_)
    · refine aw_iload_n (n := 50) dX7_takeCandidate_49 rfl rfl ?_
      refine aw_iload (n := 52) dX7_takeCandidate_50 rfl rfl ?_
      refine aw_isub (n := 53) dX7_takeCandidate_52 rfl ?_
      refine aw_istore_n (n := 54) (L' := [_, _, _, _, _]) dX7_takeCandidate_53 (Nat.le_of_ble_eq_true rfl) rfl rfl ?_
      refine aw_incp (n := 57) (L' := [_, _, _, _, _]) dX7_takeCandidate_54 rfl rfl rfl ?_
      refine aw_goto (n := 4) dX7_takeCandidate_57 (by decide) ?_
      have h5 : cc (inp i) ≤ lf := (nI_leI (by omega) (by omega)).mp c_23
      rw [pk_sub h5, nI_1]
      exact hb (by omega) _
    · have h5 : lf < cc (inp i) := (nI_ltI (by omega) (by omega)).mp (i_nle.mp c_23)
      exact hit i lf _ _ hi h5 (ha h5)
  refine aw_iload_n (n := 1) dX7_takeCandidate_0 rfl rfl ?_
  refine aw_istore_n (n := 2) (L' := [_, _, _, _, _]) dX7_takeCandidate_1 (Nat.le_of_ble_eq_true rfl) rfl rfl ?_
  refine aw_iconst (n := 3) (v := 0) dX7_takeCandidate_2 (by decide) rfl ?_
  refine aw_istore_n (n := 4) (L' := [_, _, _, _, _]) dX7_takeCandidate_3 (Nat.le_of_ble_eq_true rfl) rfl rfl ?_
  refine sg 0 j _ _ (by decide) hj (fun h => if_pos h) (fun n0 x4 => ?_)
  refine sg 1 _ _ _ (by decide) (by omega) (fun h => (if_neg n0).trans (if_pos h)) (fun n1 x4 => ?_)
  refine sg 2 _ _ _ (by decide) (by omega) (fun h => (if_neg n0).trans ((if_neg n1).trans (if_pos h))) (fun n2 x4 => ?_)
  exact s3 _ _ _ ((if_neg n0).trans ((if_neg n1).trans (if_neg n2)))
end INNER
