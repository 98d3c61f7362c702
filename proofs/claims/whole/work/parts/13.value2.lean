theorem iV_apart {a b : Nat} (ha : iV a) (hb : iV b) : a + 1 ≠ b ∧ a ≠ b + 1 := by
  obtain ⟨a1, a2⟩ := ha
  obtain ⟨b1, b2⟩ := hb
  refine ⟨fun h => ?_, fun h => ?_⟩
  · rw [h, b1] at a2; cases a2
  · rw [h, b2] at a1; cases a1
theorem vAt_len {M : aM} {b : Nat} {v : vV} (hv : vAt M b v) : ∃ n, n ≤ 16 ∧ M b 2 = nI n := by
  rcases v with _ | x | r
  · exact ⟨0, by decide, hv.2⟩
  · exact ⟨0, by decide, hv.2.2⟩
  · exact ⟨r.length, hv.2.1, hv.2.2.1⟩
theorem vAt_copy {M M' : aM} {a b n : Nat} {v : vV} (hv : vAt M b v) (hn : M b 2 = nI n) (hn16 : n ≤ 16) (h0 : M' a 0 = M b 0) (h1 : M' a 1 = M b 1) (h2 : M' a 2 = nI n) (h3 : ∀ j, j < n → M' (a + 1) j = M (b + 1) j) : vAt M' a v := by
  rcases v with _ | x | r
  · exact ⟨h0.trans hv.1, h2.trans (hn.symm.trans hv.2)⟩
  · exact ⟨h0.trans hv.1, h1.trans hv.2.1, h2.trans (hn.symm.trans hv.2.2)⟩
  · have hl : n = r.length := (nI_eq (by omega) (by have := hv.2.1; omega)).mp (hn.symm.trans hv.2.2.1)
    subst hl
    exact ⟨h0.trans hv.1, hn16, h2, fun k hk => (h3 k hk).trans (hv.2.2.2 k hk)⟩
section VAL
variable {l : Launch} {K : aK} {d : Nat} {M : aM} {Q : Option Value → aE → aM → Prop}
theorem t_copy {a b : Nat} {v : vV} (ha : iV a) (hb : iV b) (hab : a ≠ b) (hv : vAt M b v) (hQ : ∀ M', vAt M' a v → (∀ q, q ≠ a → q ≠ a + 1 → M' q = M q) → Q none EE M') : aw l K mX5_copy d 0 0 0 [.ref a, .ref b, .null] [] EE M Q := by
  obtain ⟨hab1, hab2⟩ := iV_apart ha hb
  obtain ⟨n, hn16, hn⟩ := vAt_len hv
  obtain ⟨hva, hvb⟩ := ha
  obtain ⟨hvc, hvd⟩ := hb
  have loop : ∀ m k Mk, m + k = n → Mk a 2 = nI n → (∀ q, q ≠ a → q ≠ a + 1 → Mk q = M q) → Mk a 0 = M b 0 → Mk a 1 = M b 1 → (∀ j, j < k → Mk (a + 1) j = M (b + 1) j) → aw l K mX5_copy d 0 0 26 [.ref a, .ref b, .int (nI k)] [] EE Mk Q := by
    intro m
    induction m with
    | zero =>
      intro k Mk hk h2 hf h0 h1 h3
      refine aw_iload_n (n := 27) dX5_copy_26 rfl rfl ?_
      refine aw_aload_n (n := 28) dX5_copy_27 rfl rfl ?_
      refine aw_geti (n := 31) dX5_copy_28 fX5_18 (by assumption) rfl rfl ?_
      refine aw_icmp_ge (tg := 52) (n := 34) dX5_copy_31 (by decide) rfl (fun c_31 => ?_) (fun c_31 => by exact absurd (by rw [h2]; exact nI_le (by omega) (by omega)) c_31)
      refine aw_vret dX5_copy_52 rfl ?_
      exact hQ _ (vAt_copy hv hn hn16 h0 h1 h2 (fun j hj => h3 j (by omega))) hf
    | succ m ih =>
      intro k Mk hk h2 hf h0 h1 h3
      have hin : vp_in (nI k) 16 := vp_in_nI (by omega) (by decide)
      have hkk : (nI k).toNatClampNeg = k := nI_clamp (by omega)
      have hM : Mk (b + 1) k = M (b + 1) k := by rw [hf (b + 1) (by omega) (by omega)]
      refine aw_iload_n (n := 27) dX5_copy_26 rfl rfl ?_
      refine aw_aload_n (n := 28) dX5_copy_27 rfl rfl ?_
      refine aw_geti (n := 31) dX5_copy_28 fX5_18 (by assumption) rfl rfl ?_
      refine aw_icmp_ge (tg := 52) (n := 34) dX5_copy_31 (by decide) rfl (fun c_31 => by exact absurd (by rw [h2] at c_31; exact c_31) (nI_ge (by omega) (by omega))) (fun c_31 => ?_)
      refine aw_aload_n (n := 35) dX5_copy_34 rfl rfl ?_
      refine aw_getr (n := 38) dX5_copy_35 fX5_21 (by assumption) rfl rfl ?_
      refine aw_iload_n (n := 39) dX5_copy_38 rfl rfl ?_
      refine aw_aload_n (n := 40) dX5_copy_39 rfl rfl ?_
      refine aw_getr (n := 43) dX5_copy_40 fX5_21 (by assumption) rfl rfl ?_
      refine aw_iload_n (n := 44) dX5_copy_43 rfl rfl ?_
      refine aw_iald (n := 45) dX5_copy_44 (by assumption) (by assumption) rfl ?_
      refine aw_iast (n := 46) dX5_copy_45 (by assumption) (by assumption) rfl ?_
      refine aw_incp (n := 49) (L' := [_, _, _]) dX5_copy_46 rfl rfl rfl ?_
      refine aw_goto (n := 26) dX5_copy_49 (by decide) ?_
      rw [nI_1, hkk, hM]
      refine ih (k + 1) _ (by omega) ?_ ?_ ?_ ?_ ?_
      · rw [up2_a _ _ (by omega)]; exact h2
      · intro q q1 q2; rw [up2_ra _ _ q2]; exact hf q q1 q2
      · rw [up2_a _ _ (by omega)]; exact h0
      · rw [up2_a _ _ (by omega)]; exact h1
      · intro j hj
        by_cases hjk : j = k
        · subst hjk; rw [up2_s]
        · rw [up2_k _ _ hjk]; exact h3 j (by omega)
  refine aw_aload_n (n := 1) dX5_copy_0 rfl rfl ?_
  refine aw_aload_n (n := 2) dX5_copy_1 rfl rfl ?_
  refine aw_geti (n := 5) dX5_copy_2 fX5_9 (by assumption) rfl rfl ?_
  refine aw_puti (n := 8) dX5_copy_5 pX5_9 (by assumption) rfl rfl ?_
  refine aw_aload_n (n := 9) dX5_copy_8 rfl rfl ?_
  refine aw_aload_n (n := 10) dX5_copy_9 rfl rfl ?_
  refine aw_geti (n := 13) dX5_copy_10 fX5_15 (by assumption) rfl rfl ?_
  refine aw_puti (n := 16) dX5_copy_13 pX5_15 (by assumption) rfl rfl ?_
  refine aw_aload_n (n := 17) dX5_copy_16 rfl rfl ?_
  refine aw_aload_n (n := 18) dX5_copy_17 rfl rfl ?_
  refine aw_geti (n := 21) dX5_copy_18 fX5_18 (by assumption) rfl rfl ?_
  refine aw_puti (n := 24) dX5_copy_21 pX5_18 (by assumption) rfl rfl ?_
  refine aw_iconst (n := 25) (v := 0) dX5_copy_24 (by decide) rfl ?_
  refine aw_istore_n (n := 26) (L' := [_, _, _]) dX5_copy_25 (Nat.le_of_ble_eq_true rfl) rfl rfl ?_
  refine loop n 0 _ (by omega) ?_ ?_ ?_ ?_ ?_
  · simp [up2, hn, Ne.symm hab]
  · intro q q1 q2; funext j; simp [up2, q1]
  · simp [up2]
  · simp [up2, Ne.symm hab]
  · intro j hj; omega
def rd (v : vV) (k : Int32) : Int32 := match v with
  | none => -2147483648
  | some (.inl x) => if k = -1 then x else -2147483648
  | some (.inr r) => if k < -1 ∨ nI r.length ≤ k then -2147483648 else if k = -1 then nI r.length else r.getD k.toNatClampNeg 0
theorem vp_lt {k : Int32} {n : Nat} (hn : n < 2 ^ 31) (h0 : ¬ k < 0) (h1 : ¬ nI n ≤ k) : ∃ j, j < n ∧ k = nI j := by
  rcases pk_ix k hn with h | h | h
  · exact absurd h h0
  · exact absurd h h1
  · exact h
theorem ti_m1 : (-1 : Int32).toInt = -1 := by decide
theorem ti_0 : (0 : Int32).toInt = 0 := by decide
theorem m1_lt {k : Int32} (h : ¬ k < -1) (h2 : ¬ k = -1) : ¬ k < 0 := by
  simp only [Int32.lt_iff_toInt_lt, ← Int32.toInt_inj, ti_m1, ti_0] at *
  omega
theorem i_nlt {x y : Int32} : ¬ x < y ↔ y ≤ x := by
  simp only [Int32.lt_iff_toInt_lt, Int32.le_iff_toInt_le]; omega
theorem i_nle {x y : Int32} : ¬ x ≤ y ↔ y < x := by
  simp only [Int32.lt_iff_toInt_lt, Int32.le_iff_toInt_le]; omega
theorem t_read {a : Nat} {v : vV} {k : Int32} (ha : iV a) (hv : vAt M a v) (hQ : Q (some (.int (rd v k))) EE M) : aw l K mX5_read d 0 0 0 [.ref a, .int k] [] EE M Q := by
  obtain ⟨hva, hvb⟩ := ha
  rcases v with _ | x | r
  · obtain ⟨h0, h2⟩ := hv
    refine aw_aload_n (n := 1) dX5_read_0 rfl rfl ?_
    refine aw_geti (n := 4) dX5_read_1 fX5_9 (by assumption) rfl rfl ?_
    refine aw_if_ne (tg := 22) (n := 7) dX5_read_4 (by decide) rfl (fun c_4 => ?_) (fun c_4 => by exact absurd c_4 (by rw [h0]; decide))
    refine aw_aload_n (n := 23) dX5_read_22 rfl rfl ?_
    refine aw_geti (n := 26) dX5_read_23 fX5_9 (by assumption) rfl rfl ?_
    refine aw_iconst (n := 27) (v := 1) dX5_read_26 (by decide) rfl ?_
    refine aw_icmp_ne (tg := 43) (n := 30) dX5_read_27 (by decide) rfl (fun c_27 => ?_) (fun c_27 => by exact absurd c_27 (by rw [h0]; decide))
    refine aw_ldc (n := 45) dX5_read_43 qX5_25 rfl ?_
    refine aw_iret dX5_read_45 rfl ?_
    exact hQ
  · obtain ⟨h0, h1, h2⟩ := hv
    refine aw_aload_n (n := 1) dX5_read_0 rfl rfl ?_
    refine aw_geti (n := 4) dX5_read_1 fX5_9 (by assumption) rfl rfl ?_
    refine aw_if_ne (tg := 22) (n := 7) dX5_read_4 (by decide) rfl (fun c_4 => by exact absurd h0 c_4) (fun c_4 => ?_)
    refine aw_iload_n (n := 8) dX5_read_7 rfl rfl ?_
    refine aw_iconst (n := 9) (v := -1) dX5_read_8 (by decide) rfl ?_
    refine aw_icmp_ne (tg := 19) (n := 12) dX5_read_9 (by decide) rfl (fun c_9 => ?_) (fun c_9 => ?_)
    · refine aw_ldc (n := 21) dX5_read_19 qX5_25 rfl ?_
      refine aw_iret dX5_read_21 rfl ?_
      first | (rw [h1]; simpa [rd, c_9] using hQ) | simpa [rd, c_9] using hQ
    · refine aw_aload_n (n := 13) dX5_read_12 rfl rfl ?_
      refine aw_geti (n := 16) dX5_read_13 fX5_15 (by assumption) rfl rfl ?_
      refine aw_goto (n := 21) dX5_read_16 (by decide) ?_
      refine aw_iret dX5_read_21 rfl ?_
      first | (rw [h1]; simpa [rd, c_9] using hQ) | simpa [rd, c_9] using hQ
  · obtain ⟨h0, h16, h2, h3⟩ := hv
    refine aw_aload_n (n := 1) dX5_read_0 rfl rfl ?_
    refine aw_geti (n := 4) dX5_read_1 fX5_9 (by assumption) rfl rfl ?_
    refine aw_if_ne (tg := 22) (n := 7) dX5_read_4 (by decide) rfl (fun c_4 => ?_) (fun c_4 => by exact absurd c_4 (by rw [h0]; decide))
    refine aw_aload_n (n := 23) dX5_read_22 rfl rfl ?_
    refine aw_geti (n := 26) dX5_read_23 fX5_9 (by assumption) rfl rfl ?_
    refine aw_iconst (n := 27) (v := 1) dX5_read_26 (by decide) rfl ?_
    refine aw_icmp_ne (tg := 43) (n := 30) dX5_read_27 (by decide) rfl (fun c_27 => by exact absurd h0 c_27) (fun c_27 => ?_)
    refine aw_iload_n (n := 31) dX5_read_30 rfl rfl ?_
    refine aw_iconst (n := 32) (v := -1) dX5_read_31 (by decide) rfl ?_
    refine aw_icmp_lt (tg := 43) (n := 35) dX5_read_32 (by decide) rfl (fun c_32 => ?_) (fun c_32 => ?_)
    · refine aw_ldc (n := 45) dX5_read_43 qX5_25 rfl ?_
      refine aw_iret dX5_read_45 rfl ?_
      first
        | exact (show rd (some (.inr r)) k = -2147483648 from if_pos (Or.inl c_32)) ▸ hQ
        | exact (show rd (some (.inr r)) k = -2147483648 from if_pos (Or.inr (by rw [← h2]; exact i_nlt.mp c_40))) ▸ hQ
    · refine aw_iload_n (n := 36) dX5_read_35 rfl rfl ?_
      refine aw_aload_n (n := 37) dX5_read_36 rfl rfl ?_
      refine aw_geti (n := 40) dX5_read_37 fX5_18 (by assumption) rfl rfl ?_
      refine aw_icmp_lt (tg := 46) (n := 43) dX5_read_40 (by decide) rfl (fun c_40 => ?_) (fun c_40 => ?_)
      · rw [h2] at c_40
        have c40 : ¬ nI r.length ≤ k := by rw [i_nle]; exact c_40
        have hrd : rd (some (.inr r)) k = if k = -1 then nI r.length else r.getD k.toNatClampNeg 0 := by unfold rd; exact if_neg (fun q => q.elim c_32 c40)
        rw [hrd] at hQ
        refine aw_iload_n (n := 47) dX5_read_46 rfl rfl ?_
        refine aw_iconst (n := 48) (v := -1) dX5_read_47 (by decide) rfl ?_
        refine aw_icmp_ne (tg := 58) (n := 51) dX5_read_48 (by decide) rfl (fun c_48 => ?_) (fun c_48 => ?_)
        · obtain ⟨j, hj, rfl⟩ := vp_lt (n := r.length) (by omega) (m1_lt c_32 c_48) c40
          have hin : vp_in (nI j) 16 := vp_in_nI (by omega) (by decide)
          rw [if_neg c_48, nI_clamp (by omega)] at hQ
          refine aw_aload_n (n := 59) dX5_read_58 rfl rfl ?_
          refine aw_getr (n := 62) dX5_read_59 fX5_21 (by assumption) rfl rfl ?_
          refine aw_iload_n (n := 63) dX5_read_62 rfl rfl ?_
          refine aw_iald (n := 64) dX5_read_63 (by assumption) (by assumption) rfl ?_
          refine aw_iret dX5_read_64 rfl ?_
          first
            | (rw [if_pos c_48] at hQ; rw [h2]; exact hQ)
            | (rw [nI_clamp (by omega), h3 j hj]; exact hQ)
        · refine aw_aload_n (n := 52) dX5_read_51 rfl rfl ?_
          refine aw_geti (n := 55) dX5_read_52 fX5_18 (by assumption) rfl rfl ?_
          refine aw_goto (n := 64) dX5_read_55 (by decide) ?_
          refine aw_iret dX5_read_64 rfl ?_
          first
            | (rw [if_pos c_48] at hQ; rw [h2]; exact hQ)
            | (rw [nI_clamp (by omega), h3 j hj]; exact hQ)
      · refine aw_ldc (n := 45) dX5_read_43 qX5_25 rfl ?_
        refine aw_iret dX5_read_45 rfl ?_
        first
          | exact (show rd (some (.inr r)) k = -2147483648 from if_pos (Or.inl c_32)) ▸ hQ
          | exact (show rd (some (.inr r)) k = -2147483648 from if_pos (Or.inr (by rw [← h2]; exact i_nlt.mp c_40))) ▸ hQ
def near (x : Int32) (w : Nat) : Int32 := if w = 0 then 0 else if w = 1 then x / 2 else if 0 < x then x - 1 else x + 1
theorem t_near {x : Int32} {w : Nat} (hw : w < 3) (hQ : Q (some (.int (near x w))) EE M) : aw l K mX5_nearerToZero d 0 0 0 [.int x, .int (nI w)] [] EE M Q := by
  rcases (show w = 0 ∨ w = 1 ∨ w = 2 by omega) with rfl | rfl | rfl
  · refine aw_iload_n (n := 1) dX5_nearerToZero_0 rfl rfl ?_
    refine aw_lsw (n := 28) dX5_nearerToZero_1 (by decide) (off := 27) (by decide) (by decide) ?_
    refine aw_iconst (n := 29) (v := 0) dX5_nearerToZero_28 (by decide) rfl ?_
    refine aw_iret dX5_nearerToZero_29 rfl ?_
    exact hQ
  · refine aw_iload_n (n := 1) dX5_nearerToZero_0 rfl rfl ?_
    refine aw_lsw (n := 30) dX5_nearerToZero_1 (by decide) (off := 29) (by decide) (by decide) ?_
    refine aw_iload_n (n := 31) dX5_nearerToZero_30 rfl rfl ?_
    refine aw_iconst (n := 32) (v := 2) dX5_nearerToZero_31 (by decide) rfl ?_
    refine aw_idiv (n := 33) dX5_nearerToZero_32 (by first | assumption | decide) rfl ?_
    refine aw_iret dX5_nearerToZero_33 rfl ?_
    exact hQ
  · refine aw_iload_n (n := 1) dX5_nearerToZero_0 rfl rfl ?_
    refine aw_lsw (n := 34) dX5_nearerToZero_1 (by decide) (off := 33) (by decide) (by decide) ?_
    refine aw_iload_n (n := 35) dX5_nearerToZero_34 rfl rfl ?_
    refine aw_if_le (tg := 44) (n := 38) dX5_nearerToZero_35 (by decide) rfl (fun c_35 => ?_) (fun c_35 => ?_)
    · refine aw_iload_n (n := 45) dX5_nearerToZero_44 rfl rfl ?_
      refine aw_iconst (n := 46) (v := 1) dX5_nearerToZero_45 (by decide) rfl ?_
      refine aw_iadd (n := 47) dX5_nearerToZero_46 rfl ?_
      refine aw_iret dX5_nearerToZero_47 rfl ?_
      first
        | exact (show near x 2 = x - 1 from if_pos (i_nle.mp c_35)) ▸ hQ
        | exact (show near x 2 = x + 1 from if_neg (i_nlt.mpr c_35)) ▸ hQ
    · refine aw_iload_n (n := 39) dX5_nearerToZero_38 rfl rfl ?_
      refine aw_iconst (n := 40) (v := 1) dX5_nearerToZero_39 (by decide) rfl ?_
      refine aw_isub (n := 41) dX5_nearerToZero_40 rfl ?_
      refine aw_goto (n := 47) dX5_nearerToZero_41 (by decide) ?_
      refine aw_iret dX5_nearerToZero_47 rfl ?_
      first
        | exact (show near x 2 = x - 1 from if_pos (i_nle.mp c_35)) ▸ hQ
        | exact (show near x 2 = x + 1 from if_neg (i_nlt.mpr c_35)) ▸ hQ
/-- three for each int that is not 0 -/
def nz : List Int32 → Nat
  | [] => 0
  | x :: r => (if x = 0 then 0 else 3) + nz r
def shr : List Int32 → Nat → List Int32
  | [], _ => []
  | x :: r, j => if x = 0 then x :: shr r j else if j < 3 then near x j :: r else x :: shr r (j - 3)
/-- how many candidates a value has; the candidate of a number -/
def cc : vV → Nat
  | none => 0
  | some (.inl x) => if x = 0 then 0 else 3
  | some (.inr r) => r.length + nz r
def bc (v : vV) (j : Nat) : vV := match v with
  | none => none
  | some (.inl x) => some (.inl (near x j))
  | some (.inr r) => if j < r.length then some (.inr (r.eraseIdx j)) else some (.inr (shr r (j - r.length)))
theorem nz_step (r : List Int32) : ∀ k, k < r.length → nz (r.take (k + 1)) = nz (r.take k) + (if r.getD k 0 = 0 then 0 else 3) := by
  induction r with
  | nil => intro k hk; simp at hk
  | cons x r ih =>
    intro k hk
    cases k with
    | zero => simp [nz]
    | succ k =>
      have h := ih k (by simpa using hk)
      simp only [List.take_succ_cons, nz, h, List.getD_cons_succ]
      omega
theorem nz_le (r : List Int32) : nz r ≤ 3 * r.length := by
  induction r with
  | nil => simp [nz]
  | cons x r ih => simp only [nz, List.length_cons]; split <;> omega
theorem getD_set (r : List Int32) (k j : Nat) (y : Int32) (hk : k < r.length) : (r.set k y).getD j 0 = if j = k then y else r.getD j 0 := by
  simp only [List.getD_eq_getElem?_getD, List.getElem?_set]
  by_cases h : k = j
  · subst h; simp [hk]
  · rw [if_neg h, if_neg (fun q => h q.symm)]
theorem getD_erase (r : List Int32) (g j : Nat) : (r.eraseIdx g).getD j 0 = if j < g then r.getD j 0 else r.getD (j + 1) 0 := by
  simp only [List.getD_eq_getElem?_getD, List.getElem?_eraseIdx]
  split <;> rfl
theorem drop_cons (r : List Int32) (k : Nat) (hk : k < r.length) : r.drop k = r.getD k 0 :: r.drop (k + 1) := by
  rw [List.drop_eq_getElem_cons hk, List.getD_eq_getElem?_getD, List.getElem?_eq_getElem hk]; rfl
theorem take_snoc (r : List Int32) (k : Nat) (hk : k < r.length) : r.take (k + 1) = r.take k ++ [r.getD k 0] := by
  rw [List.take_add_one, List.getD_eq_getElem?_getD, List.getElem?_eq_getElem hk]; rfl
theorem nI_m3 {n : Nat} (h : 3 ≤ n) : nI n + -3 = nI (n - 3) := by
  have h1 := pk_sub h
  rw [Int32.sub_eq_add_neg] at h1
  exact h1
theorem t_cc {a : Nat} {v : vV} (ha : iV a) (hv : vAt M a v) (hQ : Q (some (.int (nI (cc v)))) EE M) : aw l K mX5_candidateCount d 0 0 0 [.ref a, .null, .null] [] EE M Q := by
  obtain ⟨hva, hvb⟩ := ha
  rcases v with _ | x | r
  · obtain ⟨h0, h2⟩ := hv
    refine aw_aload_n (n := 1) dX5_candidateCount_0 rfl rfl ?_
    refine aw_geti (n := 4) dX5_candidateCount_1 fX5_9 (by assumption) rfl rfl ?_
    refine aw_iconst (n := 5) (v := -1) dX5_candidateCount_4 (by decide) rfl ?_
    refine aw_icmp_ne (tg := 10) (n := 8) dX5_candidateCount_5 (by decide) rfl (fun c_5 => by exact absurd h0 c_5) (fun c_5 => ?_)
    refine aw_iconst (n := 9) (v := 0) dX5_candidateCount_8 (by decide) rfl ?_
    refine aw_iret dX5_candidateCount_9 rfl ?_
    exact hQ
  · obtain ⟨h0, h1, h2⟩ := hv
    refine aw_aload_n (n := 1) dX5_candidateCount_0 rfl rfl ?_
    refine aw_geti (n := 4) dX5_candidateCount_1 fX5_9 (by assumption) rfl rfl ?_
    refine aw_iconst (n := 5) (v := -1) dX5_candidateCount_4 (by decide) rfl ?_
    refine aw_icmp_ne (tg := 10) (n := 8) dX5_candidateCount_5 (by decide) rfl (fun c_5 => ?_) (fun c_5 => by exact absurd c_5 (by rw [h0]; decide))
    refine aw_aload_n (n := 11) dX5_candidateCount_10 rfl rfl ?_
    refine aw_geti (n := 14) dX5_candidateCount_11 fX5_9 (by assumption) rfl rfl ?_
    refine aw_if_ne (tg := 30) (n := 17) dX5_candidateCount_14 (by decide) rfl (fun c_14 => by exact absurd h0 c_14) (fun c_14 => ?_)
    refine aw_aload_n (n := 18) dX5_candidateCount_17 rfl rfl ?_
    refine aw_geti (n := 21) dX5_candidateCount_18 fX5_15 (by assumption) rfl rfl ?_
    refine aw_if_ne (tg := 28) (n := 24) dX5_candidateCount_21 (by decide) rfl (fun c_21 => ?_) (fun c_21 => ?_)
    · refine aw_iconst (n := 29) (v := 3) dX5_candidateCount_28 (by decide) rfl ?_
      refine aw_iret dX5_candidateCount_29 rfl ?_
      rw [h1] at c_21
      first
        | (have hcc : cc (some (.inl x)) = 3 := if_neg c_21
           rw [hcc] at hQ; exact hQ)
        | (have hcc : cc (some (.inl x)) = 0 := if_pos c_21
           rw [hcc] at hQ; exact hQ)
    · refine aw_iconst (n := 25) (v := 0) dX5_candidateCount_24 (by decide) rfl ?_
      refine aw_goto (n := 29) dX5_candidateCount_25 (by decide) ?_
      refine aw_iret dX5_candidateCount_29 rfl ?_
      rw [h1] at c_21
      first
        | (have hcc : cc (some (.inl x)) = 3 := if_neg c_21
           rw [hcc] at hQ; exact hQ)
        | (have hcc : cc (some (.inl x)) = 0 := if_pos c_21
           rw [hcc] at hQ; exact hQ)
  · obtain ⟨h0, h16, h2, h3⟩ := hv
    have loop : ∀ m k cnt, m + k = r.length → cnt = nI (r.length + nz (r.take k)) → aw l K mX5_candidateCount d 0 0 37 [.ref a, .int cnt, .int (nI k)] [] EE M Q := by
      intro m
      induction m with
      | zero =>
        intro k cnt hk hc
        refine aw_iload_n (n := 38) dX5_candidateCount_37 rfl rfl ?_
        refine aw_aload_n (n := 39) dX5_candidateCount_38 rfl rfl ?_
        refine aw_geti (n := 42) dX5_candidateCount_39 fX5_18 (by assumption) rfl rfl ?_
        refine aw_icmp_ge (tg := 68) (n := 45) dX5_candidateCount_42 (by decide) rfl (fun c_42 => ?_) (fun c_42 => by exact absurd (by rw [h2]; exact nI_le (by omega) (by omega)) c_42)
        refine aw_iload_n (n := 69) dX5_candidateCount_68 rfl rfl ?_
        refine aw_iret dX5_candidateCount_69 rfl ?_
        rw [hc, List.take_of_length_le (by omega)]; exact hQ
      | succ m ih =>
        intro k cnt hk hc
        have hin : vp_in (nI k) 16 := vp_in_nI (by omega) (by decide)
        have hkk : (nI k).toNatClampNeg = k := nI_clamp (by omega)
        have hx : M (a + 1) k = r.getD k 0 := h3 k (by omega)
        have hst := nz_step r k (by omega)
        refine aw_iload_n (n := 38) dX5_candidateCount_37 rfl rfl ?_
        refine aw_aload_n (n := 39) dX5_candidateCount_38 rfl rfl ?_
        refine aw_geti (n := 42) dX5_candidateCount_39 fX5_18 (by assumption) rfl rfl ?_
        refine aw_icmp_ge (tg := 68) (n := 45) dX5_candidateCount_42 (by decide) rfl (fun c_42 => by exact absurd (by rw [h2] at c_42; exact c_42) (nI_ge (by omega) (by omega))) (fun c_42 => ?_)
        refine aw_iload_n (n := 46) dX5_candidateCount_45 rfl rfl ?_
        refine aw_aload_n (n := 47) dX5_candidateCount_46 rfl rfl ?_
        refine aw_getr (n := 50) dX5_candidateCount_47 fX5_21 (by assumption) rfl rfl ?_
        refine aw_iload_n (n := 51) dX5_candidateCount_50 rfl rfl ?_
        refine aw_iald (n := 52) dX5_candidateCount_51 (by assumption) (by assumption) rfl ?_
        refine aw_if_ne (tg := 59) (n := 55) dX5_candidateCount_52 (by decide) rfl (fun c_52 => ?_) (fun c_52 => ?_)
        · refine aw_iconst (n := 60) (v := 3) dX5_candidateCount_59 (by decide) rfl ?_
          refine aw_iadd (n := 61) dX5_candidateCount_60 rfl ?_
          refine aw_istore_n (n := 62) (L' := [_, _, _]) dX5_candidateCount_61 (Nat.le_of_ble_eq_true rfl) rfl rfl ?_
          refine aw_incp (n := 65) (L' := [_, _, _]) dX5_candidateCount_62 rfl rfl rfl ?_
          refine aw_goto (n := 37) dX5_candidateCount_65 (by decide) ?_
          rw [hkk, hx] at c_52
          rw [nI_1]
          refine ih (k + 1) _ (by omega) ?_
          rw [hst, hc]
          first
            | (rw [if_pos c_52, Nat.add_zero]; exact Int32.add_zero _)
            | (rw [if_neg c_52, ← Nat.add_assoc]; exact nI_add _ 3)
        · refine aw_iconst (n := 56) (v := 0) dX5_candidateCount_55 (by decide) rfl ?_
          refine aw_goto (n := 60) dX5_candidateCount_56 (by decide) ?_
          refine aw_iadd (n := 61) dX5_candidateCount_60 rfl ?_
          refine aw_istore_n (n := 62) (L' := [_, _, _]) dX5_candidateCount_61 (Nat.le_of_ble_eq_true rfl) rfl rfl ?_
          refine aw_incp (n := 65) (L' := [_, _, _]) dX5_candidateCount_62 rfl rfl rfl ?_
          refine aw_goto (n := 37) dX5_candidateCount_65 (by decide) ?_
          rw [hkk, hx] at c_52
          rw [nI_1]
          refine ih (k + 1) _ (by omega) ?_
          rw [hst, hc]
          first
            | (rw [if_pos c_52, Nat.add_zero]; exact Int32.add_zero _)
            | (rw [if_neg c_52, ← Nat.add_assoc]; exact nI_add _ 3)
    refine aw_aload_n (n := 1) dX5_candidateCount_0 rfl rfl ?_
    refine aw_geti (n := 4) dX5_candidateCount_1 fX5_9 (by assumption) rfl rfl ?_
    refine aw_iconst (n := 5) (v := -1) dX5_candidateCount_4 (by decide) rfl ?_
    refine aw_icmp_ne (tg := 10) (n := 8) dX5_candidateCount_5 (by decide) rfl (fun c_5 => ?_) (fun c_5 => by exact absurd c_5 (by rw [h0]; decide))
    refine aw_aload_n (n := 11) dX5_candidateCount_10 rfl rfl ?_
    refine aw_geti (n := 14) dX5_candidateCount_11 fX5_9 (by assumption) rfl rfl ?_
    refine aw_if_ne (tg := 30) (n := 17) dX5_candidateCount_14 (by decide) rfl (fun c_14 => ?_) (fun c_14 => by exact absurd c_14 (by rw [h0]; decide))
    refine aw_aload_n (n := 31) dX5_candidateCount_30 rfl rfl ?_
    refine aw_geti (n := 34) dX5_candidateCount_31 fX5_18 (by assumption) rfl rfl ?_
    refine aw_istore_n (n := 35) (L' := [_, _, _]) dX5_candidateCount_34 (Nat.le_of_ble_eq_true rfl) rfl rfl ?_
    refine aw_iconst (n := 36) (v := 0) dX5_candidateCount_35 (by decide) rfl ?_
    refine aw_istore_n (n := 37) (L' := [_, _, _]) dX5_candidateCount_36 (Nat.le_of_ble_eq_true rfl) rfl rfl ?_
    exact loop r.length 0 _ (by omega) (by rw [h2]; simp [nz])
theorem t_drop {a g : Nat} {r : List Int32} (ha : iV a) (hv : vAt M a (some (.inr r))) (hg : g < r.length) (hQ : ∀ M', vAt M' a (some (.inr (r.eraseIdx g))) → (∀ q, q ≠ a → q ≠ a + 1 → M' q = M q) → Q none EE M') : aw l K mX5_dropPlace d 0 0 0 [.ref a, .int (nI g), .null] [] EE M Q := by
  obtain ⟨hva, hvb⟩ := ha
  obtain ⟨h0, h16, h2, h3⟩ := hv
  have hsub : nI r.length - 1 = nI (r.length - 1) := by
    have := pk_sub (a := r.length) (b := 1) (by omega)
    exact this
  have loop : ∀ m k Mk, m + k + 1 = r.length → g ≤ k → (∀ q, q ≠ a + 1 → Mk q = M q) → (∀ j, j < r.length → Mk (a + 1) j = if j < g then r.getD j 0 else if j < k then r.getD (j + 1) 0 else r.getD j 0) → aw l K mX5_dropPlace d 0 0 2 [.ref a, .int (nI g), .int (nI k)] [] EE Mk Q := by
    intro m
    induction m with
    | zero =>
      intro k Mk hk hgk hf h4
      have h2k : Mk a 2 = nI r.length := by rw [hf a (by omega)]; exact h2
      refine aw_iload_n (n := 3) dX5_dropPlace_2 rfl rfl ?_
      refine aw_aload_n (n := 4) dX5_dropPlace_3 rfl rfl ?_
      refine aw_geti (n := 7) dX5_dropPlace_4 fX5_18 (by assumption) rfl rfl ?_
      refine aw_iconst (n := 8) (v := 1) dX5_dropPlace_7 (by decide) rfl ?_
      refine aw_isub (n := 9) dX5_dropPlace_8 rfl ?_
      refine aw_icmp_ge (tg := 32) (n := 12) dX5_dropPlace_9 (by decide) rfl (fun c_9 => ?_) (fun c_9 => by exact absurd (by rw [h2k, hsub]; exact nI_le (by omega) (by omega)) c_9)
      refine aw_aload_n (n := 33) dX5_dropPlace_32 rfl rfl ?_
      refine aw_dup (n := 34) dX5_dropPlace_33 rfl rfl ?_
      refine aw_geti (n := 37) dX5_dropPlace_34 fX5_18 (by assumption) rfl rfl ?_
      refine aw_iconst (n := 38) (v := 1) dX5_dropPlace_37 (by decide) rfl ?_
      refine aw_isub (n := 39) dX5_dropPlace_38 rfl ?_
      refine aw_puti (n := 42) dX5_dropPlace_39 pX5_18 (by assumption) rfl rfl ?_
      refine aw_vret dX5_dropPlace_42 rfl ?_
      refine hQ _ ⟨?_, ?_, ?_, ?_⟩ (fun q q1 q2 => ?_)
      · rw [up2_k _ _ (by decide), hf a (by omega)]; exact h0
      · rw [List.length_eraseIdx]; split <;> omega
      · rw [up2_s, h2k, hsub, List.length_eraseIdx, if_pos hg]
      · intro j hj
        rw [List.length_eraseIdx, if_pos hg] at hj
        rw [up2_a _ _ (by omega), h4 j (by omega), getD_erase, if_pos (show j < k by omega)]
      · rw [up2_ra _ _ q1, hf q q2]
    | succ m ih =>
      intro k Mk hk hgk hf h4
      have h2k : Mk a 2 = nI r.length := by rw [hf a (by omega)]; exact h2
      have hin : vp_in (nI k) 16 := vp_in_nI (by omega) (by decide)
      have hin1 : vp_in (nI k + 1) 16 := by rw [nI_1]; exact vp_in_nI (by omega) (by decide)
      have hkk : (nI k).toNatClampNeg = k := nI_clamp (by omega)
      have hk1 : (nI k + 1).toNatClampNeg = k + 1 := by rw [nI_1]; exact nI_clamp (by omega)
      refine aw_iload_n (n := 3) dX5_dropPlace_2 rfl rfl ?_
      refine aw_aload_n (n := 4) dX5_dropPlace_3 rfl rfl ?_
      refine aw_geti (n := 7) dX5_dropPlace_4 fX5_18 (by assumption) rfl rfl ?_
      refine aw_iconst (n := 8) (v := 1) dX5_dropPlace_7 (by decide) rfl ?_
      refine aw_isub (n := 9) dX5_dropPlace_8 rfl ?_
      refine aw_icmp_ge (tg := 32) (n := 12) dX5_dropPlace_9 (by decide) rfl (fun c_9 => by exact absurd (by rw [h2k, hsub] at c_9; exact c_9) (nI_ge (by omega) (by omega))) (fun c_9 => ?_)
      refine aw_aload_n (n := 13) dX5_dropPlace_12 rfl rfl ?_
      refine aw_getr (n := 16) dX5_dropPlace_13 fX5_21 (by assumption) rfl rfl ?_
      refine aw_iload_n (n := 17) dX5_dropPlace_16 rfl rfl ?_
      refine aw_aload_n (n := 18) dX5_dropPlace_17 rfl rfl ?_
      refine aw_getr (n := 21) dX5_dropPlace_18 fX5_21 (by assumption) rfl rfl ?_
      refine aw_iload_n (n := 22) dX5_dropPlace_21 rfl rfl ?_
      refine aw_iconst (n := 23) (v := 1) dX5_dropPlace_22 (by decide) rfl ?_
      refine aw_iadd (n := 24) dX5_dropPlace_23 rfl ?_
      refine aw_iald (n := 25) dX5_dropPlace_24 (by assumption) (by assumption) rfl ?_
      refine aw_iast (n := 26) dX5_dropPlace_25 (by assumption) (by assumption) rfl ?_
      refine aw_incp (n := 29) (L' := [_, _, _]) dX5_dropPlace_26 rfl rfl rfl ?_
      refine aw_goto (n := 2) dX5_dropPlace_29 (by decide) ?_
      rw [hkk, hk1, nI_1]
      refine ih (k + 1) _ (by omega) (by omega) (fun q hq => by rw [up2_ra _ _ hq, hf q hq]) (fun j hj => ?_)
      by_cases hjk : j = k
      · subst hjk
        rw [up2_s, h4 (j + 1) (by omega), if_neg (by omega), if_neg (by omega), if_neg (by omega), if_pos (by omega)]
      · rw [up2_k _ _ hjk, h4 j hj]
        by_cases h5 : j < g
        · rw [if_pos h5, if_pos h5]
        · rw [if_neg h5, if_neg h5]
          by_cases h6 : j < k
          · rw [if_pos h6, if_pos (by omega)]
          · rw [if_neg h6, if_neg (by omega)]
  refine aw_iload_n (n := 1) dX5_dropPlace_0 rfl rfl ?_
  refine aw_istore_n (n := 2) (L' := [_, _, _]) dX5_dropPlace_1 (Nat.le_of_ble_eq_true rfl) rfl rfl ?_
  refine loop (r.length - 1 - g) g _ (by omega) (Nat.le_refl _) (fun _ _ => rfl) (fun j hj => ?_)
  rw [h3 j hj]
  by_cases h5 : j < g
  · rw [if_pos h5]
  · rw [if_neg h5, if_neg h5]
theorem t_shr {a j : Nat} {r : List Int32} (hd : 2 ≤ d) (ha : iV a) (hv : vAt M a (some (.inr r))) (hj : j < nz r) (hQ : ∀ M', vAt M' a (some (.inr (shr r j))) → (∀ q, q ≠ a → q ≠ a + 1 → M' q = M q) → Q none EE M') : aw l K mX5_shrinkAnInt d 0 0 0 [.ref a, .int (nI j), .null, .null] [] EE M Q := by
  obtain ⟨hva, hvb⟩ := ha
  obtain ⟨h0, h16, h2, h3⟩ := hv
  have loop : ∀ m k lf x1, m + k = r.length → shr r j = r.take k ++ shr (r.drop k) lf → lf < nz (r.drop k) → aw l K mX5_shrinkAnInt d 0 0 4 [.ref a, x1, .int (nI lf), .int (nI k)] [] EE M Q := by
    intro m
    induction m with
    | zero =>
      intro k lf x1 hk h4 h5
      rw [List.drop_of_length_le (by omega)] at h5
      simp [nz] at h5
    | succ m ih =>
      intro k lf x1 hk h4 h5
      have hin : vp_in (nI k) 16 := vp_in_nI (by omega) (by decide)
      have hkk : (nI k).toNatClampNeg = k := nI_clamp (by omega)
      have hx : M (a + 1) k = r.getD k 0 := h3 k (by omega)
      have hnz := nz_le r
      have hlf : lf < 48 := by
        have := nz_le (r.drop k)
        rw [List.length_drop] at this
        omega
      rw [drop_cons r k (by omega)] at h4 h5
      simp only [shr] at h4
      simp only [nz] at h5
      refine aw_iload_n (n := 5) dX5_shrinkAnInt_4 rfl rfl ?_
      refine aw_aload_n (n := 6) dX5_shrinkAnInt_5 rfl rfl ?_
      refine aw_geti (n := 9) dX5_shrinkAnInt_6 fX5_18 (by assumption) rfl rfl ?_
      refine aw_icmp_ge (tg := 52) (n := 12) dX5_shrinkAnInt_9 (by decide) rfl (fun c_9 => by exact absurd (by rw [h2] at c_9; exact c_9) (nI_ge (by omega) (by omega))) (fun c_9 => ?_)
      refine aw_aload_n (n := 13) dX5_shrinkAnInt_12 rfl rfl ?_
      refine aw_getr (n := 16) dX5_shrinkAnInt_13 fX5_21 (by assumption) rfl rfl ?_
      refine aw_iload_n (n := 17) dX5_shrinkAnInt_16 rfl rfl ?_
      refine aw_iald (n := 18) dX5_shrinkAnInt_17 (by assumption) (by assumption) rfl ?_
      rw [hkk, hx]
      refine aw_if_eq (tg := 46) (n := 21) dX5_shrinkAnInt_18 (by decide) rfl (fun c_18 => ?_) (fun c_18 => ?_)
      · refine aw_incp (n := 49) (L' := [_, _, _, _]) dX5_shrinkAnInt_46 rfl rfl rfl ?_
        refine aw_goto (n := 4) dX5_shrinkAnInt_49 (by decide) ?_
        rw [nI_1]
        first
          | (rw [if_pos c_18] at h4 h5
             refine ih (k + 1) lf _ (by omega) ?_ (by omega)
             rw [h4, take_snoc r k (by omega), List.append_assoc]
             rfl)
          | (have hl3 : ¬ lf < 3 := fun q => absurd c_23 (by rw [i_nle]; exact (nI_ltI (b := 3) (by omega) (by omega)).mpr q)
             rw [if_neg c_18] at h4 h5
             rw [if_neg hl3] at h4
             rw [nI_m3 (by omega)]
             refine ih (k + 1) (lf - 3) _ (by omega) ?_ (by omega)
             rw [h4, take_snoc r k (by omega), List.append_assoc]
             rfl)
      · refine aw_iload_n (n := 22) dX5_shrinkAnInt_21 rfl rfl ?_
        refine aw_iconst (n := 23) (v := 3) dX5_shrinkAnInt_22 (by decide) rfl ?_
        refine aw_icmp_ge (tg := 43) (n := 26) dX5_shrinkAnInt_23 (by decide) rfl (fun c_23 => ?_) (fun c_23 => ?_)
        · refine aw_iinc (n := 46) (v := _ + (-3)) (L' := [_, _, _, _]) dX5_shrinkAnInt_43 rfl rfl rfl rfl ?_
          refine aw_incp (n := 49) (L' := [_, _, _, _]) dX5_shrinkAnInt_46 rfl rfl rfl ?_
          refine aw_goto (n := 4) dX5_shrinkAnInt_49 (by decide) ?_
          rw [nI_1]
          first
            | (rw [if_pos c_18] at h4 h5
               refine ih (k + 1) lf _ (by omega) ?_ (by omega)
               rw [h4, take_snoc r k (by omega), List.append_assoc]
               rfl)
            | (have hl3 : ¬ lf < 3 := fun q => absurd c_23 (by rw [i_nle]; exact (nI_ltI (b := 3) (by omega) (by omega)).mpr q)
               rw [if_neg c_18] at h4 h5
               rw [if_neg hl3] at h4
               rw [nI_m3 (by omega)]
               refine ih (k + 1) (lf - 3) _ (by omega) ?_ (by omega)
               rw [h4, take_snoc r k (by omega), List.append_assoc]
               rfl)
        · refine aw_aload_n (n := 27) dX5_shrinkAnInt_26 rfl rfl ?_
          refine aw_getr (n := 30) dX5_shrinkAnInt_27 fX5_21 (by assumption) rfl rfl ?_
          refine aw_iload_n (n := 31) dX5_shrinkAnInt_30 rfl rfl ?_
          refine aw_aload_n (n := 32) dX5_shrinkAnInt_31 rfl rfl ?_
          refine aw_getr (n := 35) dX5_shrinkAnInt_32 fX5_21 (by assumption) rfl rfl ?_
          refine aw_iload_n (n := 36) dX5_shrinkAnInt_35 rfl rfl ?_
          refine aw_iald (n := 37) dX5_shrinkAnInt_36 (by assumption) (by assumption) rfl ?_
          refine aw_iload_n (n := 38) dX5_shrinkAnInt_37 rfl rfl ?_
          refine aw_s2 (d1 := d - 1) (n := 41) (Z := mX5_nearerToZero) (L0 := [_, _]) dX5_shrinkAnInt_38 kX5_nearerToZero gX5_26 syX5_nearerToZero rfl rfl (Nat.le_of_ble_eq_true rfl) rfl rfl (by omega) (Nat.le_of_ble_eq_true rfl) (t_near (w := lf) (by exact (nI_ltI (by omega) (by omega)).mp (i_nle.mp c_23)) ?_)
          dsimp only [aPush]
          refine aw_iast (n := 42) dX5_shrinkAnInt_41 (by assumption) (by assumption) rfl ?_
          refine aw_vret dX5_shrinkAnInt_42 rfl ?_
          have hl3 : lf < 3 := (nI_ltI (by omega) (by omega)).mp (i_nle.mp c_23)
          rw [if_neg c_18, if_pos hl3] at h4
          rw [hkk, hx]
          have he : shr r j = r.set k (near (r.getD k 0) lf) := by
            rw [h4]
            exact (List.set_eq_take_append_cons_drop.trans (if_pos (by omega))).symm
          refine hQ _ ⟨?_, ?_, ?_, fun i hi => ?_⟩ (fun q q1 q2 => up2_ra _ _ q2)
          · rw [up2_a _ _ (by omega)]; exact h0
          · rw [he, List.length_set]; exact h16
          · rw [up2_a _ _ (by omega), he, List.length_set]; exact h2
          · rw [he, List.length_set] at hi
            rw [he, getD_set _ _ _ _ (by omega)]
            by_cases hik : i = k
            · subst hik; rw [up2_s, if_pos rfl]
            · rw [up2_k _ _ hik, if_neg hik]; exact h3 i hi
  refine aw_iload_n (n := 1) dX5_shrinkAnInt_0 rfl rfl ?_
  refine aw_istore_n (n := 2) (L' := [_, _, _, _]) dX5_shrinkAnInt_1 (Nat.le_of_ble_eq_true rfl) rfl rfl ?_
  refine aw_iconst (n := 3) (v := 0) dX5_shrinkAnInt_2 (by decide) rfl ?_
  refine aw_istore_n (n := 4) (L' := [_, _, _, _]) dX5_shrinkAnInt_3 (Nat.le_of_ble_eq_true rfl) rfl rfl ?_
  exact loop r.length 0 j _ (by omega) (by simp) (by simpa using hj)
theorem t_bc {a j : Nat} {v : vV} (hd : 4 ≤ d) (ha : iV a) (hv : vAt M a v) (hj : j < cc v) (hQ : ∀ M', vAt M' a (bc v j) → (∀ q, q ≠ a → q ≠ a + 1 → M' q = M q) → Q none EE M') : aw l K mX5_becomeCandidate d 0 0 0 [.ref a, .int (nI j)] [] EE M Q := by
  have ha' := ha
  obtain ⟨hva, hvb⟩ := ha
  rcases v with _ | x | r
  · simp [cc] at hj
  · obtain ⟨h0, h1, h2⟩ := hv
    have hj3 : j < 3 := by simp only [cc] at hj; split at hj <;> omega
    refine aw_aload_n (n := 1) dX5_becomeCandidate_0 rfl rfl ?_
    refine aw_geti (n := 4) dX5_becomeCandidate_1 fX5_9 (by assumption) rfl rfl ?_
    refine aw_if_ne (tg := 22) (n := 7) dX5_becomeCandidate_4 (by decide) rfl (fun c_4 => by exact absurd h0 c_4) (fun c_4 => ?_)
    refine aw_aload_n (n := 8) dX5_becomeCandidate_7 rfl rfl ?_
    refine aw_aload_n (n := 9) dX5_becomeCandidate_8 rfl rfl ?_
    refine aw_geti (n := 12) dX5_becomeCandidate_9 fX5_15 (by assumption) rfl rfl ?_
    refine aw_iload_n (n := 13) dX5_becomeCandidate_12 rfl rfl ?_
    refine aw_s2 (d1 := d - 1) (n := 16) (Z := mX5_nearerToZero) (L0 := [_, _]) dX5_becomeCandidate_13 kX5_nearerToZero gX5_26 syX5_nearerToZero rfl rfl (Nat.le_of_ble_eq_true rfl) rfl rfl (by omega) (Nat.le_of_ble_eq_true rfl) (t_near (w := j) hj3 ?_)
    dsimp only [aPush]
    refine aw_puti (n := 19) dX5_becomeCandidate_16 pX5_15 (by assumption) rfl rfl ?_
    refine aw_goto (n := 48) dX5_becomeCandidate_19 (by decide) ?_
    refine aw_vret dX5_becomeCandidate_48 rfl ?_
    refine hQ _ ⟨?_, ?_, ?_⟩ (fun q q1 q2 => up2_ra _ _ q1)
    · rw [up2_k _ _ (by decide)]; exact h0
    · rw [up2_s, h1]
    · rw [up2_k _ _ (by decide)]; exact h2
  · have hv' := hv
    obtain ⟨h0, h16, h2, h3⟩ := hv
    have hnz := nz_le r
    have hj' : j < r.length + nz r := hj
    refine aw_aload_n (n := 1) dX5_becomeCandidate_0 rfl rfl ?_
    refine aw_geti (n := 4) dX5_becomeCandidate_1 fX5_9 (by assumption) rfl rfl ?_
    refine aw_if_ne (tg := 22) (n := 7) dX5_becomeCandidate_4 (by decide) rfl (fun c_4 => ?_) (fun c_4 => by exact absurd c_4 (by rw [h0]; decide))
    refine aw_iload_n (n := 23) dX5_becomeCandidate_22 rfl rfl ?_
    refine aw_aload_n (n := 24) dX5_becomeCandidate_23 rfl rfl ?_
    refine aw_geti (n := 27) dX5_becomeCandidate_24 fX5_18 (by assumption) rfl rfl ?_
    rw [h2]
    refine aw_icmp_ge (tg := 38) (n := 30) dX5_becomeCandidate_27 (by decide) rfl (fun c_27 => ?_) (fun c_27 => ?_)
    · refine aw_aload_n (n := 39) dX5_becomeCandidate_38 rfl rfl ?_
      refine aw_iload_n (n := 40) dX5_becomeCandidate_39 rfl rfl ?_
      refine aw_aload_n (n := 41) dX5_becomeCandidate_40 rfl rfl ?_
      refine aw_geti (n := 44) dX5_becomeCandidate_41 fX5_18 (by assumption) rfl rfl ?_
      rw [h2]
      refine aw_isub (n := 45) dX5_becomeCandidate_44 rfl ?_
      rw [pk_sub ((nI_leI (by omega) (by omega)).mp c_27)]
      refine aw_v1 (d1 := d - 1) (n := 48) (Z := mX5_shrinkAnInt) (ci := 3) (L0 := [_, _, .null, .null]) dX5_becomeCandidate_45 kX5_shrinkAnInt gX5_34 iyX5_shrinkAnInt eyX5_shrinkAnInt rfl rfl (by assumption) rfl (Nat.le_of_ble_eq_true rfl) rfl rfl (by omega) (Nat.le_of_ble_eq_true rfl) (t_shr (by omega) ha' hv' (by have := (nI_leI (by omega) (by omega)).mp c_27; omega) (fun M' h5 h6 => ?_))
      dsimp only [aPush]
      refine aw_vret dX5_becomeCandidate_48 rfl ?_
      first
        | exact hQ _ ((show bc (some (.inr r)) j = some (.inr (r.eraseIdx j)) from if_pos ((nI_ltI (by omega) (by omega)).mp (i_nle.mp c_27))) ▸ h5) h6
        | exact hQ _ ((show bc (some (.inr r)) j = some (.inr (shr r (j - r.length))) from if_neg (by have := (nI_leI (by omega) (by omega)).mp c_27; omega)) ▸ h5) h6
    · refine aw_aload_n (n := 31) dX5_becomeCandidate_30 rfl rfl ?_
      refine aw_iload_n (n := 32) dX5_becomeCandidate_31 rfl rfl ?_
      refine aw_v1 (d1 := d - 1) (n := 35) (Z := mX5_dropPlace) (ci := 3) (L0 := [_, _, .null]) dX5_becomeCandidate_32 kX5_dropPlace gX5_30 iyX5_dropPlace eyX5_dropPlace rfl rfl (by assumption) rfl (Nat.le_of_ble_eq_true rfl) rfl rfl (by omega) (Nat.le_of_ble_eq_true rfl) (t_drop ha' hv' ((nI_ltI (by omega) (by omega)).mp (i_nle.mp c_27)) (fun M' h5 h6 => ?_))
      dsimp only [aPush]
      refine aw_goto (n := 48) dX5_becomeCandidate_35 (by decide) ?_
      refine aw_vret dX5_becomeCandidate_48 rfl ?_
      first
        | exact hQ _ ((show bc (some (.inr r)) j = some (.inr (r.eraseIdx j)) from if_pos ((nI_ltI (by omega) (by omega)).mp (i_nle.mp c_27))) ▸ h5) h6
        | exact hQ _ ((show bc (some (.inr r)) j = some (.inr (shr r (j - r.length))) from if_neg (by have := (nI_leI (by omega) (by omega)).mp c_27; omega)) ▸ h5) h6
end VAL
