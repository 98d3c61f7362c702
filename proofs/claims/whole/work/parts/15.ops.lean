theorem getD_app (r s : List Int32) (j : Nat) : (r ++ s).getD j 0 = if j < r.length then r.getD j 0 else s.getD (j - r.length) 0 := by
  simp only [List.getD_eq_getElem?_getD, List.getElem?_append]
  split <;> rfl
theorem getD_rev (r : List Int32) (j : Nat) (h : j < r.length) : r.reverse.getD j 0 = r.getD (r.length - 1 - j) 0 := by
  simp only [List.getD_eq_getElem?_getD, List.getElem?_reverse h]
theorem getD_dt (r : List Int32) (b c j : Nat) (h : j < c) : ((r.drop b).take c).getD j 0 = r.getD (b + j) 0 := by
  simp only [List.getD_eq_getElem?_getD, List.getElem?_take, List.getElem?_drop, if_pos h]
theorem len_lR (n : Nat) (f : Nat → Int32) : (lR n f).length = n := by unfold lR; rw [List.length_map, List.length_range]
theorem getD_lR (n : Nat) (f : Nat → Int32) (j : Nat) (h : j < n) : (lR n f).getD j 0 = f j := by
  unfold lR
  simp [List.getD_eq_getElem?_getD, h]
theorem getD_rep (n j : Nat) : (List.replicate n (0 : Int32)).getD j 0 = 0 := by
  simp only [List.getD_eq_getElem?_getD, List.getElem?_replicate]
  split <;> rfl
theorem ext_getD {r s : List Int32} (hl : r.length = s.length) (h : ∀ j, j < r.length → r.getD j 0 = s.getD j 0) : r = s := by
  apply List.ext_getElem hl
  intro i h1 h2
  have := h i h1
  simpa [List.getD_eq_getElem?_getD, h1, h2] using this
/-- an index of a row -/
theorem ix_in {i : Int32} {n : Nat} (hn : n ≤ 16) (h : ¬ (i < 0 ∨ nI n ≤ i)) : ∃ j, j < n ∧ i = nI j := vp_lt (by omega) (fun q => h (Or.inl q)) (fun q => h (Or.inr q))
section OPS
variable {l : Launch} {K : aK} {d : Nat} {M : aM} {Q : Option Value → aE → aM → Prop}
theorem t_truth {a : Nat} {x : Int32} (hd : 1 ≤ d) (ha : iV a) (hQ : ∀ M', vAt M' a (some (.inl (if x = 0 then 0 else 1))) → (∀ b, b ≠ a → M' b = M b) → Q none EE M') : aw l K mX6_setTruth d 0 0 0 [.ref a, .int x] [] EE M Q := by
  have ha' := ha
  obtain ⟨hva, hvb⟩ := ha
  refine aw_aload_n (n := 1) dX6_setTruth_0 rfl rfl ?_
  refine aw_iload_n (n := 2) dX6_setTruth_1 rfl rfl ?_
  refine aw_if_eq (tg := 9) (n := 5) dX6_setTruth_2 (by decide) rfl (fun c_2 => ?_) (fun c_2 => ?_)
  · refine aw_iconst (n := 10) (v := 0) dX6_setTruth_9 (by decide) rfl ?_
    refine aw_v1 (d1 := d - 1) (n := 13) (Z := mX5_setWhole) (ci := 3) (L0 := [_, _]) dX6_setTruth_10 kX5_setWhole gX6_117 iyX5_setWhole eyX5_setWhole rfl rfl (by assumption) rfl (Nat.le_of_ble_eq_true rfl) rfl rfl (by omega) (Nat.le_of_ble_eq_true rfl) (t_setWhole ha' (fun M' h1 h2 => ?_))
    dsimp only [aPush]
    refine aw_vret dX6_setTruth_13 rfl ?_
    first
      | exact hQ _ (by rw [if_pos c_2]; exact h1) h2
      | exact hQ _ (by rw [if_neg c_2]; exact h1) h2
  · refine aw_iconst (n := 6) (v := 1) dX6_setTruth_5 (by decide) rfl ?_
    refine aw_goto (n := 10) dX6_setTruth_6 (by decide) ?_
    refine aw_v1 (d1 := d - 1) (n := 13) (Z := mX5_setWhole) (ci := 3) (L0 := [_, _]) dX6_setTruth_10 kX5_setWhole gX6_117 iyX5_setWhole eyX5_setWhole rfl rfl (by assumption) rfl (Nat.le_of_ble_eq_true rfl) rfl rfl (by omega) (Nat.le_of_ble_eq_true rfl) (t_setWhole ha' (fun M' h1 h2 => ?_))
    dsimp only [aPush]
    refine aw_vret dX6_setTruth_13 rfl ?_
    first
      | exact hQ _ (by rw [if_pos c_2]; exact h1) h2
      | exact hQ _ (by rw [if_neg c_2]; exact h1) h2
theorem t_like {a b : Nat} {va vb : vV} {bl : Bool} (ha : iV a) (hb : iV b) (h1 : vAt M a va) (h2 : vAt M b vb) (ho : opL va vb = tru bl) (hQ : Q (some (.int (if bl then 1 else 0))) EE M) : aw l K mX6_areLike d 0 0 0 [.ref a, .ref b, .null] [] EE M Q := by
  obtain ⟨hva, hvb⟩ := ha
  obtain ⟨hvc, hvd⟩ := hb
  rcases va with _ | x | r
  · simp [opL, tru] at ho
  · rcases vb with _ | y | s
    · simp [opL, tru] at ho
    · obtain ⟨a0, a1, a2⟩ := h1
      obtain ⟨b0, b1, b2⟩ := h2
      have hbl : (if bl then (1 : Int32) else 0) = if x = y then 1 else 0 := by
        simp only [opL, tru, Sum.inr.injEq, Option.some.injEq, Sum.inl.injEq, decide_eq_true_eq] at ho
        exact ho.symm
      rw [hbl] at hQ
      refine aw_aload_n (n := 1) dX6_areLike_0 rfl rfl ?_
      refine aw_geti (n := 4) dX6_areLike_1 fX6_104 (by assumption) rfl rfl ?_
      refine aw_if_ne (tg := 24) (n := 7) dX6_areLike_4 (by decide) rfl (fun c_4 => by exact absurd a0 c_4) (fun c_4 => ?_)
      refine aw_aload_n (n := 8) dX6_areLike_7 rfl rfl ?_
      refine aw_geti (n := 11) dX6_areLike_8 fX6_48 (by assumption) rfl rfl ?_
      refine aw_aload_n (n := 12) dX6_areLike_11 rfl rfl ?_
      refine aw_geti (n := 15) dX6_areLike_12 fX6_48 (by assumption) rfl rfl ?_
      rw [a1, b1]
      refine aw_icmp_ne (tg := 22) (n := 18) dX6_areLike_15 (by decide) rfl (fun c_15 => ?_) (fun c_15 => ?_)
      · refine aw_iconst (n := 23) (v := 0) dX6_areLike_22 (by decide) rfl ?_
        refine aw_zret dX6_areLike_23 rfl (by first | exact Or.inl rfl | exact Or.inr rfl | assumption) ?_
        first
          | (rw [if_neg c_15] at hQ; exact hQ)
          | (rw [if_pos c_15] at hQ; exact hQ)
      · refine aw_iconst (n := 19) (v := 1) dX6_areLike_18 (by decide) rfl ?_
        refine aw_goto (n := 23) dX6_areLike_19 (by decide) ?_
        refine aw_zret dX6_areLike_23 rfl (by first | exact Or.inl rfl | exact Or.inr rfl | assumption) ?_
        first
          | (rw [if_neg c_15] at hQ; exact hQ)
          | (rw [if_pos c_15] at hQ; exact hQ)
    · simp [opL, tru] at ho
  · rcases vb with _ | y | s
    · simp [opL, tru] at ho
    · simp [opL, tru] at ho
    · obtain ⟨a0, a16, a2, a3⟩ := h1
      obtain ⟨b0, b16, b2, b3⟩ := h2
      have hbl : (if bl then (1 : Int32) else 0) = if r = s then 1 else 0 := by
        simp only [opL, tru, Sum.inr.injEq, Option.some.injEq, Sum.inl.injEq, decide_eq_true_eq] at ho
        exact ho.symm
      rw [hbl] at hQ
      have loop : ∀ m k, m + k = r.length → r.length = s.length → (∀ j, j < k → r.getD j 0 = s.getD j 0) → aw l K mX6_areLike d 0 0 39 [.ref a, .ref b, .int (nI k)] [] EE M Q := by
        intro m
        induction m with
        | zero =>
          intro k hk hl h4
          refine aw_iload_n (n := 40) dX6_areLike_39 rfl rfl ?_
          refine aw_aload_n (n := 41) dX6_areLike_40 rfl rfl ?_
          refine aw_geti (n := 44) dX6_areLike_41 fX6_132 (by assumption) rfl rfl ?_
          refine aw_icmp_ge (tg := 70) (n := 47) dX6_areLike_44 (by decide) rfl (fun c_44 => ?_) (fun c_44 => by exact absurd (by rw [a2]; exact nI_le (by omega) (by omega)) c_44)
          refine aw_iconst (n := 71) (v := 1) dX6_areLike_70 (by decide) rfl ?_
          refine aw_zret dX6_areLike_71 rfl (by first | exact Or.inl rfl | exact Or.inr rfl | assumption) ?_
          rw [if_pos (ext_getD hl (fun j hj => h4 j (by omega)))] at hQ; exact hQ
        | succ m ih =>
          intro k hk hl h4
          have hin : vp_in (nI k) 16 := vp_in_nI (by omega) (by decide)
          have hkk : (nI k).toNatClampNeg = k := nI_clamp (by omega)
          refine aw_iload_n (n := 40) dX6_areLike_39 rfl rfl ?_
          refine aw_aload_n (n := 41) dX6_areLike_40 rfl rfl ?_
          refine aw_geti (n := 44) dX6_areLike_41 fX6_132 (by assumption) rfl rfl ?_
          refine aw_icmp_ge (tg := 70) (n := 47) dX6_areLike_44 (by decide) rfl (fun c_44 => by exact absurd (by rw [a2] at c_44; exact c_44) (nI_ge (by omega) (by omega))) (fun c_44 => ?_)
          refine aw_aload_n (n := 48) dX6_areLike_47 rfl rfl ?_
          refine aw_getr (n := 51) dX6_areLike_48 fX6_164 (by assumption) rfl rfl ?_
          refine aw_iload_n (n := 52) dX6_areLike_51 rfl rfl ?_
          refine aw_iald (n := 53) dX6_areLike_52 (by assumption) (by assumption) rfl ?_
          refine aw_aload_n (n := 54) dX6_areLike_53 rfl rfl ?_
          refine aw_getr (n := 57) dX6_areLike_54 fX6_164 (by assumption) rfl rfl ?_
          refine aw_iload_n (n := 58) dX6_areLike_57 rfl rfl ?_
          refine aw_iald (n := 59) dX6_areLike_58 (by assumption) (by assumption) rfl ?_
          rw [hkk, a3 k (by omega), b3 k (by omega)]
          refine aw_icmp_eq (tg := 64) (n := 62) dX6_areLike_59 (by decide) rfl (fun c_59 => ?_) (fun c_59 => ?_)
          · refine aw_incp (n := 67) (L' := [_, _, _]) dX6_areLike_64 rfl rfl rfl ?_
            refine aw_goto (n := 39) dX6_areLike_67 (by decide) ?_
            rw [nI_1]
            refine ih (k + 1) (by omega) hl (fun j hj => ?_)
            by_cases hjk : j = k
            · subst hjk; exact c_59
            · exact h4 j (by omega)
          · refine aw_iconst (n := 63) (v := 0) dX6_areLike_62 (by decide) rfl ?_
            refine aw_zret dX6_areLike_63 rfl (by first | exact Or.inl rfl | exact Or.inr rfl | assumption) ?_
            rw [if_neg (fun q => c_59 (by rw [q]))] at hQ; exact hQ
      refine aw_aload_n (n := 1) dX6_areLike_0 rfl rfl ?_
      refine aw_geti (n := 4) dX6_areLike_1 fX6_104 (by assumption) rfl rfl ?_
      refine aw_if_ne (tg := 24) (n := 7) dX6_areLike_4 (by decide) rfl (fun c_4 => ?_) (fun c_4 => by exact absurd c_4 (by rw [a0]; decide))
      refine aw_aload_n (n := 25) dX6_areLike_24 rfl rfl ?_
      refine aw_geti (n := 28) dX6_areLike_25 fX6_132 (by assumption) rfl rfl ?_
      refine aw_aload_n (n := 29) dX6_areLike_28 rfl rfl ?_
      refine aw_geti (n := 32) dX6_areLike_29 fX6_132 (by assumption) rfl rfl ?_
      rw [a2, b2]
      refine aw_icmp_eq (tg := 37) (n := 35) dX6_areLike_32 (by decide) rfl (fun c_32 => ?_) (fun c_32 => ?_)
      · refine aw_iconst (n := 38) (v := 0) dX6_areLike_37 (by decide) rfl ?_
        refine aw_istore_n (n := 39) (L' := [_, _, _]) dX6_areLike_38 (Nat.le_of_ble_eq_true rfl) rfl rfl ?_
        exact loop r.length 0 (by omega) ((nI_eq (by omega) (by omega)).mp c_32) (fun j hj => by omega)
      · refine aw_iconst (n := 36) (v := 0) dX6_areLike_35 (by decide) rfl ?_
        refine aw_zret dX6_areLike_36 rfl (by first | exact Or.inl rfl | exact Or.inr rfl | assumption) ?_
        rw [if_neg (fun q => c_32 (by rw [q]))] at hQ; exact hQ
theorem t_setAt {a b : Nat} {r : List Int32} {i : Int32} (hd : 2 ≤ d) (ha : iV a) (hb : iV b) (hv : vAt M b (some (.inr r))) (h1 : i < 0 ∨ nI r.length ≤ i → Q (some (.int 2)) EE M) (h2 : ¬ (i < 0 ∨ nI r.length ≤ i) → ∀ M', vAt M' a (some (.inl (r.getD i.toNatClampNeg 0))) → (∀ q, q ≠ a → q ≠ a + 1 → M' q = M q) → Q (some (.int 0)) EE M') : aw l K mX6_setAt d 0 0 0 [.ref a, .ref b, .int i] [] EE M Q := by
  have ha' := ha
  obtain ⟨hva, hvb⟩ := ha
  obtain ⟨hvc, hvd⟩ := hb
  obtain ⟨b0, b16, b2, b3⟩ := hv
  refine aw_aload_n (n := 1) dX6_setAt_0 rfl rfl ?_
  refine aw_iload_n (n := 2) dX6_setAt_1 rfl rfl ?_
  refine aw_v1 (d1 := d - 1) (n := 5) (Z := mX5_hasPlace) (ci := 3) (L0 := [_, _]) dX6_setAt_2 kX5_hasPlace gX6_167 iyX5_hasPlace eyX5_hasPlace rfl rfl (by assumption) rfl (Nat.le_of_ble_eq_true rfl) rfl rfl (by omega) (Nat.le_of_ble_eq_true rfl) ?_
  refine aw_iload_n (n := 1) dX5_hasPlace_0 rfl rfl ?_
  refine aw_if_lt (tg := 16) (n := 4) dX5_hasPlace_1 (by decide) rfl (fun c_1 => ?_) (fun c_1 => ?_)
  · refine aw_iconst (n := 17) (v := 0) dX5_hasPlace_16 (by decide) rfl ?_
    refine aw_zret dX5_hasPlace_17 rfl (by first | exact Or.inl rfl | exact Or.inr rfl | assumption) ?_
    dsimp only [aPush]
    refine aw_if_ne (tg := 10) (n := 8) dX6_setAt_5 (by decide) rfl (fun c_5 => by first | exact absurd rfl c_5 | exact absurd c_5 (by decide)) (fun _ => ?_)
    refine aw_iconst (n := 9) (v := 2) dX6_setAt_8 (by decide) rfl ?_
    refine aw_iret dX6_setAt_9 rfl ?_
    first | exact h1 (Or.inl c_1) | exact h1 (Or.inr c_9)
  · refine aw_iload_n (n := 5) dX5_hasPlace_4 rfl rfl ?_
    refine aw_aload_n (n := 6) dX5_hasPlace_5 rfl rfl ?_
    refine aw_geti (n := 9) dX5_hasPlace_6 fX5_18 (by assumption) rfl rfl ?_
    rw [b2]
    refine aw_icmp_ge (tg := 16) (n := 12) dX5_hasPlace_9 (by decide) rfl (fun c_9 => ?_) (fun c_9 => ?_)
    · refine aw_iconst (n := 17) (v := 0) dX5_hasPlace_16 (by decide) rfl ?_
      refine aw_zret dX5_hasPlace_17 rfl (by first | exact Or.inl rfl | exact Or.inr rfl | assumption) ?_
      dsimp only [aPush]
      refine aw_if_ne (tg := 10) (n := 8) dX6_setAt_5 (by decide) rfl (fun c_5 => by first | exact absurd rfl c_5 | exact absurd c_5 (by decide)) (fun _ => ?_)
      refine aw_iconst (n := 9) (v := 2) dX6_setAt_8 (by decide) rfl ?_
      refine aw_iret dX6_setAt_9 rfl ?_
      first | exact h1 (Or.inl c_1) | exact h1 (Or.inr c_9)
    · refine aw_iconst (n := 13) (v := 1) dX5_hasPlace_12 (by decide) rfl ?_
      refine aw_goto (n := 17) dX5_hasPlace_13 (by decide) ?_
      refine aw_zret dX5_hasPlace_17 rfl (by first | exact Or.inl rfl | exact Or.inr rfl | assumption) ?_
      dsimp only [aPush]
      refine aw_if_ne (tg := 10) (n := 8) dX6_setAt_5 (by decide) rfl (fun _ => ?_) (fun c_5 => by first | exact absurd rfl c_5 | exact absurd c_5 (by decide))
      have hn : ¬ (i < 0 ∨ nI r.length ≤ i) := fun q => q.elim c_1 c_9
      obtain ⟨j, hj, rfl⟩ := ix_in b16 hn
      have hin : vp_in (nI j) 16 := vp_in_nI (by omega) (by decide)
      have hjj : (nI j).toNatClampNeg = j := nI_clamp (by omega)
      refine aw_aload_n (n := 11) dX6_setAt_10 rfl rfl ?_
      refine aw_aload_n (n := 12) dX6_setAt_11 rfl rfl ?_
      refine aw_getr (n := 15) dX6_setAt_12 fX6_164 (by assumption) rfl rfl ?_
      refine aw_iload_n (n := 16) dX6_setAt_15 rfl rfl ?_
      refine aw_iald (n := 17) dX6_setAt_16 (by assumption) (by assumption) rfl ?_
      rw [hjj, b3 j hj]
      refine aw_v1 (d1 := d - 1) (n := 20) (Z := mX5_setWhole) (ci := 3) (L0 := [_, _]) dX6_setAt_17 kX5_setWhole gX6_117 iyX5_setWhole eyX5_setWhole rfl rfl (by assumption) rfl (Nat.le_of_ble_eq_true rfl) rfl rfl (by omega) (Nat.le_of_ble_eq_true rfl) (t_setWhole ha' (fun M' h5 h6 => ?_))
      dsimp only [aPush]
      refine aw_iconst (n := 21) (v := 0) dX6_setAt_20 (by decide) rfl ?_
      refine aw_iret dX6_setAt_21 rfl ?_
      exact h2 hn _ (by rw [hjj]; exact h5) (fun q q1 q2 => h6 q q1)
theorem t_setZeros {a : Nat} {x : Int32} (hd : 1 ≤ d) (ha : iV a) (h1 : x < 0 → Q (some (.int 3)) EE M) (h2 : ¬ x < 0 → 16 < x → Q (some (.int 6)) EE M) (h3 : ¬ x < 0 → ¬ 16 < x → ∀ M', vAt M' a (some (.inr (List.replicate x.toNatClampNeg 0))) → (∀ q, q ≠ a → q ≠ a + 1 → M' q = M q) → Q (some (.int 0)) EE M') : aw l K mX6_setZeros d 0 0 0 [.ref a, .int x, .null] [] EE M Q := by
  have ha' := ha
  obtain ⟨hva, hvb⟩ := ha
  by_cases hx0 : x < 0
  · refine aw_iload_n (n := 1) dX6_setZeros_0 rfl rfl ?_
    refine aw_if_ge (tg := 6) (n := 4) dX6_setZeros_1 (by decide) rfl (fun c_1 => by exact absurd hx0 (i_nlt.mpr c_1)) (fun c_1 => ?_)
    refine aw_iconst (n := 5) (v := 3) dX6_setZeros_4 (by decide) rfl ?_
    refine aw_iret dX6_setZeros_5 rfl ?_
    exact h1 hx0
  by_cases hx16 : 16 < x
  · refine aw_iload_n (n := 1) dX6_setZeros_0 rfl rfl ?_
    refine aw_if_ge (tg := 6) (n := 4) dX6_setZeros_1 (by decide) rfl (fun c_1 => ?_) (fun c_1 => by exact absurd (i_nlt.mp hx0) c_1)
    refine aw_iload_n (n := 7) dX6_setZeros_6 rfl rfl ?_
    refine aw_bipush (n := 9) (v := 16) dX6_setZeros_7 (by decide) rfl ?_
    refine aw_icmp_le (tg := 15) (n := 12) dX6_setZeros_9 (by decide) rfl (fun c_9 => by exact absurd hx16 (i_nlt.mpr c_9)) (fun c_9 => ?_)
    refine aw_bipush (n := 14) (v := 6) dX6_setZeros_12 (by decide) rfl ?_
    refine aw_iret dX6_setZeros_14 rfl ?_
    exact h2 hx0 hx16
  obtain ⟨n, hn, rfl⟩ := nI_of2 (M := 16) (n := 16) (by decide) hx0 (i_nlt.mp hx16)
  have hnn : (nI n).toNatClampNeg = n := nI_clamp (by omega)
  have h4 := h3 hx0 hx16
  rw [hnn] at h4
  have loop : ∀ m k Mk, m + k = n → Mk a 0 = 1 → Mk a 2 = nI n → (∀ q, q ≠ a → q ≠ a + 1 → Mk q = M q) → (∀ j, j < k → Mk (a + 1) j = 0) → aw l K mX6_setZeros d 0 0 22 [.ref a, .int (nI n), .int (nI k)] [] EE Mk Q := by
    intro m
    induction m with
    | zero =>
      intro k Mk hk g0 g2 hf h5
      refine aw_iload_n (n := 23) dX6_setZeros_22 rfl rfl ?_
      refine aw_iload_n (n := 24) dX6_setZeros_23 rfl rfl ?_
      refine aw_icmp_ge (tg := 40) (n := 27) dX6_setZeros_24 (by decide) rfl (fun c_24 => ?_) (fun c_24 => by exact absurd (nI_le (by omega) (by omega)) c_24)
      refine aw_iconst (n := 41) (v := 0) dX6_setZeros_40 (by decide) rfl ?_
      refine aw_iret dX6_setZeros_41 rfl ?_
      refine h4 _ ⟨g0, by rw [List.length_replicate]; exact hn, by rw [List.length_replicate]; exact g2, fun j hj => ?_⟩ hf
      rw [List.length_replicate] at hj
      rw [getD_rep]; exact h5 j (by omega)
    | succ m ih =>
      intro k Mk hk g0 g2 hf h5
      have hin : vp_in (nI k) 16 := vp_in_nI (by omega) (by decide)
      have hkk : (nI k).toNatClampNeg = k := nI_clamp (by omega)
      refine aw_iload_n (n := 23) dX6_setZeros_22 rfl rfl ?_
      refine aw_iload_n (n := 24) dX6_setZeros_23 rfl rfl ?_
      refine aw_icmp_ge (tg := 40) (n := 27) dX6_setZeros_24 (by decide) rfl (fun c_24 => by exact absurd c_24 (nI_ge (by omega) (by omega))) (fun c_24 => ?_)
      refine aw_aload_n (n := 28) dX6_setZeros_27 rfl rfl ?_
      refine aw_getr (n := 31) dX6_setZeros_28 fX6_164 (by assumption) rfl rfl ?_
      refine aw_iload_n (n := 32) dX6_setZeros_31 rfl rfl ?_
      refine aw_iconst (n := 33) (v := 0) dX6_setZeros_32 (by decide) rfl ?_
      refine aw_iast (n := 34) dX6_setZeros_33 (by assumption) (by assumption) rfl ?_
      refine aw_incp (n := 37) (L' := [_, _, _]) dX6_setZeros_34 rfl rfl rfl ?_
      refine aw_goto (n := 22) dX6_setZeros_37 (by decide) ?_
      rw [nI_1, hkk]
      refine ih (k + 1) _ (by omega) ?_ ?_ (fun q q1 q2 => ?_) (fun j hj => ?_)
      · rw [up2_a _ _ (by omega)]; exact g0
      · rw [up2_a _ _ (by omega)]; exact g2
      · rw [up2_ra _ _ q2]; exact hf q q1 q2
      · by_cases hjk : j = k
        · subst hjk; rw [up2_s]
        · rw [up2_k _ _ hjk]; exact h5 j (by omega)
  refine aw_iload_n (n := 1) dX6_setZeros_0 rfl rfl ?_
  refine aw_if_ge (tg := 6) (n := 4) dX6_setZeros_1 (by decide) rfl (fun c_1 => ?_) (fun c_1 => by exact absurd (i_nlt.mp hx0) c_1)
  refine aw_iload_n (n := 7) dX6_setZeros_6 rfl rfl ?_
  refine aw_bipush (n := 9) (v := 16) dX6_setZeros_7 (by decide) rfl ?_
  refine aw_icmp_le (tg := 15) (n := 12) dX6_setZeros_9 (by decide) rfl (fun c_9 => ?_) (fun c_9 => by exact absurd (i_nlt.mp hx16) c_9)
  refine aw_aload_n (n := 16) dX6_setZeros_15 rfl rfl ?_
  refine aw_iload_n (n := 17) dX6_setZeros_16 rfl rfl ?_
  refine aw_v1 (d1 := d - 1) (n := 20) (Z := mX5_setRow) (ci := 3) (L0 := [_, _]) dX6_setZeros_17 kX5_setRow gX6_171 iyX5_setRow eyX5_setRow rfl rfl (by assumption) rfl (Nat.le_of_ble_eq_true rfl) rfl rfl (by omega) (Nat.le_of_ble_eq_true rfl) (t_setRow ha' (fun M' g0 g2 g3 => ?_))
  dsimp only [aPush]
  refine aw_iconst (n := 21) (v := 0) dX6_setZeros_20 (by decide) rfl ?_
  refine aw_istore_n (n := 22) (L' := [_, _, _]) dX6_setZeros_21 (Nat.le_of_ble_eq_true rfl) rfl rfl ?_
  exact loop n 0 _ (by omega) g0 g2 (fun q q1 q2 => g3 q q1) (fun j hj => by omega)
theorem t_setPut {a b : Nat} {r : List Int32} {i x : Int32} (hd : 2 ≤ d) (ha : iV a) (hb : iV b) (hab : a ≠ b) (hv : vAt M b (some (.inr r))) (h1 : i < 0 ∨ nI r.length ≤ i → Q (some (.int 2)) EE M) (h2 : ¬ (i < 0 ∨ nI r.length ≤ i) → ∀ M', vAt M' a (some (.inr (r.set i.toNatClampNeg x))) → (∀ q, q ≠ a → q ≠ a + 1 → M' q = M q) → Q (some (.int 0)) EE M') : aw l K mX6_setPut d 0 0 0 [.ref a, .ref b, .int i, .int x] [] EE M Q := by
  have ha' := ha
  have hb' := hb
  have hv' := hv
  obtain ⟨hva, hvb⟩ := ha
  obtain ⟨hvc, hvd⟩ := hb
  obtain ⟨b0, b16, b2, b3⟩ := hv
  refine aw_aload_n (n := 1) dX6_setPut_0 rfl rfl ?_
  refine aw_iload_n (n := 2) dX6_setPut_1 rfl rfl ?_
  refine aw_v1 (d1 := d - 1) (n := 5) (Z := mX5_hasPlace) (ci := 3) (L0 := [_, _]) dX6_setPut_2 kX5_hasPlace gX6_167 iyX5_hasPlace eyX5_hasPlace rfl rfl (by assumption) rfl (Nat.le_of_ble_eq_true rfl) rfl rfl (by omega) (Nat.le_of_ble_eq_true rfl) ?_
  refine aw_iload_n (n := 1) dX5_hasPlace_0 rfl rfl ?_
  refine aw_if_lt (tg := 16) (n := 4) dX5_hasPlace_1 (by decide) rfl (fun c_1 => ?_) (fun c_1 => ?_)
  · refine aw_iconst (n := 17) (v := 0) dX5_hasPlace_16 (by decide) rfl ?_
    refine aw_zret dX5_hasPlace_17 rfl (by first | exact Or.inl rfl | exact Or.inr rfl | assumption) ?_
    dsimp only [aPush]
    refine aw_if_ne (tg := 10) (n := 8) dX6_setPut_5 (by decide) rfl (fun c_5 => by first | exact absurd rfl c_5 | exact absurd c_5 (by decide)) (fun _ => ?_)
    refine aw_iconst (n := 9) (v := 2) dX6_setPut_8 (by decide) rfl ?_
    refine aw_iret dX6_setPut_9 rfl ?_
    first | exact h1 (Or.inl c_1) | exact h1 (Or.inr c_9)
  · refine aw_iload_n (n := 5) dX5_hasPlace_4 rfl rfl ?_
    refine aw_aload_n (n := 6) dX5_hasPlace_5 rfl rfl ?_
    refine aw_geti (n := 9) dX5_hasPlace_6 fX5_18 (by assumption) rfl rfl ?_
    rw [b2]
    refine aw_icmp_ge (tg := 16) (n := 12) dX5_hasPlace_9 (by decide) rfl (fun c_9 => ?_) (fun c_9 => ?_)
    · refine aw_iconst (n := 17) (v := 0) dX5_hasPlace_16 (by decide) rfl ?_
      refine aw_zret dX5_hasPlace_17 rfl (by first | exact Or.inl rfl | exact Or.inr rfl | assumption) ?_
      dsimp only [aPush]
      refine aw_if_ne (tg := 10) (n := 8) dX6_setPut_5 (by decide) rfl (fun c_5 => by first | exact absurd rfl c_5 | exact absurd c_5 (by decide)) (fun _ => ?_)
      refine aw_iconst (n := 9) (v := 2) dX6_setPut_8 (by decide) rfl ?_
      refine aw_iret dX6_setPut_9 rfl ?_
      first | exact h1 (Or.inl c_1) | exact h1 (Or.inr c_9)
    · refine aw_iconst (n := 13) (v := 1) dX5_hasPlace_12 (by decide) rfl ?_
      refine aw_goto (n := 17) dX5_hasPlace_13 (by decide) ?_
      refine aw_zret dX5_hasPlace_17 rfl (by first | exact Or.inl rfl | exact Or.inr rfl | assumption) ?_
      dsimp only [aPush]
      refine aw_if_ne (tg := 10) (n := 8) dX6_setPut_5 (by decide) rfl (fun _ => ?_) (fun c_5 => by first | exact absurd rfl c_5 | exact absurd c_5 (by decide))
      have hn : ¬ (i < 0 ∨ nI r.length ≤ i) := fun q => q.elim c_1 c_9
      obtain ⟨j, hj, rfl⟩ := ix_in b16 hn
      have hin : vp_in (nI j) 16 := vp_in_nI (by omega) (by decide)
      have hjj : (nI j).toNatClampNeg = j := nI_clamp (by omega)
      refine aw_aload_n (n := 11) dX6_setPut_10 rfl rfl ?_
      refine aw_aload_n (n := 12) dX6_setPut_11 rfl rfl ?_
      refine aw_v1 (d1 := d - 1) (n := 15) (Z := mX5_copy) (ci := 3) (L0 := [_, _, .null]) dX6_setPut_12 kX5_copy gX6_113 iyX5_copy eyX5_copy rfl rfl (by assumption) rfl (Nat.le_of_ble_eq_true rfl) rfl rfl (by omega) (Nat.le_of_ble_eq_true rfl) (t_copy ha' hb' hab hv' (fun M' h5 h6 => ?_))
      dsimp only [aPush]
      refine aw_aload_n (n := 16) dX6_setPut_15 rfl rfl ?_
      refine aw_getr (n := 19) dX6_setPut_16 fX6_164 (by assumption) rfl rfl ?_
      refine aw_iload_n (n := 20) dX6_setPut_19 rfl rfl ?_
      refine aw_iload_n (n := 21) dX6_setPut_20 rfl rfl ?_
      refine aw_iast (n := 22) dX6_setPut_21 (by assumption) (by assumption) rfl ?_
      refine aw_iconst (n := 23) (v := 0) dX6_setPut_22 (by decide) rfl ?_
      refine aw_iret dX6_setPut_23 rfl ?_
      rw [hjj]
      refine h2 hn _ ?_ (fun q q1 q2 => by rw [up2_ra _ _ q2]; exact h6 q q1 q2)
      rw [hjj]
      obtain ⟨g0, g16, g2, g3⟩ := h5
      refine ⟨?_, ?_, ?_, fun k hk => ?_⟩
      · rw [up2_a _ _ (by omega)]; exact g0
      · rw [List.length_set]; exact g16
      · rw [up2_a _ _ (by omega), List.length_set]; exact g2
      · rw [List.length_set] at hk
        rw [getD_set _ _ _ _ hj]
        by_cases hkj : k = j
        · subst hkj; rw [up2_s, if_pos rfl]
        · rw [up2_k _ _ hkj, if_neg hkj]; exact g3 k hk
end OPS
