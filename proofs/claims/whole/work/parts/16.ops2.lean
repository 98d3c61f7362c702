theorem sumR_take (r : List Int32) (k : Nat) (hk : k < r.length) : sumR (r.take (k + 1)) = sumR (r.take k) + r.getD k 0 := by
  unfold sumR
  rw [take_snoc r k hk, List.foldl_append]; rfl
section OPS2
variable {l : Launch} {K : aK} {d : Nat} {M : aM} {Q : Option Value → aE → aM → Prop}
theorem t_sum {b : Nat} {r : List Int32} (hb : iV b) (hv : vAt M b (some (.inr r))) (hQ : Q (some (.int (sumR r))) EE M) : aw l K mX6_sum d 0 0 0 [.ref b, .null, .null] [] EE M Q := by
  obtain ⟨hvc, hvd⟩ := hb
  obtain ⟨b0, b16, b2, b3⟩ := hv
  have loop : ∀ m k sm, m + k = r.length → sm = sumR (r.take k) → aw l K mX6_sum d 0 0 4 [.ref b, .int sm, .int (nI k)] [] EE M Q := by
    intro m
    induction m with
    | zero =>
      intro k sm hk hs
      refine aw_iload_n (n := 5) dX6_sum_4 rfl rfl ?_
      refine aw_aload_n (n := 6) dX6_sum_5 rfl rfl ?_
      refine aw_geti (n := 9) dX6_sum_6 fX6_132 (by assumption) rfl rfl ?_
      refine aw_icmp_ge (tg := 27) (n := 12) dX6_sum_9 (by decide) rfl (fun c_9 => ?_) (fun c_9 => by exact absurd (by rw [b2]; exact nI_le (by omega) (by omega)) c_9)
      refine aw_iload_n (n := 28) dX6_sum_27 rfl rfl ?_
      refine aw_iret dX6_sum_28 rfl ?_
      rw [hs, List.take_of_length_le (by omega)]; exact hQ
    | succ m ih =>
      intro k sm hk hs
      have hin : vp_in (nI k) 16 := vp_in_nI (by omega) (by decide)
      have hkk : (nI k).toNatClampNeg = k := nI_clamp (by omega)
      refine aw_iload_n (n := 5) dX6_sum_4 rfl rfl ?_
      refine aw_aload_n (n := 6) dX6_sum_5 rfl rfl ?_
      refine aw_geti (n := 9) dX6_sum_6 fX6_132 (by assumption) rfl rfl ?_
      refine aw_icmp_ge (tg := 27) (n := 12) dX6_sum_9 (by decide) rfl (fun c_9 => by exact absurd (by rw [b2] at c_9; exact c_9) (nI_ge (by omega) (by omega))) (fun c_9 => ?_)
      refine aw_iload_n (n := 13) dX6_sum_12 rfl rfl ?_
      refine aw_aload_n (n := 14) dX6_sum_13 rfl rfl ?_
      refine aw_getr (n := 17) dX6_sum_14 fX6_164 (by assumption) rfl rfl ?_
      refine aw_iload_n (n := 18) dX6_sum_17 rfl rfl ?_
      refine aw_iald (n := 19) dX6_sum_18 (by assumption) (by assumption) rfl ?_
      refine aw_iadd (n := 20) dX6_sum_19 rfl ?_
      refine aw_istore_n (n := 21) (L' := [_, _, _]) dX6_sum_20 (Nat.le_of_ble_eq_true rfl) rfl rfl ?_
      refine aw_incp (n := 24) (L' := [_, _, _]) dX6_sum_21 rfl rfl rfl ?_
      refine aw_goto (n := 4) dX6_sum_24 (by decide) ?_
      rw [nI_1, hkk, b3 k (by omega)]
      exact ih (k + 1) _ (by omega) (by rw [hs, sumR_take r k (by omega)])
  refine aw_iconst (n := 1) (v := 0) dX6_sum_0 (by decide) rfl ?_
  refine aw_istore_n (n := 2) (L' := [_, _, _]) dX6_sum_1 (Nat.le_of_ble_eq_true rfl) rfl rfl ?_
  refine aw_iconst (n := 3) (v := 0) dX6_sum_2 (by decide) rfl ?_
  refine aw_istore_n (n := 4) (L' := [_, _, _]) dX6_sum_3 (Nat.le_of_ble_eq_true rfl) rfl rfl ?_
  exact loop r.length 0 _ (by omega) rfl
theorem t_setTurned {a b : Nat} {r : List Int32} (hd : 1 ≤ d) (ha : iV a) (hb : iV b) (hab : a ≠ b) (hv : vAt M b (some (.inr r))) (hQ : ∀ M', vAt M' a (some (.inr r.reverse)) → (∀ q, q ≠ a → q ≠ a + 1 → M' q = M q) → Q none EE M') : aw l K mX6_setTurned d 0 0 0 [.ref a, .ref b, .null] [] EE M Q := by
  obtain ⟨hab1, hab2⟩ := iV_apart ha hb
  have ha' := ha
  obtain ⟨hva, hvb⟩ := ha
  obtain ⟨hvc, hvd⟩ := hb
  obtain ⟨b0, b16, b2, b3⟩ := hv
  have loop : ∀ m k Mk, m + k = r.length → Mk a 0 = 1 → Mk a 2 = nI r.length → (∀ q, q ≠ a → q ≠ a + 1 → Mk q = M q) → (∀ j, j < k → Mk (a + 1) j = r.getD (r.length - 1 - j) 0) → aw l K mX6_setTurned d 0 0 10 [.ref a, .ref b, .int (nI k)] [] EE Mk Q := by
    intro m
    induction m with
    | zero =>
      intro k Mk hk g0 g2 hf h5
      have e2 : Mk b 2 = nI r.length := by rw [hf b (Ne.symm hab) (Ne.symm hab1)]; exact b2
      refine aw_iload_n (n := 11) dX6_setTurned_10 rfl rfl ?_
      refine aw_aload_n (n := 12) dX6_setTurned_11 rfl rfl ?_
      refine aw_geti (n := 15) dX6_setTurned_12 fX6_132 (by assumption) rfl rfl ?_
      refine aw_icmp_ge (tg := 43) (n := 18) dX6_setTurned_15 (by decide) rfl (fun c_15 => ?_) (fun c_15 => by exact absurd (by rw [e2]; exact nI_le (by omega) (by omega)) c_15)
      refine aw_vret dX6_setTurned_43 rfl ?_
      refine hQ _ ⟨g0, by rw [List.length_reverse]; exact b16, by rw [List.length_reverse]; exact g2, fun j hj => ?_⟩ hf
      rw [List.length_reverse] at hj
      rw [getD_rev _ _ hj]; exact h5 j (by omega)
    | succ m ih =>
      intro k Mk hk g0 g2 hf h5
      have e2 : Mk b 2 = nI r.length := by rw [hf b (Ne.symm hab) (Ne.symm hab1)]; exact b2
      have hin : vp_in (nI k) 16 := vp_in_nI (by omega) (by decide)
      have hkk : (nI k).toNatClampNeg = k := nI_clamp (by omega)
      have e3 : nI r.length - 1 - nI k = nI (r.length - 1 - k) := by
        have h6 := pk_sub (a := r.length) (b := 1) (by omega)
        have h7 := pk_sub (a := r.length - 1) (b := k) (by omega)
        rw [← h6] at h7
        exact h7
      have hin2 : vp_in (nI (r.length - 1 - k)) 16 := vp_in_nI (by omega) (by decide)
      have hk2 : (nI (r.length - 1 - k)).toNatClampNeg = r.length - 1 - k := nI_clamp (by omega)
      refine aw_iload_n (n := 11) dX6_setTurned_10 rfl rfl ?_
      refine aw_aload_n (n := 12) dX6_setTurned_11 rfl rfl ?_
      refine aw_geti (n := 15) dX6_setTurned_12 fX6_132 (by assumption) rfl rfl ?_
      refine aw_icmp_ge (tg := 43) (n := 18) dX6_setTurned_15 (by decide) rfl (fun c_15 => by exact absurd (by rw [e2] at c_15; exact c_15) (nI_ge (by omega) (by omega))) (fun c_15 => ?_)
      refine aw_aload_n (n := 19) dX6_setTurned_18 rfl rfl ?_
      refine aw_getr (n := 22) dX6_setTurned_19 fX6_164 (by assumption) rfl rfl ?_
      refine aw_iload_n (n := 23) dX6_setTurned_22 rfl rfl ?_
      refine aw_aload_n (n := 24) dX6_setTurned_23 rfl rfl ?_
      refine aw_getr (n := 27) dX6_setTurned_24 fX6_164 (by assumption) rfl rfl ?_
      refine aw_aload_n (n := 28) dX6_setTurned_27 rfl rfl ?_
      refine aw_geti (n := 31) dX6_setTurned_28 fX6_132 (by assumption) rfl rfl ?_
      refine aw_iconst (n := 32) (v := 1) dX6_setTurned_31 (by decide) rfl ?_
      refine aw_isub (n := 33) dX6_setTurned_32 rfl ?_
      refine aw_iload_n (n := 34) dX6_setTurned_33 rfl rfl ?_
      refine aw_isub (n := 35) dX6_setTurned_34 rfl ?_
      rw [e2, e3]
      refine aw_iald (n := 36) dX6_setTurned_35 (by assumption) (by assumption) rfl ?_
      refine aw_iast (n := 37) dX6_setTurned_36 (by assumption) (by assumption) rfl ?_
      refine aw_incp (n := 40) (L' := [_, _, _]) dX6_setTurned_37 rfl rfl rfl ?_
      refine aw_goto (n := 10) dX6_setTurned_40 (by decide) ?_
      rw [nI_1, hkk, hk2, hf (b + 1) (by omega) (by omega), b3 _ (by omega)]
      refine ih (k + 1) _ (by omega) ?_ ?_ (fun q q1 q2 => ?_) (fun j hj => ?_)
      · rw [up2_a _ _ (by omega)]; exact g0
      · rw [up2_a _ _ (by omega)]; exact g2
      · rw [up2_ra _ _ q2]; exact hf q q1 q2
      · by_cases hjk : j = k
        · subst hjk; rw [up2_s]
        · rw [up2_k _ _ hjk]; exact h5 j (by omega)
  refine aw_aload_n (n := 1) dX6_setTurned_0 rfl rfl ?_
  refine aw_aload_n (n := 2) dX6_setTurned_1 rfl rfl ?_
  refine aw_geti (n := 5) dX6_setTurned_2 fX6_132 (by assumption) rfl rfl ?_
  rw [b2]
  refine aw_v1 (d1 := d - 1) (n := 8) (Z := mX5_setRow) (ci := 3) (L0 := [_, _]) dX6_setTurned_5 kX5_setRow gX6_171 iyX5_setRow eyX5_setRow rfl rfl (by assumption) rfl (Nat.le_of_ble_eq_true rfl) rfl rfl (by omega) (Nat.le_of_ble_eq_true rfl) (t_setRow ha' (fun M' g0 g2 g3 => ?_))
  dsimp only [aPush]
  refine aw_iconst (n := 9) (v := 0) dX6_setTurned_8 (by decide) rfl ?_
  refine aw_istore_n (n := 10) (L' := [_, _, _]) dX6_setTurned_9 (Nat.le_of_ble_eq_true rfl) rfl rfl ?_
  exact loop r.length 0 _ (by omega) g0 g2 (fun q q1 q2 => g3 q q1) (fun j hj => by omega)
theorem t_setJoined {a b c : Nat} {r s : List Int32} (hd : 1 ≤ d) (ha : iV a) (hb : iV b) (hc : iV c) (hab : a ≠ b) (hac : a ≠ c) (hv : vAt M b (some (.inr r))) (hw : vAt M c (some (.inr s))) (h1 : 16 < r.length + s.length → Q (some (.int 6)) EE M) (h2 : ¬ 16 < r.length + s.length → ∀ M', vAt M' a (some (.inr (r ++ s))) → (∀ q, q ≠ a → q ≠ a + 1 → M' q = M q) → Q (some (.int 0)) EE M') : aw l K mX6_setJoined d 0 0 0 [.ref a, .ref b, .ref c] [] EE M Q := by
  obtain ⟨hab1, hab2⟩ := iV_apart ha hb
  obtain ⟨hac1, hac2⟩ := iV_apart ha hc
  have ha' := ha
  obtain ⟨hva, hvb⟩ := ha
  obtain ⟨hvc, hvd⟩ := hb
  obtain ⟨hve, hvf⟩ := hc
  obtain ⟨b0, b16, b2, b3⟩ := hv
  obtain ⟨c0, c16, c2, c3⟩ := hw
  have hr : (nI r.length).toNatClampNeg = r.length := nI_clamp (by omega)
  have hs : (nI s.length).toNatClampNeg = s.length := nI_clamp (by omega)
  have h00 : (0 : Int32).toNatClampNeg = 0 := by decide
  refine aw_aload_n (n := 1) dX6_setJoined_0 rfl rfl ?_
  refine aw_geti (n := 4) dX6_setJoined_1 fX6_132 (by assumption) rfl rfl ?_
  refine aw_aload_n (n := 5) dX6_setJoined_4 rfl rfl ?_
  refine aw_geti (n := 8) dX6_setJoined_5 fX6_132 (by assumption) rfl rfl ?_
  rw [b2, c2]
  refine aw_iadd (n := 9) dX6_setJoined_8 rfl ?_
  rw [nI_add]
  refine aw_bipush (n := 11) (v := 16) dX6_setJoined_9 (by decide) rfl ?_
  refine aw_icmp_le (tg := 17) (n := 14) dX6_setJoined_11 (by decide) rfl (fun c_11 => ?_) (fun c_11 => ?_)
  · have hle : ¬ 16 < r.length + s.length := fun q => absurd c_11 (by rw [i_nle]; exact (nI_ltI (a := 16) (by omega) (by omega)).mpr q)
    refine aw_aload_n (n := 18) dX6_setJoined_17 rfl rfl ?_
    refine aw_aload_n (n := 19) dX6_setJoined_18 rfl rfl ?_
    refine aw_geti (n := 22) dX6_setJoined_19 fX6_132 (by assumption) rfl rfl ?_
    refine aw_aload_n (n := 23) dX6_setJoined_22 rfl rfl ?_
    refine aw_geti (n := 26) dX6_setJoined_23 fX6_132 (by assumption) rfl rfl ?_
    rw [b2, c2]
    refine aw_iadd (n := 27) dX6_setJoined_26 rfl ?_
    rw [nI_add]
    refine aw_v1 (d1 := d - 1) (n := 30) (Z := mX5_setRow) (ci := 3) (L0 := [_, _]) dX6_setJoined_27 kX5_setRow gX6_171 iyX5_setRow eyX5_setRow rfl rfl (by assumption) rfl (Nat.le_of_ble_eq_true rfl) rfl rfl (by omega) (Nat.le_of_ble_eq_true rfl) (t_setRow ha' (fun M1 g0 g2 g3 => ?_))
    dsimp only [aPush]
    have e2 : M1 b 2 = nI r.length := by rw [g3 b (Ne.symm hab)]; exact b2
    have e3 : M1 c 2 = nI s.length := by rw [g3 c (Ne.symm hac)]; exact c2
    refine aw_aload_n (n := 31) dX6_setJoined_30 rfl rfl ?_
    refine aw_getr (n := 34) dX6_setJoined_31 fX6_164 (by assumption) rfl rfl ?_
    refine aw_iconst (n := 35) (v := 0) dX6_setJoined_34 (by decide) rfl ?_
    refine aw_aload_n (n := 36) dX6_setJoined_35 rfl rfl ?_
    refine aw_getr (n := 39) dX6_setJoined_36 fX6_164 (by assumption) rfl rfl ?_
    refine aw_iconst (n := 40) (v := 0) dX6_setJoined_39 (by decide) rfl ?_
    refine aw_aload_n (n := 41) dX6_setJoined_40 rfl rfl ?_
    refine aw_geti (n := 44) dX6_setJoined_41 fX6_132 (by assumption) rfl rfl ?_
    rw [e2]
    refine aw_copy (n := 47) dX6_setJoined_44 gX6_174 narraycopyName sarraycopyName z_java_lang_System (by assumption) (by assumption) (by decide) (by decide) (nI_pos (by omega)) (by rw [h00, hr]; omega) (by rw [h00, hr]; omega) (Nat.le_of_ble_eq_true rfl) (by omega) rfl ?_
    rw [h00, hr]
    have hne2 : aCpy M1 (b + 1) (a + 1) 0 0 r.length b 2 = nI r.length := by unfold aCpy; rw [if_neg (fun q => hab2 (by omega))]; exact e2
    have hne3 : aCpy M1 (b + 1) (a + 1) 0 0 r.length c 2 = nI s.length := by unfold aCpy; rw [if_neg (fun q => hac2 (by omega))]; exact e3
    refine aw_aload_n (n := 48) dX6_setJoined_47 rfl rfl ?_
    refine aw_getr (n := 51) dX6_setJoined_48 fX6_164 (by assumption) rfl rfl ?_
    refine aw_iconst (n := 52) (v := 0) dX6_setJoined_51 (by decide) rfl ?_
    refine aw_aload_n (n := 53) dX6_setJoined_52 rfl rfl ?_
    refine aw_getr (n := 56) dX6_setJoined_53 fX6_164 (by assumption) rfl rfl ?_
    refine aw_aload_n (n := 57) dX6_setJoined_56 rfl rfl ?_
    refine aw_geti (n := 60) dX6_setJoined_57 fX6_132 (by assumption) rfl rfl ?_
    refine aw_aload_n (n := 61) dX6_setJoined_60 rfl rfl ?_
    refine aw_geti (n := 64) dX6_setJoined_61 fX6_132 (by assumption) rfl rfl ?_
    rw [hne2, hne3]
    refine aw_copy (n := 67) dX6_setJoined_64 gX6_174 narraycopyName sarraycopyName z_java_lang_System (by assumption) (by assumption) (by decide) (nI_pos (by omega)) (nI_pos (by omega)) (by rw [h00, hs]; omega) (by rw [hr, hs]; omega) (Nat.le_of_ble_eq_true rfl) (by omega) rfl ?_
    rw [h00, hr, hs]
    refine aw_iconst (n := 68) (v := 0) dX6_setJoined_67 (by decide) rfl ?_
    refine aw_iret dX6_setJoined_68 rfl ?_
    refine h2 hle _ ⟨?_, ?_, ?_, fun j hj => ?_⟩ (fun q q1 q2 => ?_)
    · unfold aCpy; rw [if_neg (by omega), if_neg (by omega)]; exact g0
    · rw [List.length_append]; omega
    · unfold aCpy; rw [if_neg (by omega), if_neg (by omega), List.length_append]; exact g2
    · rw [List.length_append] at hj
      rw [getD_app]
      unfold aCpy
      by_cases hjr : j < r.length
      · rw [if_neg (by omega), if_pos (by omega), if_pos hjr, g3 (b + 1) (by omega)]
        rw [show 0 + (j - 0) = j by omega]; exact b3 j hjr
      · rw [if_pos (by omega), if_neg (by omega), if_neg hjr, g3 (c + 1) (by omega)]
        rw [show 0 + (j - r.length) = j - r.length by omega]; exact c3 _ (by omega)
    · funext j
      unfold aCpy
      rw [if_neg (fun z => q2 z.1), if_neg (fun z => q2 z.1), g3 q q1]
  · refine aw_bipush (n := 16) (v := 6) dX6_setJoined_14 (by decide) rfl ?_
    refine aw_iret dX6_setJoined_16 rfl ?_
    exact h1 ((nI_ltI (a := 16) (by omega) (by omega)).mp (i_nle.mp c_11))
theorem t_setPart {a b : Nat} {r : List Int32} {i k : Int32} (hd : 1 ≤ d) (ha : iV a) (hb : iV b) (hab : a ≠ b) (hv : vAt M b (some (.inr r))) (h1 : k < 0 → Q (some (.int 3)) EE M) (h2 : ¬ k < 0 → 16 < k → Q (some (.int 6)) EE M) (h3 : ¬ k < 0 → ¬ 16 < k → (i < 0 ∨ nI r.length - k < i) → Q (some (.int 2)) EE M) (h4 : ¬ k < 0 → ¬ 16 < k → ¬ (i < 0 ∨ nI r.length - k < i) → ∀ M', vAt M' a (some (.inr ((r.drop i.toNatClampNeg).take k.toNatClampNeg))) → (∀ q, q ≠ a → q ≠ a + 1 → M' q = M q) → Q (some (.int 0)) EE M') : aw l K mX6_setPart d 0 0 0 [.ref a, .ref b, .int i, .int k] [] EE M Q := by
  obtain ⟨hab1, hab2⟩ := iV_apart ha hb
  have ha' := ha
  obtain ⟨hva, hvb⟩ := ha
  obtain ⟨hvc, hvd⟩ := hb
  obtain ⟨b0, b16, b2, b3⟩ := hv
  have h00 : (0 : Int32).toNatClampNeg = 0 := by decide
  by_cases hx0 : k < 0
  · refine aw_iload_n (n := 1) dX6_setPart_0 rfl rfl ?_
    refine aw_if_ge (tg := 6) (n := 4) dX6_setPart_1 (by decide) rfl (fun c_1 => by exact absurd hx0 (i_nlt.mpr c_1)) (fun c_1 => ?_)
    refine aw_iconst (n := 5) (v := 3) dX6_setPart_4 (by decide) rfl ?_
    refine aw_iret dX6_setPart_5 rfl ?_
    exact h1 hx0
  by_cases hx16 : 16 < k
  · refine aw_iload_n (n := 1) dX6_setPart_0 rfl rfl ?_
    refine aw_if_ge (tg := 6) (n := 4) dX6_setPart_1 (by decide) rfl (fun c_1 => ?_) (fun c_1 => by exact absurd (i_nlt.mp hx0) c_1)
    refine aw_iload_n (n := 7) dX6_setPart_6 rfl rfl ?_
    refine aw_bipush (n := 9) (v := 16) dX6_setPart_7 (by decide) rfl ?_
    refine aw_icmp_le (tg := 15) (n := 12) dX6_setPart_9 (by decide) rfl (fun c_9 => by exact absurd hx16 (i_nlt.mpr c_9)) (fun c_9 => ?_)
    refine aw_bipush (n := 14) (v := 6) dX6_setPart_12 (by decide) rfl ?_
    refine aw_iret dX6_setPart_14 rfl ?_
    exact h2 hx0 hx16
  obtain ⟨n, hn, rfl⟩ := nI_of2 (M := 16) (n := 16) (by decide) hx0 (i_nlt.mp hx16)
  have hnn : (nI n).toNatClampNeg = n := nI_clamp (by omega)
  by_cases hi : i < 0 ∨ nI r.length - nI n < i
  · have h5 := h3 hx0 hx16 hi
    refine aw_iload_n (n := 1) dX6_setPart_0 rfl rfl ?_
    refine aw_if_ge (tg := 6) (n := 4) dX6_setPart_1 (by decide) rfl (fun c_1 => ?_) (fun c_1 => by exact absurd (i_nlt.mp hx0) c_1)
    refine aw_iload_n (n := 7) dX6_setPart_6 rfl rfl ?_
    refine aw_bipush (n := 9) (v := 16) dX6_setPart_7 (by decide) rfl ?_
    refine aw_icmp_le (tg := 15) (n := 12) dX6_setPart_9 (by decide) rfl (fun c_9 => ?_) (fun c_9 => by exact absurd (i_nlt.mp hx16) c_9)
    refine aw_iload_n (n := 16) dX6_setPart_15 rfl rfl ?_
    refine aw_if_lt (tg := 29) (n := 19) dX6_setPart_16 (by decide) rfl (fun c_16 => ?_) (fun c_16 => ?_)
    · refine aw_iconst (n := 30) (v := 2) dX6_setPart_29 (by decide) rfl ?_
      refine aw_iret dX6_setPart_30 rfl ?_
      exact h5
    · refine aw_iload_n (n := 20) dX6_setPart_19 rfl rfl ?_
      refine aw_aload_n (n := 21) dX6_setPart_20 rfl rfl ?_
      refine aw_geti (n := 24) dX6_setPart_21 fX6_132 (by assumption) rfl rfl ?_
      refine aw_iload_n (n := 25) dX6_setPart_24 rfl rfl ?_
      refine aw_isub (n := 26) dX6_setPart_25 rfl ?_
      rw [b2]
      refine aw_icmp_le (tg := 31) (n := 29) dX6_setPart_26 (by decide) rfl (fun c_26 => by exact (hi.elim c_16 (i_nlt.mpr c_26)).elim) (fun c_26 => ?_)
      refine aw_iconst (n := 30) (v := 2) dX6_setPart_29 (by decide) rfl ?_
      refine aw_iret dX6_setPart_30 rfl ?_
      exact h5
  have h5 := h4 hx0 hx16 hi
  have hi0 : ¬ i < 0 := fun q => hi (Or.inl q)
  have hi1 : ¬ nI r.length - nI n < i := fun q => hi (Or.inr q)
  have hle : n ≤ r.length ∧ ∃ j, j ≤ r.length - n ∧ i = nI j := by
    obtain ⟨j, hj, rfl⟩ := nI_of hi0
    by_cases hnr : n ≤ r.length
    · rw [pk_sub hnr] at hi1
      refine ⟨hnr, j, ?_, rfl⟩
      by_cases h9 : j < 2 ^ 30
      · exact Nat.not_lt.mp fun q => hi1 ((nI_ltI (by omega) (by omega)).mpr q)
      · exact absurd (nI_lt (a := r.length - n) (b := j) (by omega) hj) hi1
    · exact absurd (by
        have h8 : nI r.length - nI n < 0 := pk_sneg (by omega) (by omega)
        simp only [Int32.lt_iff_toInt_lt, ti_0] at h8 hi0 ⊢
        omega) hi1
  obtain ⟨hnr, j, hj, rfl⟩ := hle
  have hjj : (nI j).toNatClampNeg = j := nI_clamp (by omega)
  rw [hnn, hjj] at h5
  refine aw_iload_n (n := 1) dX6_setPart_0 rfl rfl ?_
  refine aw_if_ge (tg := 6) (n := 4) dX6_setPart_1 (by decide) rfl (fun c_1 => ?_) (fun c_1 => by exact absurd (i_nlt.mp hx0) c_1)
  refine aw_iload_n (n := 7) dX6_setPart_6 rfl rfl ?_
  refine aw_bipush (n := 9) (v := 16) dX6_setPart_7 (by decide) rfl ?_
  refine aw_icmp_le (tg := 15) (n := 12) dX6_setPart_9 (by decide) rfl (fun c_9 => ?_) (fun c_9 => by exact absurd (i_nlt.mp hx16) c_9)
  refine aw_iload_n (n := 16) dX6_setPart_15 rfl rfl ?_
  refine aw_if_lt (tg := 29) (n := 19) dX6_setPart_16 (by decide) rfl (fun c_16 => by exact absurd c_16 hi0) (fun c_16 => ?_)
  refine aw_iload_n (n := 20) dX6_setPart_19 rfl rfl ?_
  refine aw_aload_n (n := 21) dX6_setPart_20 rfl rfl ?_
  refine aw_geti (n := 24) dX6_setPart_21 fX6_132 (by assumption) rfl rfl ?_
  refine aw_iload_n (n := 25) dX6_setPart_24 rfl rfl ?_
  refine aw_isub (n := 26) dX6_setPart_25 rfl ?_
  rw [b2]
  refine aw_icmp_le (tg := 31) (n := 29) dX6_setPart_26 (by decide) rfl (fun c_26 => ?_) (fun c_26 => by exact absurd (i_nlt.mp hi1) c_26)
  refine aw_aload_n (n := 32) dX6_setPart_31 rfl rfl ?_
  refine aw_iload_n (n := 33) dX6_setPart_32 rfl rfl ?_
  refine aw_v1 (d1 := d - 1) (n := 36) (Z := mX5_setRow) (ci := 3) (L0 := [_, _]) dX6_setPart_33 kX5_setRow gX6_171 iyX5_setRow eyX5_setRow rfl rfl (by assumption) rfl (Nat.le_of_ble_eq_true rfl) rfl rfl (by omega) (Nat.le_of_ble_eq_true rfl) (t_setRow ha' (fun M1 g0 g2 g3 => ?_))
  dsimp only [aPush]
  refine aw_aload_n (n := 37) dX6_setPart_36 rfl rfl ?_
  refine aw_getr (n := 40) dX6_setPart_37 fX6_164 (by assumption) rfl rfl ?_
  refine aw_iload_n (n := 41) dX6_setPart_40 rfl rfl ?_
  refine aw_aload_n (n := 42) dX6_setPart_41 rfl rfl ?_
  refine aw_getr (n := 45) dX6_setPart_42 fX6_164 (by assumption) rfl rfl ?_
  refine aw_iconst (n := 46) (v := 0) dX6_setPart_45 (by decide) rfl ?_
  refine aw_iload_n (n := 47) dX6_setPart_46 rfl rfl ?_
  refine aw_copy (n := 50) dX6_setPart_47 gX6_174 narraycopyName sarraycopyName z_java_lang_System (by assumption) (by assumption) hi0 (by decide) hx0 (by rw [hjj, hnn]; omega) (by rw [h00, hnn]; omega) (Nat.le_of_ble_eq_true rfl) (by omega) rfl ?_
  rw [h00, hjj, hnn]
  refine aw_iconst (n := 51) (v := 0) dX6_setPart_50 (by decide) rfl ?_
  refine aw_iret dX6_setPart_51 rfl ?_
  refine h5 _ ⟨?_, ?_, ?_, fun q hq => ?_⟩ (fun q q1 q2 => ?_)
  · unfold aCpy; rw [if_neg (by omega)]; exact g0
  · rw [List.length_take, List.length_drop]; omega
  · unfold aCpy; rw [if_neg (by omega), List.length_take, List.length_drop, show min n (r.length - j) = n by omega]; exact g2
  · rw [List.length_take, List.length_drop] at hq
    rw [getD_dt _ _ _ _ (by omega)]
    unfold aCpy
    rw [if_pos (by omega), g3 (b + 1) (by omega), show j + (q - 0) = j + q by omega]
    exact b3 _ (by omega)
  · funext z
    unfold aCpy
    rw [if_neg (fun z => q2 z.1), g3 q q1]
theorem t_setSorted {a b : Nat} {r : List Int32} (hd : 1 ≤ d) (ha : iV a) (hb : iV b) (hab : a ≠ b) (hv : vAt M b (some (.inr r))) (hQ : ∀ M', vAt M' a (some (.inr (lR r.length (srt (fR r) (r.length - 1))))) → (∀ q, q ≠ a → q ≠ a + 1 → M' q = M q) → Q none EE M') : aw l K mX6_setSorted d 0 0 0 [.ref a, .ref b, .null, .null, .null] [] EE M Q := by
  have ha' := ha
  obtain ⟨hva, hvb⟩ := ha
  have b16 : r.length ≤ 16 := hv.2.1
  have inner : ∀ p f Mk (x3 : Value) (e : Nat) (x : Int32), p < r.length → Mk a 0 = 1 → Mk a 2 = nI r.length → (∀ q, q ≠ a → q ≠ a + 1 → Mk q = M q) → (∀ j, j < r.length → Mk (a + 1) j = f j) → (∀ M' x4, M' a 0 = 1 → M' a 2 = nI r.length → (∀ q, q ≠ a → q ≠ a + 1 → M' q = M q) → (∀ j, j < r.length → M' (a + 1) j = sh f x p j) → aw l K mX6_setSorted d 0 0 7 [.ref a, .ref b, .int (nI (e + 1)), .int x, x4] [] EE M' Q) → aw l K mX6_setSorted d 0 0 25 [.ref a, .ref b, .int (nI e), .int x, .int (nI p)] [] EE Mk Q := by
    intro p
    induction p with
    | zero =>
      intro f Mk x3 e x hp g0 g2 hf h5 hk
      have hin : vp_in (nI 0) 16 := vp_in_nI (by decide) (by decide)
      have h00 : (nI 0).toNatClampNeg = 0 := by decide
      refine aw_iload (n := 27) dX6_setSorted_25 rfl rfl ?_
      refine aw_if_le (tg := 65) (n := 30) dX6_setSorted_27 (by decide) rfl (fun c_27 => ?_) (fun c_27 => by exact absurd (by decide) c_27)
      refine aw_aload_n (n := 66) dX6_setSorted_65 rfl rfl ?_
      refine aw_getr (n := 69) dX6_setSorted_66 fX6_164 (by assumption) rfl rfl ?_
      refine aw_iload (n := 71) dX6_setSorted_69 rfl rfl ?_
      refine aw_iload_n (n := 72) dX6_setSorted_71 rfl rfl ?_
      refine aw_iast (n := 73) dX6_setSorted_72 (by assumption) (by assumption) rfl ?_
      refine aw_incp (n := 76) (L' := [_, _, _, _, _]) dX6_setSorted_73 rfl rfl rfl ?_
      refine aw_goto (n := 7) dX6_setSorted_76 (by decide) ?_
      rw [nI_1, h00]
      refine hk _ _ ?_ ?_ (fun q q1 q2 => ?_) (fun j hj => ?_)
      · rw [up2_a _ _ (by omega)]; exact g0
      · rw [up2_a _ _ (by omega)]; exact g2
      · rw [up2_ra _ _ q2]; exact hf q q1 q2
      · show up2 Mk (a + 1) 0 x (a + 1) j = if j = 0 then x else f j
        by_cases hj0 : j = 0
        · subst hj0; rw [up2_s, if_pos rfl]
        · rw [up2_k _ _ hj0, if_neg hj0]; exact h5 j hj
    | succ p ih =>
      intro f Mk x3 e x hp g0 g2 hf h5 hk
      have hin : vp_in (nI (p + 1)) 16 := vp_in_nI (by omega) (by decide)
      have hin2 : vp_in (nI (p + 1) - 1) 16 := by rw [nI_pred]; exact vp_in_nI (by omega) (by decide)
      have hpp : (nI (p + 1)).toNatClampNeg = p + 1 := nI_clamp (by omega)
      have hp1 : (nI (p + 1) - 1).toNatClampNeg = p := by rw [nI_pred]; exact nI_clamp (by omega)
      refine aw_iload (n := 27) dX6_setSorted_25 rfl rfl ?_
      refine aw_if_le (tg := 65) (n := 30) dX6_setSorted_27 (by decide) rfl (fun c_27 => by exact absurd c_27 (nI_nle (by omega) (by omega))) (fun c_27 => ?_)
      refine aw_aload_n (n := 31) dX6_setSorted_30 rfl rfl ?_
      refine aw_getr (n := 34) dX6_setSorted_31 fX6_164 (by assumption) rfl rfl ?_
      refine aw_iload (n := 36) dX6_setSorted_34 rfl rfl ?_
      refine aw_iconst (n := 37) (v := 1) dX6_setSorted_36 (by decide) rfl ?_
      refine aw_isub (n := 38) dX6_setSorted_37 rfl ?_
      refine aw_iald (n := 39) dX6_setSorted_38 (by assumption) (by assumption) rfl ?_
      rw [hp1, h5 p (by omega)]
      refine aw_iload_n (n := 40) dX6_setSorted_39 rfl rfl ?_
      refine aw_icmp_le (tg := 65) (n := 43) dX6_setSorted_40 (by decide) rfl (fun c_40 => ?_) (fun c_40 => ?_)
      · refine aw_aload_n (n := 66) dX6_setSorted_65 rfl rfl ?_
        refine aw_getr (n := 69) dX6_setSorted_66 fX6_164 (by assumption) rfl rfl ?_
        refine aw_iload (n := 71) dX6_setSorted_69 rfl rfl ?_
        refine aw_iload_n (n := 72) dX6_setSorted_71 rfl rfl ?_
        refine aw_iast (n := 73) dX6_setSorted_72 (by assumption) (by assumption) rfl ?_
        refine aw_incp (n := 76) (L' := [_, _, _, _, _]) dX6_setSorted_73 rfl rfl rfl ?_
        refine aw_goto (n := 7) dX6_setSorted_76 (by decide) ?_
        rw [nI_1, hpp]
        have hnx : ¬ x < f p := i_nlt.mpr c_40
        refine hk _ _ ?_ ?_ (fun q q1 q2 => ?_) (fun j hj => ?_)
        · rw [up2_a _ _ (by omega)]; exact g0
        · rw [up2_a _ _ (by omega)]; exact g2
        · rw [up2_ra _ _ q2]; exact hf q q1 q2
        · rw [show sh f x (p + 1) = fun j => if j = p + 1 then x else f j from if_neg hnx]
          by_cases hj0 : j = p + 1
          · subst hj0; rw [up2_s]; exact (if_pos rfl).symm
          · rw [up2_k _ _ hj0]; exact (h5 j hj).trans (if_neg hj0).symm
      · refine aw_aload_n (n := 44) dX6_setSorted_43 rfl rfl ?_
        refine aw_getr (n := 47) dX6_setSorted_44 fX6_164 (by assumption) rfl rfl ?_
        refine aw_iload (n := 49) dX6_setSorted_47 rfl rfl ?_
        refine aw_aload_n (n := 50) dX6_setSorted_49 rfl rfl ?_
        refine aw_getr (n := 53) dX6_setSorted_50 fX6_164 (by assumption) rfl rfl ?_
        refine aw_iload (n := 55) dX6_setSorted_53 rfl rfl ?_
        refine aw_iconst (n := 56) (v := 1) dX6_setSorted_55 (by decide) rfl ?_
        refine aw_isub (n := 57) dX6_setSorted_56 rfl ?_
        refine aw_iald (n := 58) dX6_setSorted_57 (by assumption) (by assumption) rfl ?_
        refine aw_iast (n := 59) dX6_setSorted_58 (by assumption) (by assumption) rfl ?_
        refine aw_incm (n := 62) (L' := [_, _, _, _, _]) dX6_setSorted_59 rfl rfl rfl ?_
        refine aw_goto (n := 25) dX6_setSorted_62 (by decide) ?_
        rw [hpp, hp1, pk_m1]
        have hx : x < f p := i_nle.mp c_40
        refine ih (fun j => if j = p + 1 then f p else f j) _ x3 e x (by omega) ?_ ?_ (fun q q1 q2 => ?_) (fun j hj => ?_) ?_
        · rw [up2_a _ _ (by omega)]; exact g0
        · rw [up2_a _ _ (by omega)]; exact g2
        · rw [up2_ra _ _ q2]; exact hf q q1 q2
        · by_cases hj0 : j = p + 1
          · subst hj0; rw [up2_s, if_pos rfl, h5 p (by omega)]
          · rw [up2_k _ _ hj0, if_neg hj0]; exact h5 j hj
        · intro M' x4 k0 k2 kf k5
          refine hk M' x4 k0 k2 kf (fun j hj => ?_)
          rw [show sh f x (p + 1) = sh (fun j => if j = p + 1 then f p else f j) x p from if_pos hx]
          exact k5 j hj
  have loop : ∀ m k Mk x3 x4, m + k + 1 = r.length ∨ (m = 0 ∧ k = 0 ∧ r.length = 0) → Mk a 0 = 1 → Mk a 2 = nI r.length → (∀ q, q ≠ a → q ≠ a + 1 → Mk q = M q) → (∀ j, j < r.length → Mk (a + 1) j = srt (fR r) k j) → aw l K mX6_setSorted d 0 0 7 [.ref a, .ref b, .int (nI (k + 1)), x3, x4] [] EE Mk Q := by
    intro m
    induction m with
    | zero =>
      intro k Mk x3 x4 hk g0 g2 hf h5
      refine aw_iload_n (n := 8) dX6_setSorted_7 rfl rfl ?_
      refine aw_aload_n (n := 9) dX6_setSorted_8 rfl rfl ?_
      refine aw_geti (n := 12) dX6_setSorted_9 fX6_132 (by assumption) rfl rfl ?_
      refine aw_icmp_ge (tg := 79) (n := 15) dX6_setSorted_12 (by decide) rfl (fun c_12 => ?_) (fun c_12 => by exact absurd (by rw [g2]; exact nI_le (by omega) (by omega)) c_12)
      refine aw_vret dX6_setSorted_79 rfl ?_
      refine hQ _ ⟨g0, by rw [len_lR]; exact b16, by rw [len_lR]; exact g2, fun j hj => ?_⟩ hf
      rw [len_lR] at hj
      rw [getD_lR _ _ _ hj, show r.length - 1 = k by omega]; exact h5 j hj
    | succ m ih =>
      intro k Mk x3 x4 hk g0 g2 hf h5
      have hkl : k + 1 < r.length := by omega
      have hin : vp_in (nI (k + 1)) 16 := vp_in_nI (by omega) (by decide)
      have hkk : (nI (k + 1)).toNatClampNeg = k + 1 := nI_clamp (by omega)
      refine aw_iload_n (n := 8) dX6_setSorted_7 rfl rfl ?_
      refine aw_aload_n (n := 9) dX6_setSorted_8 rfl rfl ?_
      refine aw_geti (n := 12) dX6_setSorted_9 fX6_132 (by assumption) rfl rfl ?_
      refine aw_icmp_ge (tg := 79) (n := 15) dX6_setSorted_12 (by decide) rfl (fun c_12 => by exact absurd (by rw [g2] at c_12; exact c_12) (nI_ge (by omega) (by omega))) (fun c_12 => ?_)
      refine aw_aload_n (n := 16) dX6_setSorted_15 rfl rfl ?_
      refine aw_getr (n := 19) dX6_setSorted_16 fX6_164 (by assumption) rfl rfl ?_
      refine aw_iload_n (n := 20) dX6_setSorted_19 rfl rfl ?_
      refine aw_iald (n := 21) dX6_setSorted_20 (by assumption) (by assumption) rfl ?_
      refine aw_istore_n (n := 22) (L' := [_, _, _, _, _]) dX6_setSorted_21 (Nat.le_of_ble_eq_true rfl) rfl rfl ?_
      refine aw_iload_n (n := 23) dX6_setSorted_22 rfl rfl ?_
      refine aw_istore (n := 25) (L' := [_, _, _, _, _]) dX6_setSorted_23 (Nat.le_of_ble_eq_true rfl) rfl rfl ?_
      rw [hkk, h5 _ hkl]
      refine inner (k + 1) (srt (fR r) k) Mk x3 (k + 1) _ hkl g0 g2 hf h5 (fun M' x4 k0 k2 kf k5 => ?_)
      exact ih (k + 1) M' _ _ (by omega) k0 k2 kf k5
  refine aw_aload_n (n := 1) dX6_setSorted_0 rfl rfl ?_
  refine aw_aload_n (n := 2) dX6_setSorted_1 rfl rfl ?_
  refine aw_v1 (d1 := d - 1) (n := 5) (Z := mX5_copy) (ci := 3) (L0 := [_, _, .null]) dX6_setSorted_2 kX5_copy gX6_113 iyX5_copy eyX5_copy rfl rfl (by assumption) rfl (Nat.le_of_ble_eq_true rfl) rfl rfl (by omega) (Nat.le_of_ble_eq_true rfl) (t_copy ha' hb hab hv (fun M' h5 h6 => ?_))
  dsimp only [aPush]
  refine aw_iconst (n := 6) (v := 1) dX6_setSorted_5 (by decide) rfl ?_
  refine aw_istore_n (n := 7) (L' := [_, _, _, _, _]) dX6_setSorted_6 (Nat.le_of_ble_eq_true rfl) rfl rfl ?_
  exact loop (r.length - 1) 0 _ _ _ (by omega) h5.1 h5.2.2.1 h6 (fun j hj => h5.2.2.2 j hj)
theorem t_ofWholes {a w : Nat} {x y : Int32} (hd : 2 ≤ d) (ha : iV a) (hw : 3 ≤ w ∧ w ≤ 8) (h1 : ∀ k, opB w x y = .inl k → Q (some (.int (nI k))) EE M) (h2 : ∀ v, opB w x y = .inr v → ∀ M', vAt M' a v → (∀ q, q ≠ a → q ≠ a + 1 → M' q = M q) → Q (some (.int 0)) EE M') : aw l K mX6_setOfWholes d 0 0 0 [.ref a, .int (nI w), .int x, .int y] [] EE M Q := by
  have ha' := ha
  obtain ⟨hva, hvb⟩ := ha
  rcases (show w = 3 ∨ w = 4 ∨ w = 5 ∨ w = 6 ∨ w = 7 ∨ w = 8 by omega) with rfl | rfl | rfl | rfl | rfl | rfl
  · refine aw_iload_n (n := 1) dX6_setOfWholes_0 rfl rfl ?_
    refine aw_bipush (n := 3) (v := 6) dX6_setOfWholes_1 (by decide) rfl ?_
    refine aw_icmp_eq (tg := 12) (n := 6) dX6_setOfWholes_3 (by decide) rfl (fun c_3 => by exact absurd c_3 (by decide)) (fun c_3 => ?_)
    refine aw_iload_n (n := 7) dX6_setOfWholes_6 rfl rfl ?_
    refine aw_bipush (n := 9) (v := 7) dX6_setOfWholes_7 (by decide) rfl ?_
    refine aw_icmp_ne (tg := 18) (n := 12) dX6_setOfWholes_9 (by decide) rfl (fun c_9 => ?_) (fun c_9 => by exact absurd c_9 (by decide))
    refine aw_iload_n (n := 19) dX6_setOfWholes_18 rfl rfl ?_
    refine aw_tswIn (n := 52) (off := 33) dX6_setOfWholes_19 (by decide) (by decide) (by decide) (by decide) ?_
    refine aw_aload_n (n := 53) dX6_setOfWholes_52 rfl rfl ?_
    refine aw_iload_n (n := 54) dX6_setOfWholes_53 rfl rfl ?_
    refine aw_iload_n (n := 55) dX6_setOfWholes_54 rfl rfl ?_
    refine aw_iadd (n := 56) dX6_setOfWholes_55 rfl ?_
    refine aw_v1 (d1 := d - 1) (n := 59) (Z := mX5_setWhole) (ci := 3) (L0 := [_, _]) dX6_setOfWholes_56 kX5_setWhole gX6_117 iyX5_setWhole eyX5_setWhole rfl rfl (by assumption) rfl (Nat.le_of_ble_eq_true rfl) rfl rfl (by omega) (Nat.le_of_ble_eq_true rfl) (t_setWhole ha' (fun M' h5 h6 => ?_))
    dsimp only [aPush]
    refine aw_goto (n := 116) dX6_setOfWholes_59 (by decide) ?_
    refine aw_iconst (n := 117) (v := 0) dX6_setOfWholes_116 (by decide) rfl ?_
    refine aw_iret dX6_setOfWholes_117 rfl ?_
    exact h2 _ rfl _ h5 (fun q q1 q2 => h6 q q1)
  · refine aw_iload_n (n := 1) dX6_setOfWholes_0 rfl rfl ?_
    refine aw_bipush (n := 3) (v := 6) dX6_setOfWholes_1 (by decide) rfl ?_
    refine aw_icmp_eq (tg := 12) (n := 6) dX6_setOfWholes_3 (by decide) rfl (fun c_3 => by exact absurd c_3 (by decide)) (fun c_3 => ?_)
    refine aw_iload_n (n := 7) dX6_setOfWholes_6 rfl rfl ?_
    refine aw_bipush (n := 9) (v := 7) dX6_setOfWholes_7 (by decide) rfl ?_
    refine aw_icmp_ne (tg := 18) (n := 12) dX6_setOfWholes_9 (by decide) rfl (fun c_9 => ?_) (fun c_9 => by exact absurd c_9 (by decide))
    refine aw_iload_n (n := 19) dX6_setOfWholes_18 rfl rfl ?_
    refine aw_tswIn (n := 62) (off := 43) dX6_setOfWholes_19 (by decide) (by decide) (by decide) (by decide) ?_
    refine aw_aload_n (n := 63) dX6_setOfWholes_62 rfl rfl ?_
    refine aw_iload_n (n := 64) dX6_setOfWholes_63 rfl rfl ?_
    refine aw_iload_n (n := 65) dX6_setOfWholes_64 rfl rfl ?_
    refine aw_isub (n := 66) dX6_setOfWholes_65 rfl ?_
    refine aw_v1 (d1 := d - 1) (n := 69) (Z := mX5_setWhole) (ci := 3) (L0 := [_, _]) dX6_setOfWholes_66 kX5_setWhole gX6_117 iyX5_setWhole eyX5_setWhole rfl rfl (by assumption) rfl (Nat.le_of_ble_eq_true rfl) rfl rfl (by omega) (Nat.le_of_ble_eq_true rfl) (t_setWhole ha' (fun M' h5 h6 => ?_))
    dsimp only [aPush]
    refine aw_goto (n := 116) dX6_setOfWholes_69 (by decide) ?_
    refine aw_iconst (n := 117) (v := 0) dX6_setOfWholes_116 (by decide) rfl ?_
    refine aw_iret dX6_setOfWholes_117 rfl ?_
    exact h2 _ rfl _ h5 (fun q q1 q2 => h6 q q1)
  · refine aw_iload_n (n := 1) dX6_setOfWholes_0 rfl rfl ?_
    refine aw_bipush (n := 3) (v := 6) dX6_setOfWholes_1 (by decide) rfl ?_
    refine aw_icmp_eq (tg := 12) (n := 6) dX6_setOfWholes_3 (by decide) rfl (fun c_3 => by exact absurd c_3 (by decide)) (fun c_3 => ?_)
    refine aw_iload_n (n := 7) dX6_setOfWholes_6 rfl rfl ?_
    refine aw_bipush (n := 9) (v := 7) dX6_setOfWholes_7 (by decide) rfl ?_
    refine aw_icmp_ne (tg := 18) (n := 12) dX6_setOfWholes_9 (by decide) rfl (fun c_9 => ?_) (fun c_9 => by exact absurd c_9 (by decide))
    refine aw_iload_n (n := 19) dX6_setOfWholes_18 rfl rfl ?_
    refine aw_tswIn (n := 72) (off := 53) dX6_setOfWholes_19 (by decide) (by decide) (by decide) (by decide) ?_
    refine aw_aload_n (n := 73) dX6_setOfWholes_72 rfl rfl ?_
    refine aw_iload_n (n := 74) dX6_setOfWholes_73 rfl rfl ?_
    refine aw_iload_n (n := 75) dX6_setOfWholes_74 rfl rfl ?_
    refine aw_imul (n := 76) dX6_setOfWholes_75 rfl ?_
    refine aw_v1 (d1 := d - 1) (n := 79) (Z := mX5_setWhole) (ci := 3) (L0 := [_, _]) dX6_setOfWholes_76 kX5_setWhole gX6_117 iyX5_setWhole eyX5_setWhole rfl rfl (by assumption) rfl (Nat.le_of_ble_eq_true rfl) rfl rfl (by omega) (Nat.le_of_ble_eq_true rfl) (t_setWhole ha' (fun M' h5 h6 => ?_))
    dsimp only [aPush]
    refine aw_goto (n := 116) dX6_setOfWholes_79 (by decide) ?_
    refine aw_iconst (n := 117) (v := 0) dX6_setOfWholes_116 (by decide) rfl ?_
    refine aw_iret dX6_setOfWholes_117 rfl ?_
    exact h2 _ rfl _ h5 (fun q q1 q2 => h6 q q1)
  · by_cases hy : y = 0
    · refine aw_iload_n (n := 1) dX6_setOfWholes_0 rfl rfl ?_
      refine aw_bipush (n := 3) (v := 6) dX6_setOfWholes_1 (by decide) rfl ?_
      refine aw_icmp_eq (tg := 12) (n := 6) dX6_setOfWholes_3 (by decide) rfl (fun c_3 => ?_) (fun c_3 => by exact absurd (by decide) c_3)
      refine aw_iload_n (n := 13) dX6_setOfWholes_12 rfl rfl ?_
      refine aw_if_ne (tg := 18) (n := 16) dX6_setOfWholes_13 (by decide) rfl (fun c_13 => by exact absurd hy c_13) (fun c_13 => ?_)
      refine aw_iconst (n := 17) (v := 5) dX6_setOfWholes_16 (by decide) rfl ?_
      refine aw_iret dX6_setOfWholes_17 rfl ?_
      exact h1 5 (if_pos hy)
    · refine aw_iload_n (n := 1) dX6_setOfWholes_0 rfl rfl ?_
      refine aw_bipush (n := 3) (v := 6) dX6_setOfWholes_1 (by decide) rfl ?_
      refine aw_icmp_eq (tg := 12) (n := 6) dX6_setOfWholes_3 (by decide) rfl (fun c_3 => ?_) (fun c_3 => by exact absurd (by decide) c_3)
      refine aw_iload_n (n := 13) dX6_setOfWholes_12 rfl rfl ?_
      refine aw_if_ne (tg := 18) (n := 16) dX6_setOfWholes_13 (by decide) rfl (fun c_13 => ?_) (fun c_13 => by exact absurd c_13 hy)
      refine aw_iload_n (n := 19) dX6_setOfWholes_18 rfl rfl ?_
      refine aw_tswIn (n := 82) (off := 63) dX6_setOfWholes_19 (by decide) (by decide) (by decide) (by decide) ?_
      refine aw_aload_n (n := 83) dX6_setOfWholes_82 rfl rfl ?_
      refine aw_iload_n (n := 84) dX6_setOfWholes_83 rfl rfl ?_
      refine aw_iload_n (n := 85) dX6_setOfWholes_84 rfl rfl ?_
      refine aw_idiv (n := 86) dX6_setOfWholes_85 (by first | assumption | decide) rfl ?_
      refine aw_v1 (d1 := d - 1) (n := 89) (Z := mX5_setWhole) (ci := 3) (L0 := [_, _]) dX6_setOfWholes_86 kX5_setWhole gX6_117 iyX5_setWhole eyX5_setWhole rfl rfl (by assumption) rfl (Nat.le_of_ble_eq_true rfl) rfl rfl (by omega) (Nat.le_of_ble_eq_true rfl) (t_setWhole ha' (fun M' h5 h6 => ?_))
      dsimp only [aPush]
      refine aw_goto (n := 116) dX6_setOfWholes_89 (by decide) ?_
      refine aw_iconst (n := 117) (v := 0) dX6_setOfWholes_116 (by decide) rfl ?_
      refine aw_iret dX6_setOfWholes_117 rfl ?_
      exact h2 _ (if_neg hy) _ h5 (fun q q1 q2 => h6 q q1)
  · by_cases hy : y = 0
    · refine aw_iload_n (n := 1) dX6_setOfWholes_0 rfl rfl ?_
      refine aw_bipush (n := 3) (v := 6) dX6_setOfWholes_1 (by decide) rfl ?_
      refine aw_icmp_eq (tg := 12) (n := 6) dX6_setOfWholes_3 (by decide) rfl (fun c_3 => by exact absurd c_3 (by decide)) (fun c_3 => ?_)
      refine aw_iload_n (n := 7) dX6_setOfWholes_6 rfl rfl ?_
      refine aw_bipush (n := 9) (v := 7) dX6_setOfWholes_7 (by decide) rfl ?_
      refine aw_icmp_ne (tg := 18) (n := 12) dX6_setOfWholes_9 (by decide) rfl (fun c_9 => by exact absurd (by decide) c_9) (fun c_9 => ?_)
      refine aw_iload_n (n := 13) dX6_setOfWholes_12 rfl rfl ?_
      refine aw_if_ne (tg := 18) (n := 16) dX6_setOfWholes_13 (by decide) rfl (fun c_13 => by exact absurd hy c_13) (fun c_13 => ?_)
      refine aw_iconst (n := 17) (v := 5) dX6_setOfWholes_16 (by decide) rfl ?_
      refine aw_iret dX6_setOfWholes_17 rfl ?_
      exact h1 5 (if_pos hy)
    · refine aw_iload_n (n := 1) dX6_setOfWholes_0 rfl rfl ?_
      refine aw_bipush (n := 3) (v := 6) dX6_setOfWholes_1 (by decide) rfl ?_
      refine aw_icmp_eq (tg := 12) (n := 6) dX6_setOfWholes_3 (by decide) rfl (fun c_3 => by exact absurd c_3 (by decide)) (fun c_3 => ?_)
      refine aw_iload_n (n := 7) dX6_setOfWholes_6 rfl rfl ?_
      refine aw_bipush (n := 9) (v := 7) dX6_setOfWholes_7 (by decide) rfl ?_
      refine aw_icmp_ne (tg := 18) (n := 12) dX6_setOfWholes_9 (by decide) rfl (fun c_9 => by exact absurd (by decide) c_9) (fun c_9 => ?_)
      refine aw_iload_n (n := 13) dX6_setOfWholes_12 rfl rfl ?_
      refine aw_if_ne (tg := 18) (n := 16) dX6_setOfWholes_13 (by decide) rfl (fun c_13 => ?_) (fun c_13 => by exact absurd c_13 hy)
      refine aw_iload_n (n := 19) dX6_setOfWholes_18 rfl rfl ?_
      refine aw_tswIn (n := 92) (off := 73) dX6_setOfWholes_19 (by decide) (by decide) (by decide) (by decide) ?_
      refine aw_aload_n (n := 93) dX6_setOfWholes_92 rfl rfl ?_
      refine aw_iload_n (n := 94) dX6_setOfWholes_93 rfl rfl ?_
      refine aw_iload_n (n := 95) dX6_setOfWholes_94 rfl rfl ?_
      refine aw_irem (n := 96) dX6_setOfWholes_95 (by first | assumption | decide) rfl ?_
      refine aw_v1 (d1 := d - 1) (n := 99) (Z := mX5_setWhole) (ci := 3) (L0 := [_, _]) dX6_setOfWholes_96 kX5_setWhole gX6_117 iyX5_setWhole eyX5_setWhole rfl rfl (by assumption) rfl (Nat.le_of_ble_eq_true rfl) rfl rfl (by omega) (Nat.le_of_ble_eq_true rfl) (t_setWhole ha' (fun M' h5 h6 => ?_))
      dsimp only [aPush]
      refine aw_goto (n := 116) dX6_setOfWholes_99 (by decide) ?_
      refine aw_iconst (n := 117) (v := 0) dX6_setOfWholes_116 (by decide) rfl ?_
      refine aw_iret dX6_setOfWholes_117 rfl ?_
      exact h2 _ (if_neg hy) _ h5 (fun q q1 q2 => h6 q q1)
  · refine aw_iload_n (n := 1) dX6_setOfWholes_0 rfl rfl ?_
    refine aw_bipush (n := 3) (v := 6) dX6_setOfWholes_1 (by decide) rfl ?_
    refine aw_icmp_eq (tg := 12) (n := 6) dX6_setOfWholes_3 (by decide) rfl (fun c_3 => by exact absurd c_3 (by decide)) (fun c_3 => ?_)
    refine aw_iload_n (n := 7) dX6_setOfWholes_6 rfl rfl ?_
    refine aw_bipush (n := 9) (v := 7) dX6_setOfWholes_7 (by decide) rfl ?_
    refine aw_icmp_ne (tg := 18) (n := 12) dX6_setOfWholes_9 (by decide) rfl (fun c_9 => ?_) (fun c_9 => by exact absurd c_9 (by decide))
    refine aw_iload_n (n := 19) dX6_setOfWholes_18 rfl rfl ?_
    refine aw_tswOut (n := 102) dX6_setOfWholes_19 (by decide) (by decide) ?_
    refine aw_aload_n (n := 103) dX6_setOfWholes_102 rfl rfl ?_
    refine aw_iload_n (n := 104) dX6_setOfWholes_103 rfl rfl ?_
    refine aw_iload_n (n := 105) dX6_setOfWholes_104 rfl rfl ?_
    refine aw_icmp_ge (tg := 112) (n := 108) dX6_setOfWholes_105 (by decide) rfl (fun c_105 => ?_) (fun c_105 => ?_)
    · refine aw_iconst (n := 113) (v := 0) dX6_setOfWholes_112 (by decide) rfl ?_
      refine aw_s2 (d1 := d - 1) (n := 116) (Z := mX6_setTruth) (L0 := [_, _]) dX6_setOfWholes_113 kX6_setTruth gX6_94 syX6_setTruth rfl rfl (Nat.le_of_ble_eq_true rfl) rfl rfl (by omega) (Nat.le_of_ble_eq_true rfl) (t_truth (by omega) ha' (fun M' h5 h6 => ?_))
      dsimp only [aPush]
      refine aw_iconst (n := 117) (v := 0) dX6_setOfWholes_116 (by decide) rfl ?_
      refine aw_iret dX6_setOfWholes_117 rfl ?_
      first
        | exact h2 (some (.inl 0)) (show tru (decide (x < y)) = _ by rw [show decide (x < y) = false from decide_eq_false (i_nlt.mpr c_105)]; rfl) _ h5 (fun q q1 q2 => h6 q q1)
        | exact h2 (some (.inl 1)) (show tru (decide (x < y)) = _ by rw [show decide (x < y) = true from decide_eq_true (i_nle.mp c_105)]; rfl) _ h5 (fun q q1 q2 => h6 q q1)
    · refine aw_iconst (n := 109) (v := 1) dX6_setOfWholes_108 (by decide) rfl ?_
      refine aw_goto (n := 113) dX6_setOfWholes_109 (by decide) ?_
      refine aw_s2 (d1 := d - 1) (n := 116) (Z := mX6_setTruth) (L0 := [_, _]) dX6_setOfWholes_113 kX6_setTruth gX6_94 syX6_setTruth rfl rfl (Nat.le_of_ble_eq_true rfl) rfl rfl (by omega) (Nat.le_of_ble_eq_true rfl) (t_truth (by omega) ha' (fun M' h5 h6 => ?_))
      dsimp only [aPush]
      refine aw_iconst (n := 117) (v := 0) dX6_setOfWholes_116 (by decide) rfl ?_
      refine aw_iret dX6_setOfWholes_117 rfl ?_
      first
        | exact h2 (some (.inl 0)) (show tru (decide (x < y)) = _ by rw [show decide (x < y) = false from decide_eq_false (i_nlt.mpr c_105)]; rfl) _ h5 (fun q q1 q2 => h6 q q1)
        | exact h2 (some (.inl 1)) (show tru (decide (x < y)) = _ by rw [show decide (x < y) = true from decide_eq_true (i_nle.mp c_105)]; rfl) _ h5 (fun q q1 q2 => h6 q q1)
end OPS2
