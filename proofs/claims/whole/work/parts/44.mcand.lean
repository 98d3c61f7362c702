theorem tyV_bc (v : vV) (j : Nat) : tyV (bc v j) = tyV v := by
  rcases v with _ | x | r
  · rfl
  · rfl
  · show tyV (if j < r.length then _ else _) = 1
    split <;> rfl
theorem tyV_cand {inp inp' : Nat → vV} {j i : Nat} (h : cand inp j = some inp') : tyV (inp' i) = tyV (inp i) := by
  have key : ∀ a lf, tyV (upN inp a (bc (inp a) lf) i) = tyV (inp i) := by
    intro a lf
    unfold upN
    split
    · rename_i e; rw [tyV_bc, e]
    · rfl
  unfold cand at h
  split at h
  · rw [← Option.some.inj h]; exact key _ _
  split at h
  · rw [← Option.some.inj h]; exact key _ _
  split at h
  · rw [← Option.some.inj h]; exact key _ _
  · cases h
section MCAND
variable {l : Launch} {K : aK} {d : Nat} {M : aM} {Q : Option Value → aE → aM → Prop}
theorem m_less {x : Int32} {w : Nat} (hw : w < 3) (hQ : Q (some (.int (near x w))) EE M) : aw l K mX8_less d 0 0 0 [.int x, .int (nI w)] [] EE M Q := by
  rcases (show w = 0 ∨ w = 1 ∨ w = 2 by omega) with rfl | rfl | rfl
  · refine aw_iload_n (n := 1) dX8_less_0 rfl rfl ?_
    refine aw_if_ne (tg := 8) (n := 4) dX8_less_1 (by decide) rfl (fun c_1 => by first | exact absurd rfl c_1 | exact absurd c_1 (by decide)) (fun _ => ?_)
    refine aw_iconst (n := 5) (v := 0) dX8_less_4 (by decide) rfl ?_
    refine aw_goto (n := 32) dX8_less_5 (by decide) ?_
    refine aw_iret dX8_less_32 rfl ?_
    exact hQ
  · refine aw_iload_n (n := 1) dX8_less_0 rfl rfl ?_
    refine aw_if_ne (tg := 8) (n := 4) dX8_less_1 (by decide) rfl (fun _ => ?_) (fun c_1 => by first | exact absurd rfl c_1 | exact absurd c_1 (by decide))
    refine aw_iload_n (n := 9) dX8_less_8 rfl rfl ?_
    refine aw_iconst (n := 10) (v := 1) dX8_less_9 (by decide) rfl ?_
    refine aw_icmp_ne (tg := 19) (n := 13) dX8_less_10 (by decide) rfl (fun c_10 => by first | exact absurd rfl c_10 | exact absurd c_10 (by decide)) (fun _ => ?_)
    refine aw_iload_n (n := 14) dX8_less_13 rfl rfl ?_
    refine aw_iconst (n := 15) (v := 2) dX8_less_14 (by decide) rfl ?_
    refine aw_idiv (n := 16) dX8_less_15 (by first | assumption | decide) rfl ?_
    refine aw_goto (n := 32) dX8_less_16 (by decide) ?_
    refine aw_iret dX8_less_32 rfl ?_
    exact hQ
  · have hn : near x 2 = if 0 < x then x - 1 else x + 1 := rfl
    rw [hn] at hQ
    refine aw_iload_n (n := 1) dX8_less_0 rfl rfl ?_
    refine aw_if_ne (tg := 8) (n := 4) dX8_less_1 (by decide) rfl (fun _ => ?_) (fun c_1 => by first | exact absurd rfl c_1 | exact absurd c_1 (by decide))
    refine aw_iload_n (n := 9) dX8_less_8 rfl rfl ?_
    refine aw_iconst (n := 10) (v := 1) dX8_less_9 (by decide) rfl ?_
    refine aw_icmp_ne (tg := 19) (n := 13) dX8_less_10 (by decide) rfl (fun _ => ?_) (fun c_10 => by first | exact absurd rfl c_10 | exact absurd c_10 (by decide))
    refine aw_iload_n (n := 20) dX8_less_19 rfl rfl ?_
    refine aw_if_le (tg := 29) (n := 23) dX8_less_20 (by decide) rfl (fun c_20 => ?_) (fun c_20 => ?_)
    · refine aw_iload_n (n := 30) dX8_less_29 rfl rfl ?_
      refine aw_iconst (n := 31) (v := 1) dX8_less_30 (by decide) rfl ?_
      refine aw_iadd (n := 32) dX8_less_31 rfl ?_
      refine aw_iret dX8_less_32 rfl ?_
      first
        | (rw [if_pos (i_nle.mp c_20)] at hQ; exact hQ)
        | (rw [if_neg (i_nlt.mpr c_20)] at hQ; exact hQ)
    · refine aw_iload_n (n := 24) dX8_less_23 rfl rfl ?_
      refine aw_iconst (n := 25) (v := 1) dX8_less_24 (by decide) rfl ?_
      refine aw_isub (n := 26) dX8_less_25 rfl ?_
      refine aw_goto (n := 32) dX8_less_26 (by decide) ?_
      refine aw_iret dX8_less_32 rfl ?_
      first
        | (rw [if_pos (i_nle.mp c_20)] at hQ; exact hQ)
        | (rw [if_neg (i_nlt.mpr c_20)] at hQ; exact hQ)
theorem m_without {i g : Nat} {r : List Int32} (hi : i < 3) (h16 : r.length ≤ 16) (h188 : M 188 i = nI r.length) (h189 : ∀ j, j < r.length → M 189 (16 * i + j) = r.getD j 0) (h172 : ∀ j, j < r.length → M 172 (16 * i + j) = r.getD j 0) (hg : g < r.length)
    (hQ : ∀ M', kI 171 172 (some (.inr (r.eraseIdx g))) i M' → (∀ j, j ≠ i → M' 171 j = M 171 j) → (∀ j, j < 16 * i ∨ 16 * i + 16 ≤ j → M' 172 j = M 172 j) → (∀ q, q ≠ 171 → q ≠ 172 → M' q = M q) → Q none EE M') : aw l K mX8_without d 0 0 0 [.ref 164, .int (nI i), .int (nI g), .null] [] EE M Q := by
  have hini : vp_in (nI i) 3 := vp_in_nI hi (by decide)
  have hii : (nI i).toNatClampNeg = i := nI_clamp (by omega)
  have hsub : nI r.length - 1 = nI (r.length - 1) := pk_sub (a := r.length) (b := 1) (by omega)
  have loop : ∀ (m k : Nat) (Mk : aM), m + k + 1 = r.length → g ≤ k → (∀ q, q ≠ 172 → Mk q = M q) → (∀ j, j < 16 * i ∨ 16 * i + 16 ≤ j → Mk 172 j = M 172 j) → (∀ j, j < r.length → Mk 172 (16 * i + j) = if j < g then r.getD j 0 else if j < k then r.getD (j + 1) 0 else r.getD j 0) → aw l K mX8_without d 0 0 2 [.ref 164, .int (nI i), .int (nI g), .int (nI k)] [] EE Mk Q := by
    intro m
    induction m with
    | zero =>
      intro k Mk hk hgk hf ho h4
      have h2k : Mk 188 i = nI r.length := by rw [hf 188 (by decide)]; exact h188
      refine aw_iload_n (n := 3) dX8_without_2 rfl rfl ?_
      refine aw_iconst (n := 4) (v := 1) dX8_without_3 (by decide) rfl ?_
      refine aw_iadd (n := 5) dX8_without_4 rfl ?_
      rw [nI_1]
      refine aw_aload_n (n := 6) dX8_without_5 rfl rfl ?_
      refine aw_getr (n := 9) dX8_without_6 fX8_83 E_164 rfl rfl ?_
      refine aw_iload_n (n := 10) dX8_without_9 rfl rfl ?_
      refine aw_iald (n := 11) dX8_without_10 E_188 (by assumption) rfl ?_
      rw [hii, h2k]
      refine aw_icmp_ge (tg := 44) (n := 14) dX8_without_11 (by decide) rfl (fun c_11 => ?_) (fun c_11 => by exact absurd (nI_le (by omega) (by omega)) c_11)
      refine aw_aload_n (n := 45) dX8_without_44 rfl rfl ?_
      refine aw_getr (n := 48) dX8_without_45 fX8_28 E_164 rfl rfl ?_
      refine aw_iload_n (n := 49) dX8_without_48 rfl rfl ?_
      refine aw_aload_n (n := 50) dX8_without_49 rfl rfl ?_
      refine aw_getr (n := 53) dX8_without_50 fX8_83 E_164 rfl rfl ?_
      refine aw_iload_n (n := 54) dX8_without_53 rfl rfl ?_
      refine aw_iald (n := 55) dX8_without_54 E_188 (by assumption) rfl ?_
      rw [hii, h2k]
      refine aw_iconst (n := 56) (v := 1) dX8_without_55 (by decide) rfl ?_
      refine aw_isub (n := 57) dX8_without_56 rfl ?_
      rw [hsub]
      refine aw_iast (n := 58) dX8_without_57 E_171 (by assumption) rfl ?_
      refine aw_vret dX8_without_58 rfl ?_
      rw [hii]
      refine hQ _ ⟨?_, ?_, fun j hj => ?_⟩ (fun j hj => ?_) (fun j hj => ?_) (fun q a b => ?_)
      · rw [List.length_eraseIdx]; split <;> omega
      · rw [up2_s, List.length_eraseIdx, if_pos hg]
      · rw [List.length_eraseIdx, if_pos hg] at hj
        rw [up2_a _ _ (by decide), h4 j (by omega), getD_erase, if_pos (show j < k by omega)]
      · rw [up2_k _ _ hj, hf 171 (by decide)]
      · rw [up2_a _ _ (by decide)]; exact ho j hj
      · rw [up2_ra _ _ a, hf q b]
    | succ m ih =>
      intro k Mk hk hgk hf ho h4
      have h2k : Mk 188 i = nI r.length := by rw [hf 188 (by decide)]; exact h188
      have hin : vp_in (nI (16 * i + k)) 48 := vp_in_nI (by omega) (by decide)
      have hin1 : vp_in (nI (16 * i + k + 1)) 48 := vp_in_nI (by omega) (by decide)
      have hkk : (nI (16 * i + k)).toNatClampNeg = 16 * i + k := nI_clamp (by omega)
      have hk1 : (nI (16 * i + k + 1)).toNatClampNeg = 16 * i + k + 1 := nI_clamp (by omega)
      have ek : (16 : Int32) * nI i + nI k = nI (16 * i + k) := by rw [show (16 : Int32) = nI 16 from rfl, pk_mul, nI_add]
      have hv : Mk 189 (16 * i + k + 1) = r.getD (k + 1) 0 := by rw [hf 189 (by decide)]; exact h189 (k + 1) (by omega)
      refine aw_iload_n (n := 3) dX8_without_2 rfl rfl ?_
      refine aw_iconst (n := 4) (v := 1) dX8_without_3 (by decide) rfl ?_
      refine aw_iadd (n := 5) dX8_without_4 rfl ?_
      rw [nI_1]
      refine aw_aload_n (n := 6) dX8_without_5 rfl rfl ?_
      refine aw_getr (n := 9) dX8_without_6 fX8_83 E_164 rfl rfl ?_
      refine aw_iload_n (n := 10) dX8_without_9 rfl rfl ?_
      refine aw_iald (n := 11) dX8_without_10 E_188 (by assumption) rfl ?_
      rw [hii, h2k]
      refine aw_icmp_ge (tg := 44) (n := 14) dX8_without_11 (by decide) rfl (fun c_11 => by exact absurd c_11 (nI_ge (by omega) (by omega))) (fun c_11 => ?_)
      refine aw_aload_n (n := 15) dX8_without_14 rfl rfl ?_
      refine aw_getr (n := 18) dX8_without_15 fX8_31 E_164 rfl rfl ?_
      refine aw_bipush (n := 20) (v := 16) dX8_without_18 (by decide) rfl ?_
      refine aw_iload_n (n := 21) dX8_without_20 rfl rfl ?_
      refine aw_imul (n := 22) dX8_without_21 rfl ?_
      refine aw_iload_n (n := 23) dX8_without_22 rfl rfl ?_
      refine aw_iadd (n := 24) dX8_without_23 rfl ?_
      rw [ek]
      refine aw_aload_n (n := 25) dX8_without_24 rfl rfl ?_
      refine aw_getr (n := 28) dX8_without_25 fX8_86 E_164 rfl rfl ?_
      refine aw_bipush (n := 30) (v := 16) dX8_without_28 (by decide) rfl ?_
      refine aw_iload_n (n := 31) dX8_without_30 rfl rfl ?_
      refine aw_imul (n := 32) dX8_without_31 rfl ?_
      refine aw_iload_n (n := 33) dX8_without_32 rfl rfl ?_
      refine aw_iadd (n := 34) dX8_without_33 rfl ?_
      rw [ek]
      refine aw_iconst (n := 35) (v := 1) dX8_without_34 (by decide) rfl ?_
      refine aw_iadd (n := 36) dX8_without_35 rfl ?_
      rw [nI_1]
      refine aw_iald (n := 37) dX8_without_36 E_189 (by assumption) rfl ?_
      rw [hk1, hv]
      refine aw_iast (n := 38) dX8_without_37 E_172 (by assumption) rfl ?_
      refine aw_incp (n := 41) (L' := [_, _, _, _]) dX8_without_38 rfl rfl rfl ?_
      refine aw_goto (n := 2) dX8_without_41 (by decide) ?_
      rw [hkk, nI_1]
      refine ih (k + 1) _ (by omega) (by omega) (fun q hq => by rw [up2_ra _ _ hq, hf q hq]) (fun j hj => by rw [up2_k _ _ (by omega)]; exact ho j hj) (fun j hj => ?_)
      by_cases hjk : j = k
      · subst hjk
        rw [up2_s, if_neg (by omega), if_pos (by omega)]
      · rw [up2_k _ _ (by omega), h4 j hj]
        by_cases h5 : j < g
        · rw [if_pos h5, if_pos h5]
        · rw [if_neg h5, if_neg h5]
          by_cases h6 : j < k
          · rw [if_pos h6, if_pos (by omega)]
          · rw [if_neg h6, if_neg (by omega)]
  refine aw_iload_n (n := 1) dX8_without_0 rfl rfl ?_
  refine aw_istore_n (n := 2) (L' := [_, _, _, _]) dX8_without_1 (Nat.le_of_ble_eq_true rfl) rfl rfl ?_
  refine loop (r.length - 1 - g) g _ (by omega) (Nat.le_refl _) (fun _ _ => rfl) (fun _ _ => rfl) (fun j hj => ?_)
  rw [h172 j hj]
  by_cases h5 : j < g
  · rw [if_pos h5]
  · rw [if_neg h5, if_neg h5]
theorem m_candidate {inp : Nat → vV} {j : Nat} (hd : 2 ≤ d) (hj : j < 1000) (hc : ∀ i, i < 3 → M 187 i = tyV (inp i) ∧ kI 188 189 (inp i) i M)
    (h0 : cand inp j = none → ∀ M', (∀ q, q ≠ 171 → q ≠ 172 → M' q = M q) → Q (some (.int 0)) EE M')
    (h1 : ∀ inp' M', cand inp j = some inp' → (∀ i, i < 3 → kI 171 172 (inp' i) i M') → (∀ q, q ≠ 171 → q ≠ 172 → M' q = M q) → Q (some (.int 1)) EE M') : aw l K mX8_candidate d 0 0 0 [.ref 164, .int (nI j), .null, .null, .null, .null] [] EE M Q := by
  have s3 : ∀ (Mk : aM) x1 x2 x4 x5, cand inp j = none → (∀ q, q ≠ 171 → q ≠ 172 → Mk q = M q) → aw l K mX8_candidate d 0 0 4 [.ref 164, x1, x2, .int (nI 3), x4, x5] [] EE Mk Q := by
    intro Mk x1 x2 x4 x5 hn hf
    refine aw_iload_n (n := 5) dX8_candidate_4 rfl rfl ?_
    refine aw_iconst (n := 6) (v := 3) dX8_candidate_5 (by decide) rfl ?_
    refine aw_icmp_ge (tg := 180) (n := 9) dX8_candidate_6 (by decide) rfl (fun c_6 => ?_) (fun c_6 => by exact absurd (by decide) c_6)
    refine aw_iconst (n := 181) (v := 0) dX8_candidate_180 (by decide) rfl ?_
    refine aw_zret dX8_candidate_181 rfl (by first | exact Or.inl rfl | exact Or.inr rfl | assumption) ?_
    exact h0 hn Mk hf
  have put : ∀ (Mk M2 : aM) (i lf : Nat), i < 3 → cand inp j = some (upN inp i (bc (inp i) lf)) → (∀ i, i < 3 → kI 171 172 (inp i) i Mk) → (∀ q, q ≠ 171 → q ≠ 172 → Mk q = M q) → kI 171 172 (bc (inp i) lf) i M2 → (∀ j, j ≠ i → M2 171 j = Mk 171 j) → (∀ j, j < 16 * i ∨ 16 * i + 16 ≤ j → M2 172 j = Mk 172 j) → (∀ q, q ≠ 171 → q ≠ 172 → M2 q = Mk q) → Q (some (.int 1)) EE M2 := by
    intro Mk M2 i lf hi hcd hk hf g1 g2 g3 g4
    refine h1 _ M2 hcd (fun q hq => ?_) (fun q a b => (g4 q a b).trans (hf q a b))
    unfold upN
    by_cases hqi : q = i
    · rw [if_pos hqi, hqi]; exact g1
    · rw [if_neg hqi]; exact kI_same (hk q hq) (g2 q hqi) (fun jj hjj => g3 _ (by omega))
  have sg : ∀ (Mk : aM) i lf x1 x4 x5, i < 3 → lf < 1000 → (∀ q, q ≠ 171 → q ≠ 172 → Mk q = M q) → (lf < cc (inp i) → cand inp j = some (upN inp i (bc (inp i) lf))) → (¬ lf < cc (inp i) → ∀ (M' : aM) x4 x5, (∀ q, q ≠ 171 → q ≠ 172 → M' q = M q) → aw l K mX8_candidate d 0 0 4 [.ref 164, x1, .int (nI (lf - cc (inp i))), .int (nI (i + 1)), x4, x5] [] EE M' Q) → aw l K mX8_candidate d 0 0 4 [.ref 164, x1, .int (nI lf), .int (nI i), x4, x5] [] EE Mk Q := by
    intro Mk i lf x1 x4 x5 hi hlf hf ha hb
    have hini : vp_in (nI i) 3 := vp_in_nI hi (by decide)
    have hii : (nI i).toNatClampNeg = i := nI_clamp (by omega)
    refine aw_iload_n (n := 5) dX8_candidate_4 rfl rfl ?_
    refine aw_iconst (n := 6) (v := 3) dX8_candidate_5 (by decide) rfl ?_
    refine aw_icmp_ge (tg := 180) (n := 9) dX8_candidate_6 (by decide) rfl (fun c_6 => by exact absurd c_6 (nI_ge (b := 3) hi (by decide))) (fun c_6 => ?_)
    refine aw_aload_n (n := 10) dX8_candidate_9 rfl rfl ?_
    refine aw_v0 (d1 := d - 1) (n := 13) (Z := mX8_takeCounter) (ci := 6) (L0 := [_, .null]) dX8_candidate_10 kX8_takeCounter gX8_246 iyX8_takeCounter eyX8_takeCounter rfl rfl E_164 (Nat.le_of_ble_eq_true rfl) rfl rfl (by omega) (Nat.le_of_ble_eq_true rfl) (m_take (fun M1 f1 f2 f3 => ?_))
    dsimp only [aPush]
    have hf1 : ∀ q, q ≠ 171 → q ≠ 172 → M1 q = M q := fun q a b => (f3 q a b).trans (hf q a b)
    have hk1 : ∀ i, i < 3 → kI 171 172 (inp i) i M1 := fun i hi => kI_same (hc i hi).2 (by rw [f1 i hi, hf 188 (by decide) (by decide)]) (fun jj hjj => by rw [f2 _ (by omega), hf 189 (by decide) (by decide)])
    have ht : M1 187 i = tyV (inp i) := by rw [hf1 187 (by decide) (by decide)]; exact (hc i hi).1
    have hkc : kI 188 189 (inp i) i M1 := kI_same (hc i hi).2 (by rw [hf1 188 (by decide) (by decide)]) (fun jj hjj => by rw [hf1 189 (by decide) (by decide)])
    have hki := hk1 i hi
    have hput := fun M2 lf' h => put M1 M2 i lf' hi h hk1 hf1
    rcases hv : inp i with _ | x | r
    · rw [hv] at ht ha hb hkc
      have ht : M1 187 i = -1 := ht
      refine aw_aload_n (n := 14) dX8_candidate_13 rfl rfl ?_
      refine aw_getr (n := 17) dX8_candidate_14 fX8_80 E_164 rfl rfl ?_
      refine aw_iload_n (n := 18) dX8_candidate_17 rfl rfl ?_
      refine aw_iald (n := 19) dX8_candidate_18 E_187 (by assumption) rfl ?_
      rw [hii, ht]
      refine aw_if_ne (tg := 60) (n := 22) dX8_candidate_19 (by decide) rfl (fun _ => ?_) (fun c_19 => by first | exact absurd rfl c_19 | exact absurd c_19 (by decide))
      refine aw_aload_n (n := 61) dX8_candidate_60 rfl rfl ?_
      refine aw_getr (n := 64) dX8_candidate_61 fX8_80 E_164 rfl rfl ?_
      refine aw_iload_n (n := 65) dX8_candidate_64 rfl rfl ?_
      refine aw_iald (n := 66) dX8_candidate_65 E_187 (by assumption) rfl ?_
      rw [hii, ht]
      refine aw_iconst (n := 67) (v := 1) dX8_candidate_66 (by decide) rfl ?_
      refine aw_icmp_ne (tg := 174) (n := 70) dX8_candidate_67 (by decide) rfl (fun _ => ?_) (fun c_67 => by first | exact absurd rfl c_67 | exact absurd c_67 (by decide))
      refine aw_incp (n := 177) (L' := [_, _, _, _, _, _]) dX8_candidate_174 rfl rfl rfl ?_
      refine aw_goto (n := 4) dX8_candidate_177 (by decide) ?_
      rw [nI_1]
      exact hb (by show ¬ lf < 0; omega) M1 _ _ hf1
    · rw [hv] at ht ha hb hkc hput
      have ht : M1 187 i = 0 := ht
      have hx : M1 188 i = x := hkc
      by_cases hx0 : x = 0
      · have hcc : cc (some (.inl x)) = 0 := if_pos hx0
        rw [hcc] at hb
        refine aw_aload_n (n := 14) dX8_candidate_13 rfl rfl ?_
        refine aw_getr (n := 17) dX8_candidate_14 fX8_80 E_164 rfl rfl ?_
        refine aw_iload_n (n := 18) dX8_candidate_17 rfl rfl ?_
        refine aw_iald (n := 19) dX8_candidate_18 E_187 (by assumption) rfl ?_
        rw [hii, ht]
        refine aw_if_ne (tg := 60) (n := 22) dX8_candidate_19 (by decide) rfl (fun c_19 => by first | exact absurd rfl c_19 | exact absurd c_19 (by decide)) (fun _ => ?_)
        refine aw_aload_n (n := 23) dX8_candidate_22 rfl rfl ?_
        refine aw_getr (n := 26) dX8_candidate_23 fX8_83 E_164 rfl rfl ?_
        refine aw_iload_n (n := 27) dX8_candidate_26 rfl rfl ?_
        refine aw_iald (n := 28) dX8_candidate_27 E_188 (by assumption) rfl ?_
        rw [hii, hx]
        refine aw_if_eq (tg := 60) (n := 31) dX8_candidate_28 (by decide) rfl (fun c_28 => ?_) (fun c_28 => by exact absurd hx0 c_28)
        refine aw_aload_n (n := 61) dX8_candidate_60 rfl rfl ?_
        refine aw_getr (n := 64) dX8_candidate_61 fX8_80 E_164 rfl rfl ?_
        refine aw_iload_n (n := 65) dX8_candidate_64 rfl rfl ?_
        refine aw_iald (n := 66) dX8_candidate_65 E_187 (by assumption) rfl ?_
        rw [hii, ht]
        refine aw_iconst (n := 67) (v := 1) dX8_candidate_66 (by decide) rfl ?_
        refine aw_icmp_ne (tg := 174) (n := 70) dX8_candidate_67 (by decide) rfl (fun _ => ?_) (fun c_67 => by first | exact absurd rfl c_67 | exact absurd c_67 (by decide))
        refine aw_incp (n := 177) (L' := [_, _, _, _, _, _]) dX8_candidate_174 rfl rfl rfl ?_
        refine aw_goto (n := 4) dX8_candidate_177 (by decide) ?_
        rw [nI_1]
        exact hb (by omega) M1 _ _ hf1
      · have hcc : cc (some (.inl x)) = 3 := if_neg hx0
        rw [hcc] at hb ha
        refine aw_aload_n (n := 14) dX8_candidate_13 rfl rfl ?_
        refine aw_getr (n := 17) dX8_candidate_14 fX8_80 E_164 rfl rfl ?_
        refine aw_iload_n (n := 18) dX8_candidate_17 rfl rfl ?_
        refine aw_iald (n := 19) dX8_candidate_18 E_187 (by assumption) rfl ?_
        rw [hii, ht]
        refine aw_if_ne (tg := 60) (n := 22) dX8_candidate_19 (by decide) rfl (fun c_19 => by first | exact absurd rfl c_19 | exact absurd c_19 (by decide)) (fun _ => ?_)
        refine aw_aload_n (n := 23) dX8_candidate_22 rfl rfl ?_
        refine aw_getr (n := 26) dX8_candidate_23 fX8_83 E_164 rfl rfl ?_
        refine aw_iload_n (n := 27) dX8_candidate_26 rfl rfl ?_
        refine aw_iald (n := 28) dX8_candidate_27 E_188 (by assumption) rfl ?_
        rw [hii, hx]
        refine aw_if_eq (tg := 60) (n := 31) dX8_candidate_28 (by decide) rfl (fun c_28 => by exact absurd c_28 hx0) (fun c_28 => ?_)
        refine aw_iload_n (n := 32) dX8_candidate_31 rfl rfl ?_
        refine aw_iconst (n := 33) (v := 3) dX8_candidate_32 (by decide) rfl ?_
        refine aw_icmp_ge (tg := 54) (n := 36) dX8_candidate_33 (by decide) rfl (fun c_33 => ?_) (fun c_33 => ?_)
        · refine aw_iinc (n := 57) (v := _ + (-3)) (L' := [_, _, _, _, _, _]) dX8_candidate_54 rfl rfl rfl rfl ?_
          refine aw_goto (n := 174) dX8_candidate_57 (by decide) ?_
          refine aw_incp (n := 177) (L' := [_, _, _, _, _, _]) dX8_candidate_174 rfl rfl rfl ?_
          refine aw_goto (n := 4) dX8_candidate_177 (by decide) ?_
          have hl3 : 3 ≤ lf := (nI_leI (a := 3) (by omega) (by omega)).mp c_33
          rw [nI_1, nI_m3 hl3]
          exact hb (by omega) M1 _ _ hf1
        · refine aw_aload_n (n := 37) dX8_candidate_36 rfl rfl ?_
          refine aw_getr (n := 40) dX8_candidate_37 fX8_28 E_164 rfl rfl ?_
          refine aw_iload_n (n := 41) dX8_candidate_40 rfl rfl ?_
          refine aw_aload_n (n := 42) dX8_candidate_41 rfl rfl ?_
          refine aw_getr (n := 45) dX8_candidate_42 fX8_83 E_164 rfl rfl ?_
          refine aw_iload_n (n := 46) dX8_candidate_45 rfl rfl ?_
          refine aw_iald (n := 47) dX8_candidate_46 E_188 (by assumption) rfl ?_
          rw [hii, hx]
          refine aw_iload_n (n := 48) dX8_candidate_47 rfl rfl ?_
          refine aw_s2 (d1 := d - 1) (n := 51) (Z := mX8_less) (L0 := [_, _]) dX8_candidate_48 kX8_less gX8_249 syX8_less rfl rfl (Nat.le_of_ble_eq_true rfl) rfl rfl (by omega) (Nat.le_of_ble_eq_true rfl) (m_less (by exact (nI_ltI (b := 3) (by omega) (by omega)).mp (i_nle.mp c_33)) ?_)
          dsimp only [aPush]
          refine aw_iast (n := 52) dX8_candidate_51 E_171 (by assumption) rfl ?_
          refine aw_iconst (n := 53) (v := 1) dX8_candidate_52 (by decide) rfl ?_
          refine aw_zret dX8_candidate_53 rfl (by first | exact Or.inl rfl | exact Or.inr rfl | assumption) ?_
          have hl3 : lf < 3 := (nI_ltI (b := 3) (by omega) (by omega)).mp (i_nle.mp c_33)
          rw [hii]
          exact hput _ lf (ha hl3) (up2_s _ _ _ _) (fun j hj => up2_k _ _ hj) (fun j hj => up2_a _ _ (by decide)) (fun q a b => up2_ra _ _ a)
    · rw [hv] at ht ha hb hkc hput hki
      have ht : M1 187 i = 1 := ht
      obtain ⟨c16, c188, c189⟩ := hkc
      obtain ⟨-, c171, c172⟩ := hki
      have hcc : cc (some (.inr r)) = r.length + nz r := rfl
      rw [hcc] at ha hb
      have hnz := nz_le r
      have loop : ∀ m k lf2 x5, m + k = r.length → ¬ lf < r.length → shr r (lf - r.length) = r.take k ++ shr (r.drop k) lf2 → lf2 ≤ lf → (lf - r.length < nz r ↔ lf2 < nz (r.drop k)) → lf - r.length - nz r = lf2 - nz (r.drop k) → aw l K mX8_candidate d 0 0 100 [.ref 164, x1, .int (nI lf2), .int (nI i), .int (nI k), x5] [] EE M1 Q := by
        intro m
        induction m with
        | zero =>
          intro k lf2 x5 hk hl h4 h5 h6 h7
          rw [List.drop_of_length_le (by omega)] at h6 h7
          have e0 : nz [] = 0 := rfl
          rw [e0] at h6 h7
          refine aw_iload (n := 102) dX8_candidate_100 rfl rfl ?_
          refine aw_aload_n (n := 103) dX8_candidate_102 rfl rfl ?_
          refine aw_getr (n := 106) dX8_candidate_103 fX8_83 E_164 rfl rfl ?_
          refine aw_iload_n (n := 107) dX8_candidate_106 rfl rfl ?_
          refine aw_iald (n := 108) dX8_candidate_107 E_188 (by assumption) rfl ?_
          rw [hii, c188]
          refine aw_icmp_ge (tg := 174) (n := 111) dX8_candidate_108 (by decide) rfl (fun c_108 => ?_) (fun c_108 => by exact absurd (nI_le (by omega) (by omega)) c_108)
          refine aw_incp (n := 177) (L' := [_, _, _, _, _, _]) dX8_candidate_174 rfl rfl rfl ?_
          refine aw_goto (n := 4) dX8_candidate_177 (by decide) ?_
          rw [nI_1, show lf2 = lf - (r.length + nz r) by omega]
          exact hb (by omega) M1 _ _ hf1
        | succ m ih =>
          intro k lf2 x5 hk hl h4 h5 h6 h7
          have hin : vp_in (nI (16 * i + k)) 48 := vp_in_nI (by omega) (by decide)
          have hkk : (nI (16 * i + k)).toNatClampNeg = 16 * i + k := nI_clamp (by omega)
          have ek : (16 : Int32) * nI i + nI k = nI (16 * i + k) := by rw [show (16 : Int32) = nI 16 from rfl, pk_mul, nI_add]
          have hx : M1 189 (16 * i + k) = r.getD k 0 := c189 k (by omega)
          rw [drop_cons r k (by omega)] at h4 h6 h7
          simp only [shr] at h4
          simp only [nz] at h6 h7
          by_cases hz : r.getD k 0 = 0
          · rw [if_pos hz] at h4 h6 h7
            refine aw_iload (n := 102) dX8_candidate_100 rfl rfl ?_
            refine aw_aload_n (n := 103) dX8_candidate_102 rfl rfl ?_
            refine aw_getr (n := 106) dX8_candidate_103 fX8_83 E_164 rfl rfl ?_
            refine aw_iload_n (n := 107) dX8_candidate_106 rfl rfl ?_
            refine aw_iald (n := 108) dX8_candidate_107 E_188 (by assumption) rfl ?_
            rw [hii, c188]
            refine aw_icmp_ge (tg := 174) (n := 111) dX8_candidate_108 (by decide) rfl (fun c_108 => by exact absurd c_108 (nI_ge (by omega) (by omega))) (fun c_108 => ?_)
            refine aw_aload_n (n := 112) dX8_candidate_111 rfl rfl ?_
            refine aw_getr (n := 115) dX8_candidate_112 fX8_86 E_164 rfl rfl ?_
            refine aw_bipush (n := 117) (v := 16) dX8_candidate_115 (by decide) rfl ?_
            refine aw_iload_n (n := 118) dX8_candidate_117 rfl rfl ?_
            refine aw_imul (n := 119) dX8_candidate_118 rfl ?_
            refine aw_iload (n := 121) dX8_candidate_119 rfl rfl ?_
            refine aw_iadd (n := 122) dX8_candidate_121 rfl ?_
            rw [ek]
            refine aw_iald (n := 123) dX8_candidate_122 E_189 (by assumption) rfl ?_
            rw [hkk, hx]
            refine aw_istore (n := 125) (L' := [_, _, _, _, _, _]) dX8_candidate_123 (Nat.le_of_ble_eq_true rfl) rfl rfl ?_
            refine aw_iload (n := 127) dX8_candidate_125 rfl rfl ?_
            refine aw_if_eq (tg := 155) (n := 130) dX8_candidate_127 (by decide) rfl (fun c_127 => ?_) (fun c_127 => by exact absurd hz c_127)
            refine aw_iload_n (n := 156) dX8_candidate_155 rfl rfl ?_
            refine aw_iload (n := 158) dX8_candidate_156 rfl rfl ?_
            refine aw_if_eq (tg := 165) (n := 161) dX8_candidate_158 (by decide) rfl (fun c_158 => ?_) (fun c_158 => by exact absurd hz c_158)
            refine aw_iconst (n := 166) (v := 0) dX8_candidate_165 (by decide) rfl ?_
            refine aw_isub (n := 167) dX8_candidate_166 rfl ?_
            refine aw_istore_n (n := 168) (L' := [_, _, _, _, _, _]) dX8_candidate_167 (Nat.le_of_ble_eq_true rfl) rfl rfl ?_
            refine aw_incp (n := 171) (L' := [_, _, _, _, _, _]) dX8_candidate_168 rfl rfl rfl ?_
            refine aw_goto (n := 100) dX8_candidate_171 (by decide) ?_
            rw [nI_1, Int32.sub_zero]
            refine ih (k + 1) lf2 _ (by omega) hl ?_ h5 (by omega) (by omega)
            rw [h4, take_snoc r k (by omega), List.append_assoc]
            rfl
          · rw [if_neg hz] at h4 h6 h7
            refine aw_iload (n := 102) dX8_candidate_100 rfl rfl ?_
            refine aw_aload_n (n := 103) dX8_candidate_102 rfl rfl ?_
            refine aw_getr (n := 106) dX8_candidate_103 fX8_83 E_164 rfl rfl ?_
            refine aw_iload_n (n := 107) dX8_candidate_106 rfl rfl ?_
            refine aw_iald (n := 108) dX8_candidate_107 E_188 (by assumption) rfl ?_
            rw [hii, c188]
            refine aw_icmp_ge (tg := 174) (n := 111) dX8_candidate_108 (by decide) rfl (fun c_108 => by exact absurd c_108 (nI_ge (by omega) (by omega))) (fun c_108 => ?_)
            refine aw_aload_n (n := 112) dX8_candidate_111 rfl rfl ?_
            refine aw_getr (n := 115) dX8_candidate_112 fX8_86 E_164 rfl rfl ?_
            refine aw_bipush (n := 117) (v := 16) dX8_candidate_115 (by decide) rfl ?_
            refine aw_iload_n (n := 118) dX8_candidate_117 rfl rfl ?_
            refine aw_imul (n := 119) dX8_candidate_118 rfl ?_
            refine aw_iload (n := 121) dX8_candidate_119 rfl rfl ?_
            refine aw_iadd (n := 122) dX8_candidate_121 rfl ?_
            rw [ek]
            refine aw_iald (n := 123) dX8_candidate_122 E_189 (by assumption) rfl ?_
            rw [hkk, hx]
            refine aw_istore (n := 125) (L' := [_, _, _, _, _, _]) dX8_candidate_123 (Nat.le_of_ble_eq_true rfl) rfl rfl ?_
            refine aw_iload (n := 127) dX8_candidate_125 rfl rfl ?_
            refine aw_if_eq (tg := 155) (n := 130) dX8_candidate_127 (by decide) rfl (fun c_127 => by exact absurd c_127 hz) (fun c_127 => ?_)
            refine aw_iload_n (n := 131) dX8_candidate_130 rfl rfl ?_
            refine aw_iconst (n := 132) (v := 3) dX8_candidate_131 (by decide) rfl ?_
            refine aw_icmp_ge (tg := 155) (n := 135) dX8_candidate_132 (by decide) rfl (fun c_132 => ?_) (fun c_132 => ?_)
            · refine aw_iload_n (n := 156) dX8_candidate_155 rfl rfl ?_
              refine aw_iload (n := 158) dX8_candidate_156 rfl rfl ?_
              refine aw_if_eq (tg := 165) (n := 161) dX8_candidate_158 (by decide) rfl (fun c_158 => by exact absurd c_158 hz) (fun c_158 => ?_)
              refine aw_iconst (n := 162) (v := 3) dX8_candidate_161 (by decide) rfl ?_
              refine aw_goto (n := 166) dX8_candidate_162 (by decide) ?_
              refine aw_isub (n := 167) dX8_candidate_166 rfl ?_
              refine aw_istore_n (n := 168) (L' := [_, _, _, _, _, _]) dX8_candidate_167 (Nat.le_of_ble_eq_true rfl) rfl rfl ?_
              refine aw_incp (n := 171) (L' := [_, _, _, _, _, _]) dX8_candidate_168 rfl rfl rfl ?_
              refine aw_goto (n := 100) dX8_candidate_171 (by decide) ?_
              have hl3 : 3 ≤ lf2 := (nI_leI (a := 3) (by omega) (by omega)).mp c_132
              rw [if_neg (by omega)] at h4
              rw [nI_1, show nI lf2 - 3 = nI (lf2 - 3) from pk_sub (b := 3) hl3]
              refine ih (k + 1) (lf2 - 3) _ (by omega) hl ?_ (by omega) (by omega) (by omega)
              rw [h4, take_snoc r k (by omega), List.append_assoc]
              rfl
            · refine aw_aload_n (n := 136) dX8_candidate_135 rfl rfl ?_
              refine aw_getr (n := 139) dX8_candidate_136 fX8_31 E_164 rfl rfl ?_
              refine aw_bipush (n := 141) (v := 16) dX8_candidate_139 (by decide) rfl ?_
              refine aw_iload_n (n := 142) dX8_candidate_141 rfl rfl ?_
              refine aw_imul (n := 143) dX8_candidate_142 rfl ?_
              refine aw_iload (n := 145) dX8_candidate_143 rfl rfl ?_
              refine aw_iadd (n := 146) dX8_candidate_145 rfl ?_
              rw [ek]
              refine aw_iload (n := 148) dX8_candidate_146 rfl rfl ?_
              refine aw_iload_n (n := 149) dX8_candidate_148 rfl rfl ?_
              refine aw_s2 (d1 := d - 1) (n := 152) (Z := mX8_less) (L0 := [_, _]) dX8_candidate_149 kX8_less gX8_249 syX8_less rfl rfl (Nat.le_of_ble_eq_true rfl) rfl rfl (by omega) (Nat.le_of_ble_eq_true rfl) (m_less (by exact (nI_ltI (b := 3) (by omega) (by omega)).mp (i_nle.mp c_132)) ?_)
              dsimp only [aPush]
              refine aw_iast (n := 153) dX8_candidate_152 E_172 (by assumption) rfl ?_
              refine aw_iconst (n := 154) (v := 1) dX8_candidate_153 (by decide) rfl ?_
              refine aw_zret dX8_candidate_154 rfl (by first | exact Or.inl rfl | exact Or.inr rfl | assumption) ?_
              have hl3 : lf2 < 3 := (nI_ltI (b := 3) (by omega) (by omega)).mp (i_nle.mp c_132)
              rw [if_pos hl3] at h4
              rw [hkk]
              have he : shr r (lf - r.length) = r.set k (near (r.getD k 0) lf2) := by
                rw [h4]
                exact (List.set_eq_take_append_cons_drop.trans (if_pos (by omega))).symm
              have hbc : bc (some (.inr r)) lf = some (.inr (r.set k (near (r.getD k 0) lf2))) := by rw [← he]; exact if_neg hl
              refine hput _ lf (ha (by omega)) ?_ (fun jj hjj => up2_a _ _ (by decide)) (fun jj hjj => up2_k _ _ (by omega)) (fun q a b => up2_ra _ _ b)
              rw [hbc]
              refine ⟨?_, ?_, fun jj hjj => ?_⟩
              · rw [List.length_set]; exact c16
              · rw [List.length_set, up2_a _ _ (by decide)]; exact c171
              · rw [List.length_set] at hjj
                rw [getD_set _ _ _ _ (by omega)]
                by_cases hik : jj = k
                · subst hik; rw [up2_s, if_pos rfl]
                · rw [up2_k _ _ (by omega), if_neg hik]; exact c172 jj hjj
      refine aw_aload_n (n := 14) dX8_candidate_13 rfl rfl ?_
      refine aw_getr (n := 17) dX8_candidate_14 fX8_80 E_164 rfl rfl ?_
      refine aw_iload_n (n := 18) dX8_candidate_17 rfl rfl ?_
      refine aw_iald (n := 19) dX8_candidate_18 E_187 (by assumption) rfl ?_
      rw [hii, ht]
      refine aw_if_ne (tg := 60) (n := 22) dX8_candidate_19 (by decide) rfl (fun _ => ?_) (fun c_19 => by first | exact absurd rfl c_19 | exact absurd c_19 (by decide))
      refine aw_aload_n (n := 61) dX8_candidate_60 rfl rfl ?_
      refine aw_getr (n := 64) dX8_candidate_61 fX8_80 E_164 rfl rfl ?_
      refine aw_iload_n (n := 65) dX8_candidate_64 rfl rfl ?_
      refine aw_iald (n := 66) dX8_candidate_65 E_187 (by assumption) rfl ?_
      rw [hii, ht]
      refine aw_iconst (n := 67) (v := 1) dX8_candidate_66 (by decide) rfl ?_
      refine aw_icmp_ne (tg := 174) (n := 70) dX8_candidate_67 (by decide) rfl (fun c_67 => by first | exact absurd rfl c_67 | exact absurd c_67 (by decide)) (fun _ => ?_)
      refine aw_iload_n (n := 71) dX8_candidate_70 rfl rfl ?_
      refine aw_aload_n (n := 72) dX8_candidate_71 rfl rfl ?_
      refine aw_getr (n := 75) dX8_candidate_72 fX8_83 E_164 rfl rfl ?_
      refine aw_iload_n (n := 76) dX8_candidate_75 rfl rfl ?_
      refine aw_iald (n := 77) dX8_candidate_76 E_188 (by assumption) rfl ?_
      rw [hii, c188]
      refine aw_icmp_ge (tg := 88) (n := 80) dX8_candidate_77 (by decide) rfl (fun c_77 => ?_) (fun c_77 => ?_)
      · refine aw_iload_n (n := 89) dX8_candidate_88 rfl rfl ?_
        refine aw_aload_n (n := 90) dX8_candidate_89 rfl rfl ?_
        refine aw_getr (n := 93) dX8_candidate_90 fX8_83 E_164 rfl rfl ?_
        refine aw_iload_n (n := 94) dX8_candidate_93 rfl rfl ?_
        refine aw_iald (n := 95) dX8_candidate_94 E_188 (by assumption) rfl ?_
        rw [hii, c188]
        refine aw_isub (n := 96) dX8_candidate_95 rfl ?_
        refine aw_istore_n (n := 97) (L' := [_, _, _, _, _, _]) dX8_candidate_96 (Nat.le_of_ble_eq_true rfl) rfl rfl ?_
        refine aw_iconst (n := 98) (v := 0) dX8_candidate_97 (by decide) rfl ?_
        refine aw_istore (n := 100) (L' := [_, _, _, _, _, _]) dX8_candidate_98 (Nat.le_of_ble_eq_true rfl) rfl rfl ?_
        have hl3 : r.length ≤ lf := (nI_leI (by omega) (by omega)).mp c_77
        rw [pk_sub hl3]
        exact loop r.length 0 (lf - r.length) _ (by omega) (by omega) (by simp) (by omega) (by simp) (by simp)
      · refine aw_aload_n (n := 81) dX8_candidate_80 rfl rfl ?_
        refine aw_iload_n (n := 82) dX8_candidate_81 rfl rfl ?_
        refine aw_iload_n (n := 83) dX8_candidate_82 rfl rfl ?_
        refine aw_v2 (d1 := d - 1) (n := 86) (Z := mX8_without) (ci := 6) (L0 := [_, _, _, .null]) dX8_candidate_83 kX8_without gX8_252 iyX8_without eyX8_without rfl rfl E_164 rfl rfl (Nat.le_of_ble_eq_true rfl) rfl rfl (by omega) (Nat.le_of_ble_eq_true rfl) (m_without hi c16 c188 c189 c172 (by exact (nI_ltI (by omega) (by omega)).mp (i_nle.mp c_77)) (fun M2 g1 g2 g3 g4 => ?_))
        dsimp only [aPush]
        refine aw_iconst (n := 87) (v := 1) dX8_candidate_86 (by decide) rfl ?_
        refine aw_zret dX8_candidate_87 rfl (by first | exact Or.inl rfl | exact Or.inr rfl | assumption) ?_
        have hl3 : lf < r.length := (nI_ltI (by omega) (by omega)).mp (i_nle.mp c_77)
        have hbc : bc (some (.inr r)) lf = some (.inr (r.eraseIdx lf)) := if_pos hl3
        exact hput M2 lf (ha (by omega)) (by rw [hbc]; exact g1) g2 g3 g4
  refine aw_iload_n (n := 1) dX8_candidate_0 rfl rfl ?_
  refine aw_istore_n (n := 2) (L' := [_, _, _, _, _, _]) dX8_candidate_1 (Nat.le_of_ble_eq_true rfl) rfl rfl ?_
  refine aw_iconst (n := 3) (v := 0) dX8_candidate_2 (by decide) rfl ?_
  refine aw_istore_n (n := 4) (L' := [_, _, _, _, _, _]) dX8_candidate_3 (Nat.le_of_ble_eq_true rfl) rfl rfl ?_
  refine sg M 0 j _ _ _ (by decide) hj (fun _ _ _ => rfl) (fun h => if_pos h) (fun n0 M1 x4 x5 f1 => ?_)
  refine sg M1 1 _ _ _ _ (by decide) (by omega) f1 (fun h => (if_neg n0).trans (if_pos h)) (fun n1 M2 x4 x5 f2 => ?_)
  refine sg M2 2 _ _ _ _ (by decide) (by omega) f2 (fun h => (if_neg n0).trans ((if_neg n1).trans (if_pos h))) (fun n2 M3 x4 x5 f3 => ?_)
  exact s3 M3 _ _ _ _ ((if_neg n0).trans ((if_neg n1).trans (if_neg n2))) f3
end MCAND
