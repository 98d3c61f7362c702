/-- what is drawn, in the reference's own cells -/
def dI (v : vV) (M : aM) : Prop := match v with
  | none => True
  | some (.inl x) => M 164 31 = x
  | some (.inr r) => r.length ≤ 16 ∧ M 164 31 = nI r.length ∧ ∀ j, j < r.length → M 186 j = r.getD j 0
theorem i_asym {x y : Int32} (h : x < y) (h2 : y < x) : False := by
  have := Int32.lt_iff_toInt_lt.mp h
  have := Int32.lt_iff_toInt_lt.mp h2
  omega
section MDRAW
variable {l : Launch} {K : aK} {d : Nat} {M : aM} {Q : Option Value → aE → aM → Prop}
theorem m_hash {s t : Int32} (hQ : Q (some (.int (hsh s t))) EE M) : aw l K mX8_hash d 0 0 0 [.int s, .int t, .null] [] EE M Q := by
  refine aw_iload_n (n := 1) dX8_hash_0 rfl rfl ?_
  refine aw_iload_n (n := 2) dX8_hash_1 rfl rfl ?_
  refine aw_ldc (n := 4) dX8_hash_2 qX8_187 rfl ?_
  refine aw_imul (n := 5) dX8_hash_4 rfl ?_
  refine aw_iadd (n := 6) dX8_hash_5 rfl ?_
  refine aw_istore_n (n := 7) (L' := [_, _, _]) dX8_hash_6 (Nat.le_of_ble_eq_true rfl) rfl rfl ?_
  refine aw_iload_n (n := 8) dX8_hash_7 rfl rfl ?_
  refine aw_iload_n (n := 9) dX8_hash_8 rfl rfl ?_
  refine aw_bipush (n := 11) (v := 16) dX8_hash_9 (by decide) rfl ?_
  refine aw_iushr (n := 12) dX8_hash_11 rfl ?_
  refine aw_ixor (n := 13) dX8_hash_12 rfl ?_
  refine aw_ldc (n := 15) dX8_hash_13 qX8_188 rfl ?_
  refine aw_imul (n := 16) dX8_hash_15 rfl ?_
  refine aw_istore_n (n := 17) (L' := [_, _, _]) dX8_hash_16 (Nat.le_of_ble_eq_true rfl) rfl rfl ?_
  refine aw_iload_n (n := 18) dX8_hash_17 rfl rfl ?_
  refine aw_iload_n (n := 19) dX8_hash_18 rfl rfl ?_
  refine aw_bipush (n := 21) (v := 13) dX8_hash_19 (by decide) rfl ?_
  refine aw_iushr (n := 22) dX8_hash_21 rfl ?_
  refine aw_ixor (n := 23) dX8_hash_22 rfl ?_
  refine aw_ldc (n := 25) dX8_hash_23 qX8_189 rfl ?_
  refine aw_imul (n := 26) dX8_hash_25 rfl ?_
  refine aw_istore_n (n := 27) (L' := [_, _, _]) dX8_hash_26 (Nat.le_of_ble_eq_true rfl) rfl rfl ?_
  refine aw_iload_n (n := 28) dX8_hash_27 rfl rfl ?_
  refine aw_iload_n (n := 29) dX8_hash_28 rfl rfl ?_
  refine aw_bipush (n := 31) (v := 16) dX8_hash_29 (by decide) rfl ?_
  refine aw_iushr (n := 32) dX8_hash_31 rfl ?_
  refine aw_ixor (n := 33) dX8_hash_32 rfl ?_
  refine aw_iret dX8_hash_33 rfl ?_
  exact hQ
theorem m_modulo {x : Int32} {m : Nat} (h0 : 0 < m) (hm : m < 2 ^ 30) (hQ : Q (some (.int (nI (md x m)))) EE M) : aw l K mX8_modulo d 0 0 0 [.int x, .int (nI m), .null] [] EE M Q := by
  have hne : ¬ nI m = 0 := nI_ne0 h0 (by omega)
  refine aw_iload_n (n := 1) dX8_modulo_0 rfl rfl ?_
  refine aw_iload_n (n := 2) dX8_modulo_1 rfl rfl ?_
  refine aw_irem (n := 3) dX8_modulo_2 (by first | assumption | decide) rfl ?_
  refine aw_istore_n (n := 4) (L' := [_, _, _]) dX8_modulo_3 (Nat.le_of_ble_eq_true rfl) rfl rfl ?_
  refine aw_iload_n (n := 5) dX8_modulo_4 rfl rfl ?_
  refine aw_if_ge (tg := 14) (n := 8) dX8_modulo_5 (by decide) rfl (fun c_5 => ?_) (fun c_5 => ?_)
  · refine aw_iload_n (n := 15) dX8_modulo_14 rfl rfl ?_
    refine aw_iret dX8_modulo_15 rfl ?_
    rw [md_pos x h0 hm (i_nlt.mpr c_5)]; exact hQ
  · refine aw_iload_n (n := 9) dX8_modulo_8 rfl rfl ?_
    refine aw_iload_n (n := 10) dX8_modulo_9 rfl rfl ?_
    refine aw_iadd (n := 11) dX8_modulo_10 rfl ?_
    refine aw_goto (n := 15) dX8_modulo_11 (by decide) ?_
    refine aw_iret dX8_modulo_15 rfl ?_
    rw [md_neg x h0 hm (i_nle.mp c_5)]; exact hQ
theorem m_draw {c i : Nat} {seed ty : Int32} (hd : 1 ≤ d) (hc : c < 200) (hi : i < 3) (ht : ty = 0 ∨ ty = 1) (hQ : ∀ M', dI (drw seed c i ty) M' → (∀ j, j ≠ 31 → M' 164 j = M 164 j) → (∀ q, q ≠ 164 → q ≠ 186 → M' q = M q) → Q none EE M') : aw l K mX8_draw d 0 0 0 [.ref 164, .int seed, .int (nI c), .int (nI i), .int ty, .null, .null, .null] [] EE M Q := by
  have es : (1 : Int32) + (nI c - nI c / 12 * 12) = nI (1 + c % 12) := by
    have h1 := pk_rem (a := c) (d := 12) (by omega) (by omega) (by omega)
    rw [show nI 12 = (12 : Int32) from rfl] at h1
    rw [h1, show (1 : Int32) = nI 1 from rfl, nI_add]
  have eh : (16 : Int32) * nI c + nI i = nI (16 * c + i) := by rw [show (16 : Int32) = nI 16 from rfl, pk_mul, nI_add]
  obtain ⟨z, hz⟩ : ∃ z, z = 1 + c % 12 := ⟨_, rfl⟩
  obtain ⟨h, hh⟩ : ∃ h, h = hsh seed (nI (16 * c + i)) := ⟨_, rfl⟩
  have hz12 : z ≤ 12 := by omega
  have hdr : drw seed c i ty = if ty = 0 then some (.inl (nI (md h (2 * z + 1)) - nI z)) else if ty = 1 then some (.inr (lR (md h (z / 2 + 1)) (fun k => nI (md (hsh h (nI (k + 1))) (2 * z + 1)) - nI z))) else none := by
    rw [hh, hz]; rfl
  rw [hdr] at hQ
  rw [← hz] at es
  obtain ⟨n, hn⟩ : ∃ n, n = md h (z / 2 + 1) := ⟨_, rfl⟩
  have hn7 : n < 7 := by
    have := md_lt h (m := z / 2 + 1) (by omega)
    omega
  have e2 : nI z / 2 + 1 = nI (z / 2 + 1) := by
    have h1 := pk_div (a := z) (d := 2) (by omega) (by omega) (by omega)
    rw [show nI 2 = (2 : Int32) from rfl] at h1
    rw [h1, nI_1]
  have ez : (2 : Int32) * nI z + 1 = nI (2 * z + 1) := e21 z
  rcases ht with rfl | rfl
  · rw [if_pos rfl] at hQ
    refine aw_iconst (n := 1) (v := 1) dX8_draw_0 (by decide) rfl ?_
    refine aw_iload_n (n := 2) dX8_draw_1 rfl rfl ?_
    refine aw_bipush (n := 4) (v := 12) dX8_draw_2 (by decide) rfl ?_
    refine aw_irem (n := 5) dX8_draw_4 (by first | assumption | decide) rfl ?_
    refine aw_iadd (n := 6) dX8_draw_5 rfl ?_
    rw [es]
    refine aw_istore (n := 8) (L' := [_, _, _, _, _, _, _, _]) dX8_draw_6 (Nat.le_of_ble_eq_true rfl) rfl rfl ?_
    refine aw_iload_n (n := 9) dX8_draw_8 rfl rfl ?_
    refine aw_bipush (n := 11) (v := 16) dX8_draw_9 (by decide) rfl ?_
    refine aw_iload_n (n := 12) dX8_draw_11 rfl rfl ?_
    refine aw_imul (n := 13) dX8_draw_12 rfl ?_
    refine aw_iload_n (n := 14) dX8_draw_13 rfl rfl ?_
    refine aw_iadd (n := 15) dX8_draw_14 rfl ?_
    rw [eh]
    refine aw_s2 (d1 := d - 1) (n := 18) (Z := mX8_hash) (L0 := [_, _, .null]) dX8_draw_15 kX8_hash gX8_190 syX8_hash rfl rfl (Nat.le_of_ble_eq_true rfl) rfl rfl (by omega) (Nat.le_of_ble_eq_true rfl) (m_hash ?_)
    dsimp only [aPush]
    rw [← hh]
    refine aw_istore (n := 20) (L' := [_, _, _, _, _, _, _, _]) dX8_draw_18 (Nat.le_of_ble_eq_true rfl) rfl rfl ?_
    refine aw_aload_n (n := 21) dX8_draw_20 rfl rfl ?_
    refine aw_iload (n := 23) dX8_draw_21 rfl rfl ?_
    refine aw_if_ne (tg := 43) (n := 26) dX8_draw_23 (by decide) rfl (fun c_23 => by first | exact absurd rfl c_23 | exact absurd c_23 (by decide)) (fun _ => ?_)
    refine aw_iload (n := 28) dX8_draw_26 rfl rfl ?_
    refine aw_iconst (n := 29) (v := 2) dX8_draw_28 (by decide) rfl ?_
    refine aw_iload (n := 31) dX8_draw_29 rfl rfl ?_
    refine aw_imul (n := 32) dX8_draw_31 rfl ?_
    refine aw_iconst (n := 33) (v := 1) dX8_draw_32 (by decide) rfl ?_
    refine aw_iadd (n := 34) dX8_draw_33 rfl ?_
    rw [ez]
    refine aw_s2 (d1 := d - 1) (n := 37) (Z := mX8_modulo) (L0 := [_, _, .null]) dX8_draw_34 kX8_modulo gX8_193 syX8_modulo rfl rfl (Nat.le_of_ble_eq_true rfl) rfl rfl (by omega) (Nat.le_of_ble_eq_true rfl) (m_modulo (by omega) (by omega) ?_)
    dsimp only [aPush]
    refine aw_iload (n := 39) dX8_draw_37 rfl rfl ?_
    refine aw_isub (n := 40) dX8_draw_39 rfl ?_
    refine aw_goto (n := 54) dX8_draw_40 (by decide) ?_
    refine aw_puti (n := 57) dX8_draw_54 pX8_196 E_164 rfl rfl ?_
    refine aw_iconst (n := 58) (v := 0) dX8_draw_57 (by decide) rfl ?_
    refine aw_istore (n := 60) (L' := [_, _, _, _, _, _, _, _]) dX8_draw_58 (Nat.le_of_ble_eq_true rfl) rfl rfl ?_
    refine aw_iload (n := 62) dX8_draw_60 rfl rfl ?_
    refine aw_iconst (n := 63) (v := 1) dX8_draw_62 (by decide) rfl ?_
    refine aw_icmp_ne (tg := 109) (n := 66) dX8_draw_63 (by decide) rfl (fun _ => ?_) (fun c_63 => by first | exact absurd rfl c_63 | exact absurd c_63 (by decide))
    refine aw_vret dX8_draw_109 rfl ?_
    exact hQ _ (up2_s _ _ _ _) (fun j hj => up2_k _ _ hj) (fun q a b => up2_ra _ _ a)
  · rw [if_neg (by decide), if_pos rfl, ← hn] at hQ
    have loop : ∀ (m k : Nat) (Mk : aM), m + k = n → Mk 164 31 = nI n → (∀ j, j ≠ 31 → Mk 164 j = M 164 j) → (∀ q, q ≠ 164 → q ≠ 186 → Mk q = M q) → (∀ j, j < k → Mk 186 j = nI (md (hsh h (nI (j + 1))) (2 * z + 1)) - nI z) → aw l K mX8_draw d 0 0 60 [.ref 164, .int seed, .int (nI c), .int (nI i), .int 1, .int (nI z), .int h, .int (nI k)] [] EE Mk Q := by
      intro m
      induction m with
      | zero =>
        intro k Mk hk g0 g1 g2 h5
        refine aw_iload (n := 62) dX8_draw_60 rfl rfl ?_
        refine aw_iconst (n := 63) (v := 1) dX8_draw_62 (by decide) rfl ?_
        refine aw_icmp_ne (tg := 109) (n := 66) dX8_draw_63 (by decide) rfl (fun c_63 => by first | exact absurd rfl c_63 | exact absurd c_63 (by decide)) (fun _ => ?_)
        refine aw_iload (n := 68) dX8_draw_66 rfl rfl ?_
        refine aw_aload_n (n := 69) dX8_draw_68 rfl rfl ?_
        refine aw_geti (n := 72) dX8_draw_69 fX8_196 E_164 rfl rfl ?_
        rw [g0]
        refine aw_icmp_ge (tg := 109) (n := 75) dX8_draw_72 (by decide) rfl (fun c_72 => ?_) (fun c_72 => by exact absurd (nI_le (by omega) (by omega)) c_72)
        refine aw_vret dX8_draw_109 rfl ?_
        refine hQ Mk ⟨by rw [len_lR]; omega, by rw [len_lR]; exact g0, fun j hj => ?_⟩ g1 g2
        rw [len_lR] at hj
        rw [getD_lR _ _ _ hj]; exact h5 j (by omega)
      | succ m ih =>
        intro k Mk hk g0 g1 g2 h5
        have hin : vp_in (nI k) 16 := vp_in_nI (by omega) (by decide)
        have hkk : (nI k).toNatClampNeg = k := nI_clamp (by omega)
        refine aw_iload (n := 62) dX8_draw_60 rfl rfl ?_
        refine aw_iconst (n := 63) (v := 1) dX8_draw_62 (by decide) rfl ?_
        refine aw_icmp_ne (tg := 109) (n := 66) dX8_draw_63 (by decide) rfl (fun c_63 => by first | exact absurd rfl c_63 | exact absurd c_63 (by decide)) (fun _ => ?_)
        refine aw_iload (n := 68) dX8_draw_66 rfl rfl ?_
        refine aw_aload_n (n := 69) dX8_draw_68 rfl rfl ?_
        refine aw_geti (n := 72) dX8_draw_69 fX8_196 E_164 rfl rfl ?_
        rw [g0]
        refine aw_icmp_ge (tg := 109) (n := 75) dX8_draw_72 (by decide) rfl (fun c_72 => by exact absurd c_72 (nI_ge (by omega) (by omega))) (fun c_72 => ?_)
        refine aw_aload_n (n := 76) dX8_draw_75 rfl rfl ?_
        refine aw_getr (n := 79) dX8_draw_76 fX8_73 E_164 rfl rfl ?_
        refine aw_iload (n := 81) dX8_draw_79 rfl rfl ?_
        refine aw_iload (n := 83) dX8_draw_81 rfl rfl ?_
        refine aw_iload (n := 85) dX8_draw_83 rfl rfl ?_
        refine aw_iconst (n := 86) (v := 1) dX8_draw_85 (by decide) rfl ?_
        refine aw_iadd (n := 87) dX8_draw_86 rfl ?_
        rw [nI_1]
        refine aw_s2 (d1 := d - 1) (n := 90) (Z := mX8_hash) (L0 := [_, _, .null]) dX8_draw_87 kX8_hash gX8_190 syX8_hash rfl rfl (Nat.le_of_ble_eq_true rfl) rfl rfl (by omega) (Nat.le_of_ble_eq_true rfl) (m_hash ?_)
        dsimp only [aPush]
        refine aw_iconst (n := 91) (v := 2) dX8_draw_90 (by decide) rfl ?_
        refine aw_iload (n := 93) dX8_draw_91 rfl rfl ?_
        refine aw_imul (n := 94) dX8_draw_93 rfl ?_
        refine aw_iconst (n := 95) (v := 1) dX8_draw_94 (by decide) rfl ?_
        refine aw_iadd (n := 96) dX8_draw_95 rfl ?_
        rw [ez]
        refine aw_s2 (d1 := d - 1) (n := 99) (Z := mX8_modulo) (L0 := [_, _, .null]) dX8_draw_96 kX8_modulo gX8_193 syX8_modulo rfl rfl (Nat.le_of_ble_eq_true rfl) rfl rfl (by omega) (Nat.le_of_ble_eq_true rfl) (m_modulo (by omega) (by omega) ?_)
        dsimp only [aPush]
        refine aw_iload (n := 101) dX8_draw_99 rfl rfl ?_
        refine aw_isub (n := 102) dX8_draw_101 rfl ?_
        refine aw_iast (n := 103) dX8_draw_102 E_186 (by assumption) rfl ?_
        refine aw_incp (n := 106) (L' := [_, _, _, _, _, _, _, _]) dX8_draw_103 rfl rfl rfl ?_
        refine aw_goto (n := 60) dX8_draw_106 (by decide) ?_
        rw [hkk, nI_1]
        refine ih (k + 1) _ (by omega) ?_ (fun j hj => ?_) (fun q a b => ?_) (fun j hj => ?_)
        · rw [up2_a _ _ (by decide)]; exact g0
        · rw [up2_a _ _ (by decide)]; exact g1 j hj
        · rw [up2_ra _ _ b]; exact g2 q a b
        · by_cases hjk : j = k
          · subst hjk; rw [up2_s]
          · rw [up2_k _ _ hjk]; exact h5 j (by omega)
    refine aw_iconst (n := 1) (v := 1) dX8_draw_0 (by decide) rfl ?_
    refine aw_iload_n (n := 2) dX8_draw_1 rfl rfl ?_
    refine aw_bipush (n := 4) (v := 12) dX8_draw_2 (by decide) rfl ?_
    refine aw_irem (n := 5) dX8_draw_4 (by first | assumption | decide) rfl ?_
    refine aw_iadd (n := 6) dX8_draw_5 rfl ?_
    rw [es]
    refine aw_istore (n := 8) (L' := [_, _, _, _, _, _, _, _]) dX8_draw_6 (Nat.le_of_ble_eq_true rfl) rfl rfl ?_
    refine aw_iload_n (n := 9) dX8_draw_8 rfl rfl ?_
    refine aw_bipush (n := 11) (v := 16) dX8_draw_9 (by decide) rfl ?_
    refine aw_iload_n (n := 12) dX8_draw_11 rfl rfl ?_
    refine aw_imul (n := 13) dX8_draw_12 rfl ?_
    refine aw_iload_n (n := 14) dX8_draw_13 rfl rfl ?_
    refine aw_iadd (n := 15) dX8_draw_14 rfl ?_
    rw [eh]
    refine aw_s2 (d1 := d - 1) (n := 18) (Z := mX8_hash) (L0 := [_, _, .null]) dX8_draw_15 kX8_hash gX8_190 syX8_hash rfl rfl (Nat.le_of_ble_eq_true rfl) rfl rfl (by omega) (Nat.le_of_ble_eq_true rfl) (m_hash ?_)
    dsimp only [aPush]
    rw [← hh]
    refine aw_istore (n := 20) (L' := [_, _, _, _, _, _, _, _]) dX8_draw_18 (Nat.le_of_ble_eq_true rfl) rfl rfl ?_
    refine aw_aload_n (n := 21) dX8_draw_20 rfl rfl ?_
    refine aw_iload (n := 23) dX8_draw_21 rfl rfl ?_
    refine aw_if_ne (tg := 43) (n := 26) dX8_draw_23 (by decide) rfl (fun _ => ?_) (fun c_23 => by first | exact absurd rfl c_23 | exact absurd c_23 (by decide))
    refine aw_iload (n := 45) dX8_draw_43 rfl rfl ?_
    refine aw_iload (n := 47) dX8_draw_45 rfl rfl ?_
    refine aw_iconst (n := 48) (v := 2) dX8_draw_47 (by decide) rfl ?_
    refine aw_idiv (n := 49) dX8_draw_48 (by first | assumption | decide) rfl ?_
    refine aw_iconst (n := 50) (v := 1) dX8_draw_49 (by decide) rfl ?_
    refine aw_iadd (n := 51) dX8_draw_50 rfl ?_
    rw [e2]
    refine aw_s2 (d1 := d - 1) (n := 54) (Z := mX8_modulo) (L0 := [_, _, .null]) dX8_draw_51 kX8_modulo gX8_193 syX8_modulo rfl rfl (Nat.le_of_ble_eq_true rfl) rfl rfl (by omega) (Nat.le_of_ble_eq_true rfl) (m_modulo (by omega) (by omega) ?_)
    dsimp only [aPush]
    rw [← hn]
    refine aw_puti (n := 57) dX8_draw_54 pX8_196 E_164 rfl rfl ?_
    refine aw_iconst (n := 58) (v := 0) dX8_draw_57 (by decide) rfl ?_
    refine aw_istore (n := 60) (L' := [_, _, _, _, _, _, _, _]) dX8_draw_58 (Nat.le_of_ble_eq_true rfl) rfl rfl ?_
    exact loop n 0 _ (by omega) (up2_s _ _ _ _) (fun j hj => up2_k _ _ hj) (fun q a b => up2_ra _ _ a) (fun j hj => by omega)
theorem m_isFailed {cnt np p : Nat} {T : tm} {P : Nat → pr} {inp : Nat → vV} {s : rS} (hd : 13 ≤ d) (hW : wfA cnt T np P) (hA : mA cnt T np P M) (hp : p < np) (hty : ∀ i, i < 3 → P p i = tyV (inp i)) (hI : ∀ i, i < 3 → kI 171 172 (inp i) i M) (hS : mS s M) (hfl : s.2.2.2.1 < 0)
    (hQ : ∀ M', mS (tcS T (P p) p inp s) M' → fV M M' → Q (some (.int (if 0 < (outS T inp (P p 3) (P p 4) (P p 6)).2 then 1 else 0))) EE M') : aw l K mX8_isFailed d 0 0 0 [.ref 164, .int (nI p), .null] [] EE M Q := by
  obtain ⟨w1, w2, w3, w4⟩ := hW
  obtain ⟨a1, a2, a3, a4⟩ := hA
  have hS' := hS
  obtain ⟨s1, s2, s3, s4, s5⟩ := hS
  have hoc := outS_oc (inp := inp) w1 w2 (w4 p hp)
  obtain ⟨o, ho⟩ : ∃ o, o = (outS T inp (P p 3) (P p 4) (P p 6)).2 := ⟨_, rfl⟩
  have htc : tcS T (P p) p inp s = (s.1 + 1, tyc o s.2.1, if o = 0 ∧ 0 ≤ P p 5 then upN s.2.2.1 (labS T inp (P p 5) (outS T inp (P p 3) (P p 4) (P p 6)).1) (s.2.2.1 (labS T inp (P p 5) (outS T inp (P p 3) (P p 4) (P p 6)).1) + 1) else s.2.2.1, if 0 < o then nI p else s.2.2.2.1, if 0 < o then inp else s.2.2.2.2) := by rw [ho]; rfl
  rw [htc, ← ho] at hQ
  rw [← ho] at hoc
  have hlt := labS_lt T inp (P p 5) (outS T inp (P p 3) (P p 4) (P p 6)).1
  refine aw_aload_n (n := 1) dX8_isFailed_0 rfl rfl ?_
  refine aw_iload_n (n := 2) dX8_isFailed_1 rfl rfl ?_
  refine aw_iconst (n := 3) (v := 1) dX8_isFailed_2 (by decide) rfl ?_
  refine aw_v2 (d1 := d - 1) (n := 6) (Z := mX8_outcome) (ci := 6) (L0 := [_, _, _, .null, .null]) dX8_isFailed_3 kX8_outcome gX8_224 iyX8_outcome eyX8_outcome rfl rfl E_164 rfl rfl (Nat.le_of_ble_eq_true rfl) rfl rfl (by omega) (Nat.le_of_ble_eq_true rfl) (m_outcome (T := T) (inp := inp) (P := P p) (by omega) w1 w2 (by omega) a2 (a4 p hp) (w4 p hp) (Or.inr rfl) hty hI (fun M1 g1 g2 g3 => ?_))
  dsimp only [aPush]
  rw [← ho]
  have k29 : M1 164 29 = nI (s.1 + 1) := by rw [g2, s1, nI_1]
  have kt : ∀ j, 30 ≤ j → M1 164 j = M 164 j := fun j hj => g1.2 j (by omega) (by omega) (by omega) (by omega) (by omega) (by omega) (by omega) (by omega)
  have kc : ∀ k, k < 8 → M1 164 (33 + k) = s.2.1 k := fun k hk => (kt _ (by omega)).trans (s2 k hk)
  have m0 : M1 164 33 = s.2.1 0 := kc 0 (by decide)
  have m1 : M1 164 34 = s.2.1 1 := kc 1 (by decide)
  have m2 : M1 164 35 = s.2.1 2 := kc 2 (by decide)
  have m3 : M1 164 36 = s.2.1 3 := kc 3 (by decide)
  have m4 : M1 164 37 = s.2.1 4 := kc 4 (by decide)
  have m5 : M1 164 38 = s.2.1 5 := kc 5 (by decide)
  have m6 : M1 164 39 = s.2.1 6 := kc 6 (by decide)
  have m7 : M1 164 40 = s.2.1 7 := kc 7 (by decide)
  have m41 : M1 164 41 = s.2.2.2.1 := (kt _ (by omega)).trans s4
  have hv1 := fT_V g1
  have klab : ∀ k, k < 9 → M1 185 k = (if o = 0 ∧ 0 ≤ P p 5 then upN s.2.2.1 (labS T inp (P p 5) (outS T inp (P p 3) (P p 4) (P p 6)).1) (s.2.2.1 (labS T inp (P p 5) (outS T inp (P p 3) (P p 4) (P p 6)).1) + 1) else s.2.2.1) k := by
    intro k hk
    rw [g3]
    unfold labOn
    rw [← ho]
    by_cases hc : o = 0 ∧ 0 ≤ P p 5
    · rw [if_pos ⟨hc.1, hc.2, rfl⟩, if_pos hc]
      unfold upN
      split
      · rw [s3 _ hlt]
      · exact s3 k hk
    · rw [if_neg (fun q => hc ⟨q.1, q.2.1⟩), if_neg hc]; exact s3 k hk
  rcases hoc with hoc | hoc | hoc
  · have hno : ¬ 0 < o := by rw [hoc]; decide
    have hty0 : tyc o s.2.1 = _ := if_pos hoc
    rw [if_neg (c := 0 < o) hno, if_neg (c := 0 < o) hno, if_neg (c := 0 < o) hno, hty0] at hQ
    refine aw_istore_n (n := 7) (L' := [_, _, _]) dX8_isFailed_6 (Nat.le_of_ble_eq_true rfl) rfl rfl ?_
    refine aw_aload_n (n := 8) dX8_isFailed_7 rfl rfl ?_
    refine aw_dup (n := 9) dX8_isFailed_8 rfl rfl ?_
    refine aw_geti (n := 12) dX8_isFailed_9 fX8_203 E_164 rfl rfl ?_
    refine aw_iconst (n := 13) (v := 1) dX8_isFailed_12 (by decide) rfl ?_
    refine aw_iadd (n := 14) dX8_isFailed_13 rfl ?_
    refine aw_puti (n := 17) dX8_isFailed_14 pX8_203 E_164 rfl rfl ?_
    refine aw_aload_n (n := 18) dX8_isFailed_17 rfl rfl ?_
    refine aw_dup (n := 19) dX8_isFailed_18 rfl rfl ?_
    refine aw_geti (n := 22) dX8_isFailed_19 fX8_206 E_164 rfl rfl ?_
    refine aw_iload_n (n := 23) dX8_isFailed_22 rfl rfl ?_
    refine aw_if_ne (tg := 30) (n := 26) dX8_isFailed_23 (by decide) rfl (fun c_23 => by exact absurd hoc c_23) (fun c_23 => ?_)
    refine aw_iconst (n := 27) (v := 1) dX8_isFailed_26 (by decide) rfl ?_
    refine aw_goto (n := 31) dX8_isFailed_27 (by decide) ?_
    refine aw_iadd (n := 32) dX8_isFailed_31 rfl ?_
    refine aw_puti (n := 35) dX8_isFailed_32 pX8_206 E_164 rfl rfl ?_
    refine aw_aload_n (n := 36) dX8_isFailed_35 rfl rfl ?_
    refine aw_dup (n := 37) dX8_isFailed_36 rfl rfl ?_
    refine aw_geti (n := 40) dX8_isFailed_37 fX8_209 E_164 rfl rfl ?_
    refine aw_iload_n (n := 41) dX8_isFailed_40 rfl rfl ?_
    refine aw_if_ge (tg := 48) (n := 44) dX8_isFailed_41 (by decide) rfl (fun c_41 => ?_) (fun c_41 => by exact absurd (by rw [hoc]; decide) c_41)
    refine aw_iconst (n := 49) (v := 0) dX8_isFailed_48 (by decide) rfl ?_
    refine aw_iadd (n := 50) dX8_isFailed_49 rfl ?_
    refine aw_puti (n := 53) dX8_isFailed_50 pX8_209 E_164 rfl rfl ?_
    refine aw_iload_n (n := 54) dX8_isFailed_53 rfl rfl ?_
    refine aw_if_le (tg := 77) (n := 57) dX8_isFailed_54 (by decide) rfl (fun c_54 => ?_) (fun c_54 => by exact absurd (by rw [hoc]; decide) c_54)
    refine aw_iload_n (n := 78) dX8_isFailed_77 rfl rfl ?_
    refine aw_if_le (tg := 85) (n := 81) dX8_isFailed_78 (by decide) rfl (fun c_78 => ?_) (fun c_78 => by exact absurd (by rw [hoc]; decide) c_78)
    refine aw_iconst (n := 86) (v := 0) dX8_isFailed_85 (by decide) rfl ?_
    refine aw_zret dX8_isFailed_86 rfl (by first | exact Or.inl rfl | exact Or.inr rfl | assumption) ?_
    refine hQ _ ⟨?_, fun k hk => ?_, fun k hk => ?_, ?_, fun hn => absurd hfl hn⟩ ⟨fun q hq => ?_, ?_, ?_⟩
    · rw [up2_k _ _ (by decide), up2_k _ _ (by decide), up2_k _ _ (by decide)]; exact k29
    · rcases (show k = 0 ∨ k = 1 ∨ k = 2 ∨ k = 3 ∨ k = 4 ∨ k = 5 ∨ k = 6 ∨ k = 7 by omega) with rfl | rfl | rfl | rfl | rfl | rfl | rfl | rfl <;> simp [up2, upN, m0, m1, m2, m3, m4, m5, m6, m7]
    · rw [up2_a _ _ (by decide), up2_a _ _ (by decide), up2_a _ _ (by decide)]; exact klab k hk
    · rw [up2_k _ _ (by decide), up2_k _ _ (by decide), up2_k _ _ (by decide)]; exact m41
    · rw [up2_ra _ _ (by omega), up2_ra _ _ (by omega), up2_ra _ _ (by omega)]; exact hv1.1 q hq
    · rw [up2_k _ _ (by decide), up2_k _ _ (by decide), up2_k _ _ (by decide)]; exact hv1.2.1
    · rw [up2_k _ _ (by decide), up2_k _ _ (by decide), up2_k _ _ (by decide)]; exact hv1.2.2
  · have hno : ¬ 0 < o := by rw [hoc]; decide
    have hnz : ¬ o = 0 := by rw [hoc]; decide
    have hty0 : tyc o s.2.1 = _ := (if_neg hnz).trans (if_pos hoc)
    rw [if_neg (c := 0 < o) hno, if_neg (c := 0 < o) hno, if_neg (c := 0 < o) hno, hty0] at hQ
    refine aw_istore_n (n := 7) (L' := [_, _, _]) dX8_isFailed_6 (Nat.le_of_ble_eq_true rfl) rfl rfl ?_
    refine aw_aload_n (n := 8) dX8_isFailed_7 rfl rfl ?_
    refine aw_dup (n := 9) dX8_isFailed_8 rfl rfl ?_
    refine aw_geti (n := 12) dX8_isFailed_9 fX8_203 E_164 rfl rfl ?_
    refine aw_iconst (n := 13) (v := 1) dX8_isFailed_12 (by decide) rfl ?_
    refine aw_iadd (n := 14) dX8_isFailed_13 rfl ?_
    refine aw_puti (n := 17) dX8_isFailed_14 pX8_203 E_164 rfl rfl ?_
    refine aw_aload_n (n := 18) dX8_isFailed_17 rfl rfl ?_
    refine aw_dup (n := 19) dX8_isFailed_18 rfl rfl ?_
    refine aw_geti (n := 22) dX8_isFailed_19 fX8_206 E_164 rfl rfl ?_
    refine aw_iload_n (n := 23) dX8_isFailed_22 rfl rfl ?_
    refine aw_if_ne (tg := 30) (n := 26) dX8_isFailed_23 (by decide) rfl (fun c_23 => ?_) (fun c_23 => by exact absurd c_23 hnz)
    refine aw_iconst (n := 31) (v := 0) dX8_isFailed_30 (by decide) rfl ?_
    refine aw_iadd (n := 32) dX8_isFailed_31 rfl ?_
    refine aw_puti (n := 35) dX8_isFailed_32 pX8_206 E_164 rfl rfl ?_
    refine aw_aload_n (n := 36) dX8_isFailed_35 rfl rfl ?_
    refine aw_dup (n := 37) dX8_isFailed_36 rfl rfl ?_
    refine aw_geti (n := 40) dX8_isFailed_37 fX8_209 E_164 rfl rfl ?_
    refine aw_iload_n (n := 41) dX8_isFailed_40 rfl rfl ?_
    refine aw_if_ge (tg := 48) (n := 44) dX8_isFailed_41 (by decide) rfl (fun c_41 => by exact absurd c_41 (by rw [hoc]; decide)) (fun c_41 => ?_)
    refine aw_iconst (n := 45) (v := 1) dX8_isFailed_44 (by decide) rfl ?_
    refine aw_goto (n := 49) dX8_isFailed_45 (by decide) ?_
    refine aw_iadd (n := 50) dX8_isFailed_49 rfl ?_
    refine aw_puti (n := 53) dX8_isFailed_50 pX8_209 E_164 rfl rfl ?_
    refine aw_iload_n (n := 54) dX8_isFailed_53 rfl rfl ?_
    refine aw_if_le (tg := 77) (n := 57) dX8_isFailed_54 (by decide) rfl (fun c_54 => ?_) (fun c_54 => by exact absurd (by rw [hoc]; decide) c_54)
    refine aw_iload_n (n := 78) dX8_isFailed_77 rfl rfl ?_
    refine aw_if_le (tg := 85) (n := 81) dX8_isFailed_78 (by decide) rfl (fun c_78 => ?_) (fun c_78 => by exact absurd (by rw [hoc]; decide) c_78)
    refine aw_iconst (n := 86) (v := 0) dX8_isFailed_85 (by decide) rfl ?_
    refine aw_zret dX8_isFailed_86 rfl (by first | exact Or.inl rfl | exact Or.inr rfl | assumption) ?_
    refine hQ _ ⟨?_, fun k hk => ?_, fun k hk => ?_, ?_, fun hn => absurd hfl hn⟩ ⟨fun q hq => ?_, ?_, ?_⟩
    · rw [up2_k _ _ (by decide), up2_k _ _ (by decide), up2_k _ _ (by decide)]; exact k29
    · rcases (show k = 0 ∨ k = 1 ∨ k = 2 ∨ k = 3 ∨ k = 4 ∨ k = 5 ∨ k = 6 ∨ k = 7 by omega) with rfl | rfl | rfl | rfl | rfl | rfl | rfl | rfl <;> simp [up2, upN, m0, m1, m2, m3, m4, m5, m6, m7]
    · rw [up2_a _ _ (by decide), up2_a _ _ (by decide), up2_a _ _ (by decide)]; exact klab k hk
    · rw [up2_k _ _ (by decide), up2_k _ _ (by decide), up2_k _ _ (by decide)]; exact m41
    · rw [up2_ra _ _ (by omega), up2_ra _ _ (by omega), up2_ra _ _ (by omega)]; exact hv1.1 q hq
    · rw [up2_k _ _ (by decide), up2_k _ _ (by decide), up2_k _ _ (by decide)]; exact hv1.2.1
    · rw [up2_k _ _ (by decide), up2_k _ _ (by decide), up2_k _ _ (by decide)]; exact hv1.2.2
  · have hnz : ¬ o = 0 := fun q => absurd hoc (by rw [q]; decide)
    have hnm : ¬ o = -1 := fun q => absurd hoc (by rw [q]; decide)
    have hty0 : tyc o s.2.1 = _ := (if_neg hnz).trans (if_neg hnm)
    rw [if_pos (c := 0 < o) hoc, if_pos (c := 0 < o) hoc, if_pos (c := 0 < o) hoc, hty0] at hQ
    have hle : 0 ≤ o := i_nlt.mp (fun q => i_asym hoc q)
    have hn0 : ¬ o ≤ 0 := i_nle.mpr hoc
    refine aw_istore_n (n := 7) (L' := [_, _, _]) dX8_isFailed_6 (Nat.le_of_ble_eq_true rfl) rfl rfl ?_
    refine aw_aload_n (n := 8) dX8_isFailed_7 rfl rfl ?_
    refine aw_dup (n := 9) dX8_isFailed_8 rfl rfl ?_
    refine aw_geti (n := 12) dX8_isFailed_9 fX8_203 E_164 rfl rfl ?_
    refine aw_iconst (n := 13) (v := 1) dX8_isFailed_12 (by decide) rfl ?_
    refine aw_iadd (n := 14) dX8_isFailed_13 rfl ?_
    refine aw_puti (n := 17) dX8_isFailed_14 pX8_203 E_164 rfl rfl ?_
    refine aw_aload_n (n := 18) dX8_isFailed_17 rfl rfl ?_
    refine aw_dup (n := 19) dX8_isFailed_18 rfl rfl ?_
    refine aw_geti (n := 22) dX8_isFailed_19 fX8_206 E_164 rfl rfl ?_
    refine aw_iload_n (n := 23) dX8_isFailed_22 rfl rfl ?_
    refine aw_if_ne (tg := 30) (n := 26) dX8_isFailed_23 (by decide) rfl (fun c_23 => ?_) (fun c_23 => by exact absurd c_23 hnz)
    refine aw_iconst (n := 31) (v := 0) dX8_isFailed_30 (by decide) rfl ?_
    refine aw_iadd (n := 32) dX8_isFailed_31 rfl ?_
    refine aw_puti (n := 35) dX8_isFailed_32 pX8_206 E_164 rfl rfl ?_
    refine aw_aload_n (n := 36) dX8_isFailed_35 rfl rfl ?_
    refine aw_dup (n := 37) dX8_isFailed_36 rfl rfl ?_
    refine aw_geti (n := 40) dX8_isFailed_37 fX8_209 E_164 rfl rfl ?_
    refine aw_iload_n (n := 41) dX8_isFailed_40 rfl rfl ?_
    refine aw_if_ge (tg := 48) (n := 44) dX8_isFailed_41 (by decide) rfl (fun c_41 => ?_) (fun c_41 => by exact absurd hle c_41)
    refine aw_iconst (n := 49) (v := 0) dX8_isFailed_48 (by decide) rfl ?_
    refine aw_iadd (n := 50) dX8_isFailed_49 rfl ?_
    refine aw_puti (n := 53) dX8_isFailed_50 pX8_209 E_164 rfl rfl ?_
    refine aw_iload_n (n := 54) dX8_isFailed_53 rfl rfl ?_
    refine aw_if_le (tg := 77) (n := 57) dX8_isFailed_54 (by decide) rfl (fun c_54 => by exact absurd c_54 hn0) (fun c_54 => ?_)
    refine aw_aload_n (n := 58) dX8_isFailed_57 rfl rfl ?_
    refine aw_iload_n (n := 59) dX8_isFailed_58 rfl rfl ?_
    refine aw_puti (n := 62) dX8_isFailed_59 pX8_212 E_164 rfl rfl ?_
    refine aw_aload_n (n := 63) dX8_isFailed_62 rfl rfl ?_
    refine aw_aload_n (n := 64) dX8_isFailed_63 rfl rfl ?_
    refine aw_geti (n := 67) dX8_isFailed_64 fX8_203 E_164 rfl rfl ?_
    refine aw_iconst (n := 68) (v := 1) dX8_isFailed_67 (by decide) rfl ?_
    refine aw_isub (n := 69) dX8_isFailed_68 rfl ?_
    refine aw_puti (n := 72) dX8_isFailed_69 pX8_89 E_164 rfl rfl ?_
    refine aw_aload_n (n := 73) dX8_isFailed_72 rfl rfl ?_
    refine aw_iload_n (n := 74) dX8_isFailed_73 rfl rfl ?_
    refine aw_v1 (d1 := d - 1) (n := 77) (Z := mX8_keep) (ci := 6) (L0 := [_, _, .null]) dX8_isFailed_74 kX8_keep gX8_228 iyX8_keep eyX8_keep rfl rfl E_164 rfl (Nat.le_of_ble_eq_true rfl) rfl rfl (by omega) (Nat.le_of_ble_eq_true rfl) (m_keep (by omega) (fun M2 f1 f2 f3 f4 f5 => ?_))
    dsimp only [aPush]
    refine aw_iload_n (n := 78) dX8_isFailed_77 rfl rfl ?_
    refine aw_if_le (tg := 85) (n := 81) dX8_isFailed_78 (by decide) rfl (fun c_78 => by exact absurd c_78 hn0) (fun c_78 => ?_)
    refine aw_iconst (n := 82) (v := 1) dX8_isFailed_81 (by decide) rfl ?_
    refine aw_goto (n := 86) dX8_isFailed_82 (by decide) ?_
    refine aw_zret dX8_isFailed_86 rfl (by first | exact Or.inl rfl | exact Or.inr rfl | assumption) ?_
    have pq : ∀ q, q ≠ 164 → q ≠ 187 → q ≠ 188 → q ≠ 189 → M2 q = M1 q := fun q a b c e => by rw [f5 q a b c e, up2_ra _ _ a, up2_ra _ _ a, up2_ra _ _ a, up2_ra _ _ a, up2_ra _ _ a]
    refine hQ _ ⟨?_, fun k hk => ?_, fun k hk => ?_, f1, fun _ i hi => ⟨?_, ?_⟩⟩ ⟨fun q hq => ?_, ?_, ?_⟩
    · rw [f2 29 (by decide), up2_k _ _ (by decide), up2_k _ _ (by decide), up2_k _ _ (by decide), up2_k _ _ (by decide), up2_k _ _ (by decide)]; exact k29
    · rw [f2 (33 + k) (by omega)]
      rcases (show k = 0 ∨ k = 1 ∨ k = 2 ∨ k = 3 ∨ k = 4 ∨ k = 5 ∨ k = 6 ∨ k = 7 by omega) with rfl | rfl | rfl | rfl | rfl | rfl | rfl | rfl <;> simp [up2, upN, m0, m1, m2, m3, m4, m5, m6, m7]
    · rw [pq 185 (by decide) (by decide) (by decide) (by decide)]; exact klab k hk
    · rw [(f3 i hi).1, up2_a _ _ (by decide), up2_a _ _ (by decide), up2_a _ _ (by decide), up2_a _ _ (by decide), up2_a _ _ (by decide), g1.1 180 (by omega)]
      exact ((a4 p hp).1 i hi).trans (hty i hi)
    · refine kI_same (hI i hi) ?_ (fun j hj => ?_)
      · rw [(f3 i hi).2, up2_a _ _ (by decide), up2_a _ _ (by decide), up2_a _ _ (by decide), up2_a _ _ (by decide), up2_a _ _ (by decide), g1.1 171 (by omega)]
      · rw [f4 _ (by omega), up2_a _ _ (by decide), up2_a _ _ (by decide), up2_a _ _ (by decide), up2_a _ _ (by decide), up2_a _ _ (by decide), g1.1 172 (by omega)]
    · rw [pq q (by omega) (by omega) (by omega) (by omega)]; exact hv1.1 q hq
    · rw [f2 0 (by decide), up2_k _ _ (by decide), up2_k _ _ (by decide), up2_k _ _ (by decide), up2_k _ _ (by decide), up2_k _ _ (by decide)]; exact hv1.2.1
    · rw [f2 23 (by decide), up2_k _ _ (by decide), up2_k _ _ (by decide), up2_k _ _ (by decide), up2_k _ _ (by decide), up2_k _ _ (by decide)]; exact hv1.2.2
end MDRAW
