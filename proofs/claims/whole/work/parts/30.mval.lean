/-! the reference: its values, and what its methods do to them -/
def mV (M : aM) (mk : Nat) (k v p : Int32) : vV → Prop
  | none => k = 2
  | some (.inl x) => k = 0 ∧ v = x
  | some (.inr r) => k = 1 ∧ r.length ≤ 16 ∧ v = nI r.length ∧ ∃ pl, pl < 3 + mk ∧ p = nI pl ∧ ∀ j, j < r.length → M 178 (16 * pl + j) = r.getD j 0
def gV (M : aM) (mk j : Nat) (v : vV) : Prop := mV M mk (M 175 j) (M 176 j) (M 177 j) v
def rV (M : aM) (mk : Nat) (v : vV) : Prop := mV M mk (M 164 17) (M 164 18) (M 164 19) v
/-- what the end of a term may change -/
def fE (mk : Nat) (M M' : aM) : Prop := (∀ q, q ≠ 164 → q ≠ 178 → q ≠ 179 → M' q = M q) ∧ (∀ j, j ≠ 17 → j ≠ 18 → j ≠ 19 → j ≠ 20 → j ≠ 22 → M' 164 j = M 164 j) ∧ ∀ j, j < 16 * (3 + mk) → M' 178 j = M 178 j
theorem fE_refl (mk : Nat) (M : aM) : fE mk M M := ⟨fun _ _ _ _ => rfl, fun _ _ _ _ _ _ => rfl, fun _ _ => rfl⟩
theorem fE_up {mk : Nat} {M M' : aM} {j : Nat} {x : Int32} (h : fE mk M M') (hj : j = 17 ∨ j = 18 ∨ j = 19 ∨ j = 20 ∨ j = 22) : fE mk M (up2 M' 164 j x) :=
  ⟨fun q a b c => by rw [up2_ra _ _ a]; exact h.1 q a b c, fun i a b c e f => by rw [up2_k _ _ (by omega)]; exact h.2.1 i a b c e f, fun i hi => by rw [up2_a _ _ (by decide)]; exact h.2.2 i hi⟩
theorem mV_mono {M M' : aM} {mk mk' : Nat} {k v p : Int32} {x : vV} (h : mV M mk k v p x) (hm : mk ≤ mk') (hs : ∀ j, j < 16 * (3 + mk) → M' 178 j = M 178 j) : mV M' mk' k v p x := by
  rcases x with _ | x | r
  · exact h
  · exact h
  · obtain ⟨h1, h2, h3, pl, h4, h5, h6⟩ := h
    exact ⟨h1, h2, h3, pl, by omega, h5, fun j hj => by rw [hs _ (by omega)]; exact h6 j hj⟩
theorem lk1_07 {n : Nat} {v : vV} : lk n v ≤ 7 := by have := lk_lt n v; omega
section MVAL
variable {l : Launch} {K : aK} {d : Nat} {M : aM} {Q : Option Value → aE → aM → Prop}
theorem m_wrong {mk j need : Nat} {v : vV} (hj : j < 183) (hn : need < 2) (hv : gV M mk j v) (hQ : Q (some (.int (nI (lk need v)))) EE M) : aw l K mX8_wrong d 0 0 0 [.ref 164, .int (nI j), .int (nI need)] [] EE M Q := by
  have e164 := E_164
  have e175 := E_175
  have hin : vp_in (nI j) 183 := vp_in_nI hj (by decide)
  have hjj : (nI j).toNatClampNeg = j := nI_clamp (by omega)
  rcases v with _ | x | r
  · have h0 : M 175 j = 2 := hv
    have hk : lk need none = 1 := if_neg (by omega)
    rw [hk] at hQ
    refine aw_aload_n (n := 1) dX8_wrong_0 rfl rfl ?_
    refine aw_getr (n := 4) dX8_wrong_1 fX8_40 E_164 rfl rfl ?_
    refine aw_iload_n (n := 5) dX8_wrong_4 rfl rfl ?_
    refine aw_iald (n := 6) dX8_wrong_5 E_175 (by assumption) rfl ?_
    rw [hjj, h0]
    refine aw_iconst (n := 7) (v := 2) dX8_wrong_6 (by decide) rfl ?_
    refine aw_icmp_ne (tg := 14) (n := 10) dX8_wrong_7 (by decide) rfl (fun c_7 => by exact absurd rfl c_7) (fun c_7 => ?_)
    refine aw_iconst (n := 11) (v := 1) dX8_wrong_10 (by decide) rfl ?_
    refine aw_goto (n := 29) dX8_wrong_11 (by decide) ?_
    refine aw_iret dX8_wrong_29 rfl ?_
    exact hQ
  · have h0 : M 175 j = 0 := hv.1
    refine aw_aload_n (n := 1) dX8_wrong_0 rfl rfl ?_
    refine aw_getr (n := 4) dX8_wrong_1 fX8_40 E_164 rfl rfl ?_
    refine aw_iload_n (n := 5) dX8_wrong_4 rfl rfl ?_
    refine aw_iald (n := 6) dX8_wrong_5 E_175 (by assumption) rfl ?_
    rw [hjj, h0]
    refine aw_iconst (n := 7) (v := 2) dX8_wrong_6 (by decide) rfl ?_
    refine aw_icmp_ne (tg := 14) (n := 10) dX8_wrong_7 (by decide) rfl (fun c_7 => ?_) (fun c_7 => by exact absurd c_7 (by decide))
    refine aw_aload_n (n := 15) dX8_wrong_14 rfl rfl ?_
    refine aw_getr (n := 18) dX8_wrong_15 fX8_40 E_164 rfl rfl ?_
    refine aw_iload_n (n := 19) dX8_wrong_18 rfl rfl ?_
    refine aw_iald (n := 20) dX8_wrong_19 E_175 (by assumption) rfl ?_
    rw [hjj, h0]
    refine aw_iload_n (n := 21) dX8_wrong_20 rfl rfl ?_
    refine aw_icmp_eq (tg := 28) (n := 24) dX8_wrong_21 (by decide) rfl (fun c_21 => ?_) (fun c_21 => ?_)
    · refine aw_iconst (n := 29) (v := 0) dX8_wrong_28 (by decide) rfl ?_
      refine aw_iret dX8_wrong_29 rfl ?_
      rcases (show need = 0 ∨ need = 1 by omega) with rfl | rfl
      · first | exact hQ | exact absurd rfl c_21
      · first | exact hQ | exact absurd c_21 (by decide)
    · refine aw_iconst (n := 25) (v := 4) dX8_wrong_24 (by decide) rfl ?_
      refine aw_goto (n := 29) dX8_wrong_25 (by decide) ?_
      refine aw_iret dX8_wrong_29 rfl ?_
      rcases (show need = 0 ∨ need = 1 by omega) with rfl | rfl
      · first | exact hQ | exact absurd rfl c_21
      · first | exact hQ | exact absurd c_21 (by decide)
  · have h0 : M 175 j = 1 := hv.1
    refine aw_aload_n (n := 1) dX8_wrong_0 rfl rfl ?_
    refine aw_getr (n := 4) dX8_wrong_1 fX8_40 E_164 rfl rfl ?_
    refine aw_iload_n (n := 5) dX8_wrong_4 rfl rfl ?_
    refine aw_iald (n := 6) dX8_wrong_5 E_175 (by assumption) rfl ?_
    rw [hjj, h0]
    refine aw_iconst (n := 7) (v := 2) dX8_wrong_6 (by decide) rfl ?_
    refine aw_icmp_ne (tg := 14) (n := 10) dX8_wrong_7 (by decide) rfl (fun c_7 => ?_) (fun c_7 => by exact absurd c_7 (by decide))
    refine aw_aload_n (n := 15) dX8_wrong_14 rfl rfl ?_
    refine aw_getr (n := 18) dX8_wrong_15 fX8_40 E_164 rfl rfl ?_
    refine aw_iload_n (n := 19) dX8_wrong_18 rfl rfl ?_
    refine aw_iald (n := 20) dX8_wrong_19 E_175 (by assumption) rfl ?_
    rw [hjj, h0]
    refine aw_iload_n (n := 21) dX8_wrong_20 rfl rfl ?_
    refine aw_icmp_eq (tg := 28) (n := 24) dX8_wrong_21 (by decide) rfl (fun c_21 => ?_) (fun c_21 => ?_)
    · refine aw_iconst (n := 29) (v := 0) dX8_wrong_28 (by decide) rfl ?_
      refine aw_iret dX8_wrong_29 rfl ?_
      rcases (show need = 0 ∨ need = 1 by omega) with rfl | rfl
      · first | exact hQ | exact absurd c_21 (by decide)
      · first | exact hQ | exact absurd rfl c_21
    · refine aw_iconst (n := 25) (v := 4) dX8_wrong_24 (by decide) rfl ?_
      refine aw_goto (n := 29) dX8_wrong_25 (by decide) ?_
      refine aw_iret dX8_wrong_29 rfl ?_
      rcases (show need = 0 ∨ need = 1 by omega) with rfl | rfl
      · first | exact hQ | exact absurd c_21 (by decide)
      · first | exact hQ | exact absurd rfl c_21
/-- an end that throws, or gives a value -/
def eQ (mk : Nat) (M : aM) (res : Nat ⊕ vV) (Q : Option Value → aE → aM → Prop) : Prop :=
  (∀ k M', res = .inl k → M' 164 20 = nI k → M' 164 22 = M 164 22 → fE mk M M' → Q none EE M') ∧ (∀ v mk' M', res = .inr v → M' 164 20 = 0 → M' 164 22 = nI mk' → mk ≤ mk' → mk' ≤ mk + 1 → rV M' mk' v → fE mk M M' → Q none EE M')
theorem eQ_whole {mk : Nat} {M0 M1 : aM} {x : Int32} {Q : Option Value → aE → aM → Prop} (h : eQ mk M0 (.inr (some (.inl x))) Q) (hf : fE mk M0 M1) (h20 : M1 164 20 = 0) (h22 : M1 164 22 = nI mk) : Q none EE (up2 (up2 M1 164 17 0) 164 18 x) := by
  refine h.2 _ mk _ rfl ?_ ?_ (Nat.le_refl _) (by omega) ⟨?_, ?_⟩ (fE_up (fE_up hf (by omega)) (by omega))
  · rw [up2_k _ _ (by decide), up2_k _ _ (by decide)]; exact h20
  · rw [up2_k _ _ (by decide), up2_k _ _ (by decide)]; exact h22
  · rw [up2_k _ _ (by decide), up2_s]
  · rw [up2_s]
theorem m_numbers {mk t w : Nat} {va vb : vV} (hd : 2 ≤ d) (ht : t < 60) (hw : 3 ≤ w ∧ w ≤ 8) (h20 : M 164 20 = 0) (h22 : M 164 22 = nI mk) (ha : gV M mk (3 * t) va) (hb : gV M mk (3 * t + 1) vb) (hQ : eQ mk M (bW va fun x => bW vb fun y => opB w x y) Q) : aw l K mX8_numbers d 0 0 0 [.ref 164, .int (nI w), .int (nI (3 * t)), .null, .null] [] EE M Q := by
  have e164 := E_164
  have e176 := E_176
  have hina : vp_in (nI (3 * t)) 183 := vp_in_nI (by omega) (by decide)
  have hinb : vp_in (nI (3 * t + 1)) 183 := vp_in_nI (by omega) (by decide)
  have haa : (nI (3 * t)).toNatClampNeg = 3 * t := nI_clamp (by omega)
  have hbb : (nI (3 * t + 1)).toNatClampNeg = 3 * t + 1 := nI_clamp (by omega)
  have la := lk_lt 0 va
  have lb := lk_lt 0 vb
  by_cases hka : lk 0 va = 0
  · obtain ⟨x, rfl⟩ : ∃ x, va = some (.inl x) := by
      rcases va with _ | x | r
      · exact absurd hka (by decide)
      · exact ⟨x, rfl⟩
      · exact absurd hka (by simp [lk, lk0])
    by_cases hkb : lk 0 vb = 0
    · obtain ⟨y, rfl⟩ : ∃ y, vb = some (.inl y) := by
        rcases vb with _ | x | r
        · exact absurd hkb (by decide)
        · exact ⟨x, rfl⟩
        · exact absurd hkb (by simp [lk, lk0])
      have hQ : eQ mk M (opB w x y) Q := hQ
      have gx : M 176 (3 * t) = x := ha.2
      have gy : M 176 (3 * t + 1) = y := hb.2
      rcases (show w = 3 ∨ w = 4 ∨ w = 5 ∨ w = 6 ∨ w = 7 ∨ w = 8 by omega) with rfl | rfl | rfl | rfl | rfl | rfl
      · refine aw_aload_n (n := 1) dX8_numbers_0 rfl rfl ?_
        refine aw_aload_n (n := 2) dX8_numbers_1 rfl rfl ?_
        refine aw_iload_n (n := 3) dX8_numbers_2 rfl rfl ?_
        refine aw_iconst (n := 4) (v := 0) dX8_numbers_3 (by decide) rfl ?_
        refine aw_v2 (d1 := d - 1) (n := 7) (Z := mX8_wrong) (ci := 6) (L0 := [_, _, _]) dX8_numbers_4 kX8_wrong gX8_141 iyX8_wrong eyX8_wrong rfl rfl E_164 rfl rfl (Nat.le_of_ble_eq_true rfl) rfl rfl (by omega) (Nat.le_of_ble_eq_true rfl) (m_wrong (need := 0) (by omega) (by decide) ha ?_)
        dsimp only [aPush]
        rw [hka]
        refine aw_puti (n := 10) dX8_numbers_7 pX8_110 E_164 rfl rfl ?_
        refine aw_aload_n (n := 11) dX8_numbers_10 rfl rfl ?_
        refine aw_aload_n (n := 12) dX8_numbers_11 rfl rfl ?_
        refine aw_geti (n := 15) dX8_numbers_12 fX8_110 E_164 rfl rfl ?_
        rw [up2_s]
        refine aw_if_eq (tg := 25) (n := 18) dX8_numbers_15 (by decide) rfl (fun c_15 => ?_) (fun c_15 => by exact absurd rfl c_15)
        refine aw_aload_n (n := 26) dX8_numbers_25 rfl rfl ?_
        refine aw_iload_n (n := 27) dX8_numbers_26 rfl rfl ?_
        refine aw_iconst (n := 28) (v := 1) dX8_numbers_27 (by decide) rfl ?_
        refine aw_iadd (n := 29) dX8_numbers_28 rfl ?_
        rw [nI_1]
        refine aw_iconst (n := 30) (v := 0) dX8_numbers_29 (by decide) rfl ?_
        refine aw_v2 (d1 := d - 1) (n := 33) (Z := mX8_wrong) (ci := 6) (L0 := [_, _, _]) dX8_numbers_30 kX8_wrong gX8_141 iyX8_wrong eyX8_wrong rfl rfl E_164 rfl rfl (Nat.le_of_ble_eq_true rfl) rfl rfl (by omega) (Nat.le_of_ble_eq_true rfl) (m_wrong (mk := mk) (need := 0) (v := some (.inl y)) (by omega) (by decide) (by unfold gV; rw [up2_ra _ _ (by decide), up2_ra _ _ (by decide), up2_ra _ _ (by decide)]; exact mV_mono hb (Nat.le_refl _) (fun _ _ => by rw [up2_a _ _ (by decide)])) ?_)
        dsimp only [aPush]
        rw [hkb]
        refine aw_puti (n := 36) dX8_numbers_33 pX8_110 E_164 rfl rfl ?_
        refine aw_aload_n (n := 37) dX8_numbers_36 rfl rfl ?_
        refine aw_aload_n (n := 38) dX8_numbers_37 rfl rfl ?_
        refine aw_geti (n := 41) dX8_numbers_38 fX8_110 E_164 rfl rfl ?_
        rw [up2_s]
        refine aw_if_eq (tg := 51) (n := 44) dX8_numbers_41 (by decide) rfl (fun c_41 => ?_) (fun c_41 => by exact absurd rfl c_41)
        refine aw_iload_n (n := 52) dX8_numbers_51 rfl rfl ?_
        refine aw_bipush (n := 54) (v := 6) dX8_numbers_52 (by decide) rfl ?_
        refine aw_icmp_eq (tg := 63) (n := 57) dX8_numbers_54 (by decide) rfl (fun c_54 => by first | exact absurd rfl c_54 | exact absurd c_54 (by decide)) (fun _ => ?_)
        refine aw_iload_n (n := 58) dX8_numbers_57 rfl rfl ?_
        refine aw_bipush (n := 60) (v := 7) dX8_numbers_58 (by decide) rfl ?_
        refine aw_icmp_ne (tg := 78) (n := 63) dX8_numbers_60 (by decide) rfl (fun _ => ?_) (fun c_60 => by first | exact absurd rfl c_60 | exact absurd c_60 (by decide))
        refine aw_iconst (n := 79) (v := 0) dX8_numbers_78 (by decide) rfl ?_
        refine aw_puti (n := 82) dX8_numbers_79 pX8_110 E_164 rfl rfl ?_
        refine aw_aload_n (n := 83) dX8_numbers_82 rfl rfl ?_
        refine aw_geti (n := 86) dX8_numbers_83 fX8_110 E_164 rfl rfl ?_
        rw [up2_s]
        refine aw_if_eq (tg := 90) (n := 89) dX8_numbers_86 (by decide) rfl (fun c_86 => ?_) (fun c_86 => by exact absurd rfl c_86)
        refine aw_aload_n (n := 91) dX8_numbers_90 rfl rfl ?_
        refine aw_getr (n := 94) dX8_numbers_91 fX8_43 E_164 rfl rfl ?_
        refine aw_iload_n (n := 95) dX8_numbers_94 rfl rfl ?_
        refine aw_iald (n := 96) dX8_numbers_95 E_176 (by assumption) rfl ?_
        rw [haa, up2_a _ _ (by decide), up2_a _ _ (by decide), up2_a _ _ (by decide), gx]
        refine aw_istore_n (n := 97) (L' := [_, _, _, _, _]) dX8_numbers_96 (Nat.le_of_ble_eq_true rfl) rfl rfl ?_
        refine aw_aload_n (n := 98) dX8_numbers_97 rfl rfl ?_
        refine aw_getr (n := 101) dX8_numbers_98 fX8_43 E_164 rfl rfl ?_
        refine aw_iload_n (n := 102) dX8_numbers_101 rfl rfl ?_
        refine aw_iconst (n := 103) (v := 1) dX8_numbers_102 (by decide) rfl ?_
        refine aw_iadd (n := 104) dX8_numbers_103 rfl ?_
        rw [nI_1]
        refine aw_iald (n := 105) dX8_numbers_104 E_176 (by assumption) rfl ?_
        rw [hbb, up2_a _ _ (by decide), up2_a _ _ (by decide), up2_a _ _ (by decide), gy]
        refine aw_istore (n := 107) (L' := [_, _, _, _, _]) dX8_numbers_105 (Nat.le_of_ble_eq_true rfl) rfl rfl ?_
        refine aw_aload_n (n := 108) dX8_numbers_107 rfl rfl ?_
        refine aw_iload_n (n := 109) dX8_numbers_108 rfl rfl ?_
        refine aw_iconst (n := 110) (v := 3) dX8_numbers_109 (by decide) rfl ?_
        refine aw_icmp_ne (tg := 120) (n := 113) dX8_numbers_110 (by decide) rfl (fun c_110 => by first | exact absurd rfl c_110 | exact absurd c_110 (by decide)) (fun _ => ?_)
        refine aw_iload_n (n := 114) dX8_numbers_113 rfl rfl ?_
        refine aw_iload (n := 116) dX8_numbers_114 rfl rfl ?_
        refine aw_iadd (n := 117) dX8_numbers_116 rfl ?_
        refine aw_goto (n := 181) dX8_numbers_117 (by decide) ?_
        refine aw_v1 (d1 := d - 1) (n := 184) (Z := mX8_whole) (ci := 6) (L0 := [_, _]) dX8_numbers_181 kX8_whole gX8_149 iyX8_whole eyX8_whole rfl rfl E_164 rfl (Nat.le_of_ble_eq_true rfl) rfl rfl (by omega) (Nat.le_of_ble_eq_true rfl) ?_
        refine aw_aload_n (n := 1) dX8_whole_0 rfl rfl ?_
        refine aw_iconst (n := 2) (v := 0) dX8_whole_1 (by decide) rfl ?_
        refine aw_puti (n := 5) dX8_whole_2 pX8_128 E_164 rfl rfl ?_
        refine aw_aload_n (n := 6) dX8_whole_5 rfl rfl ?_
        refine aw_iload_n (n := 7) dX8_whole_6 rfl rfl ?_
        refine aw_puti (n := 10) dX8_whole_7 pX8_131 E_164 rfl rfl ?_
        refine aw_vret dX8_whole_10 rfl ?_
        dsimp only [aPush]
        refine aw_vret dX8_numbers_184 rfl ?_
        exact eQ_whole hQ (fE_up (fE_up (fE_up (fE_refl _ _) (by omega)) (by omega)) (by omega)) (up2_s _ _ _ _) (by rw [up2_k _ _ (by decide), up2_k _ _ (by decide), up2_k _ _ (by decide)]; exact h22)
      · refine aw_aload_n (n := 1) dX8_numbers_0 rfl rfl ?_
        refine aw_aload_n (n := 2) dX8_numbers_1 rfl rfl ?_
        refine aw_iload_n (n := 3) dX8_numbers_2 rfl rfl ?_
        refine aw_iconst (n := 4) (v := 0) dX8_numbers_3 (by decide) rfl ?_
        refine aw_v2 (d1 := d - 1) (n := 7) (Z := mX8_wrong) (ci := 6) (L0 := [_, _, _]) dX8_numbers_4 kX8_wrong gX8_141 iyX8_wrong eyX8_wrong rfl rfl E_164 rfl rfl (Nat.le_of_ble_eq_true rfl) rfl rfl (by omega) (Nat.le_of_ble_eq_true rfl) (m_wrong (need := 0) (by omega) (by decide) ha ?_)
        dsimp only [aPush]
        rw [hka]
        refine aw_puti (n := 10) dX8_numbers_7 pX8_110 E_164 rfl rfl ?_
        refine aw_aload_n (n := 11) dX8_numbers_10 rfl rfl ?_
        refine aw_aload_n (n := 12) dX8_numbers_11 rfl rfl ?_
        refine aw_geti (n := 15) dX8_numbers_12 fX8_110 E_164 rfl rfl ?_
        rw [up2_s]
        refine aw_if_eq (tg := 25) (n := 18) dX8_numbers_15 (by decide) rfl (fun c_15 => ?_) (fun c_15 => by exact absurd rfl c_15)
        refine aw_aload_n (n := 26) dX8_numbers_25 rfl rfl ?_
        refine aw_iload_n (n := 27) dX8_numbers_26 rfl rfl ?_
        refine aw_iconst (n := 28) (v := 1) dX8_numbers_27 (by decide) rfl ?_
        refine aw_iadd (n := 29) dX8_numbers_28 rfl ?_
        rw [nI_1]
        refine aw_iconst (n := 30) (v := 0) dX8_numbers_29 (by decide) rfl ?_
        refine aw_v2 (d1 := d - 1) (n := 33) (Z := mX8_wrong) (ci := 6) (L0 := [_, _, _]) dX8_numbers_30 kX8_wrong gX8_141 iyX8_wrong eyX8_wrong rfl rfl E_164 rfl rfl (Nat.le_of_ble_eq_true rfl) rfl rfl (by omega) (Nat.le_of_ble_eq_true rfl) (m_wrong (mk := mk) (need := 0) (v := some (.inl y)) (by omega) (by decide) (by unfold gV; rw [up2_ra _ _ (by decide), up2_ra _ _ (by decide), up2_ra _ _ (by decide)]; exact mV_mono hb (Nat.le_refl _) (fun _ _ => by rw [up2_a _ _ (by decide)])) ?_)
        dsimp only [aPush]
        rw [hkb]
        refine aw_puti (n := 36) dX8_numbers_33 pX8_110 E_164 rfl rfl ?_
        refine aw_aload_n (n := 37) dX8_numbers_36 rfl rfl ?_
        refine aw_aload_n (n := 38) dX8_numbers_37 rfl rfl ?_
        refine aw_geti (n := 41) dX8_numbers_38 fX8_110 E_164 rfl rfl ?_
        rw [up2_s]
        refine aw_if_eq (tg := 51) (n := 44) dX8_numbers_41 (by decide) rfl (fun c_41 => ?_) (fun c_41 => by exact absurd rfl c_41)
        refine aw_iload_n (n := 52) dX8_numbers_51 rfl rfl ?_
        refine aw_bipush (n := 54) (v := 6) dX8_numbers_52 (by decide) rfl ?_
        refine aw_icmp_eq (tg := 63) (n := 57) dX8_numbers_54 (by decide) rfl (fun c_54 => by first | exact absurd rfl c_54 | exact absurd c_54 (by decide)) (fun _ => ?_)
        refine aw_iload_n (n := 58) dX8_numbers_57 rfl rfl ?_
        refine aw_bipush (n := 60) (v := 7) dX8_numbers_58 (by decide) rfl ?_
        refine aw_icmp_ne (tg := 78) (n := 63) dX8_numbers_60 (by decide) rfl (fun _ => ?_) (fun c_60 => by first | exact absurd rfl c_60 | exact absurd c_60 (by decide))
        refine aw_iconst (n := 79) (v := 0) dX8_numbers_78 (by decide) rfl ?_
        refine aw_puti (n := 82) dX8_numbers_79 pX8_110 E_164 rfl rfl ?_
        refine aw_aload_n (n := 83) dX8_numbers_82 rfl rfl ?_
        refine aw_geti (n := 86) dX8_numbers_83 fX8_110 E_164 rfl rfl ?_
        rw [up2_s]
        refine aw_if_eq (tg := 90) (n := 89) dX8_numbers_86 (by decide) rfl (fun c_86 => ?_) (fun c_86 => by exact absurd rfl c_86)
        refine aw_aload_n (n := 91) dX8_numbers_90 rfl rfl ?_
        refine aw_getr (n := 94) dX8_numbers_91 fX8_43 E_164 rfl rfl ?_
        refine aw_iload_n (n := 95) dX8_numbers_94 rfl rfl ?_
        refine aw_iald (n := 96) dX8_numbers_95 E_176 (by assumption) rfl ?_
        rw [haa, up2_a _ _ (by decide), up2_a _ _ (by decide), up2_a _ _ (by decide), gx]
        refine aw_istore_n (n := 97) (L' := [_, _, _, _, _]) dX8_numbers_96 (Nat.le_of_ble_eq_true rfl) rfl rfl ?_
        refine aw_aload_n (n := 98) dX8_numbers_97 rfl rfl ?_
        refine aw_getr (n := 101) dX8_numbers_98 fX8_43 E_164 rfl rfl ?_
        refine aw_iload_n (n := 102) dX8_numbers_101 rfl rfl ?_
        refine aw_iconst (n := 103) (v := 1) dX8_numbers_102 (by decide) rfl ?_
        refine aw_iadd (n := 104) dX8_numbers_103 rfl ?_
        rw [nI_1]
        refine aw_iald (n := 105) dX8_numbers_104 E_176 (by assumption) rfl ?_
        rw [hbb, up2_a _ _ (by decide), up2_a _ _ (by decide), up2_a _ _ (by decide), gy]
        refine aw_istore (n := 107) (L' := [_, _, _, _, _]) dX8_numbers_105 (Nat.le_of_ble_eq_true rfl) rfl rfl ?_
        refine aw_aload_n (n := 108) dX8_numbers_107 rfl rfl ?_
        refine aw_iload_n (n := 109) dX8_numbers_108 rfl rfl ?_
        refine aw_iconst (n := 110) (v := 3) dX8_numbers_109 (by decide) rfl ?_
        refine aw_icmp_ne (tg := 120) (n := 113) dX8_numbers_110 (by decide) rfl (fun _ => ?_) (fun c_110 => by first | exact absurd rfl c_110 | exact absurd c_110 (by decide))
        refine aw_iload_n (n := 121) dX8_numbers_120 rfl rfl ?_
        refine aw_iconst (n := 122) (v := 4) dX8_numbers_121 (by decide) rfl ?_
        refine aw_icmp_ne (tg := 132) (n := 125) dX8_numbers_122 (by decide) rfl (fun c_122 => by first | exact absurd rfl c_122 | exact absurd c_122 (by decide)) (fun _ => ?_)
        refine aw_iload_n (n := 126) dX8_numbers_125 rfl rfl ?_
        refine aw_iload (n := 128) dX8_numbers_126 rfl rfl ?_
        refine aw_isub (n := 129) dX8_numbers_128 rfl ?_
        refine aw_goto (n := 181) dX8_numbers_129 (by decide) ?_
        refine aw_v1 (d1 := d - 1) (n := 184) (Z := mX8_whole) (ci := 6) (L0 := [_, _]) dX8_numbers_181 kX8_whole gX8_149 iyX8_whole eyX8_whole rfl rfl E_164 rfl (Nat.le_of_ble_eq_true rfl) rfl rfl (by omega) (Nat.le_of_ble_eq_true rfl) ?_
        refine aw_aload_n (n := 1) dX8_whole_0 rfl rfl ?_
        refine aw_iconst (n := 2) (v := 0) dX8_whole_1 (by decide) rfl ?_
        refine aw_puti (n := 5) dX8_whole_2 pX8_128 E_164 rfl rfl ?_
        refine aw_aload_n (n := 6) dX8_whole_5 rfl rfl ?_
        refine aw_iload_n (n := 7) dX8_whole_6 rfl rfl ?_
        refine aw_puti (n := 10) dX8_whole_7 pX8_131 E_164 rfl rfl ?_
        refine aw_vret dX8_whole_10 rfl ?_
        dsimp only [aPush]
        refine aw_vret dX8_numbers_184 rfl ?_
        exact eQ_whole hQ (fE_up (fE_up (fE_up (fE_refl _ _) (by omega)) (by omega)) (by omega)) (up2_s _ _ _ _) (by rw [up2_k _ _ (by decide), up2_k _ _ (by decide), up2_k _ _ (by decide)]; exact h22)
      · refine aw_aload_n (n := 1) dX8_numbers_0 rfl rfl ?_
        refine aw_aload_n (n := 2) dX8_numbers_1 rfl rfl ?_
        refine aw_iload_n (n := 3) dX8_numbers_2 rfl rfl ?_
        refine aw_iconst (n := 4) (v := 0) dX8_numbers_3 (by decide) rfl ?_
        refine aw_v2 (d1 := d - 1) (n := 7) (Z := mX8_wrong) (ci := 6) (L0 := [_, _, _]) dX8_numbers_4 kX8_wrong gX8_141 iyX8_wrong eyX8_wrong rfl rfl E_164 rfl rfl (Nat.le_of_ble_eq_true rfl) rfl rfl (by omega) (Nat.le_of_ble_eq_true rfl) (m_wrong (need := 0) (by omega) (by decide) ha ?_)
        dsimp only [aPush]
        rw [hka]
        refine aw_puti (n := 10) dX8_numbers_7 pX8_110 E_164 rfl rfl ?_
        refine aw_aload_n (n := 11) dX8_numbers_10 rfl rfl ?_
        refine aw_aload_n (n := 12) dX8_numbers_11 rfl rfl ?_
        refine aw_geti (n := 15) dX8_numbers_12 fX8_110 E_164 rfl rfl ?_
        rw [up2_s]
        refine aw_if_eq (tg := 25) (n := 18) dX8_numbers_15 (by decide) rfl (fun c_15 => ?_) (fun c_15 => by exact absurd rfl c_15)
        refine aw_aload_n (n := 26) dX8_numbers_25 rfl rfl ?_
        refine aw_iload_n (n := 27) dX8_numbers_26 rfl rfl ?_
        refine aw_iconst (n := 28) (v := 1) dX8_numbers_27 (by decide) rfl ?_
        refine aw_iadd (n := 29) dX8_numbers_28 rfl ?_
        rw [nI_1]
        refine aw_iconst (n := 30) (v := 0) dX8_numbers_29 (by decide) rfl ?_
        refine aw_v2 (d1 := d - 1) (n := 33) (Z := mX8_wrong) (ci := 6) (L0 := [_, _, _]) dX8_numbers_30 kX8_wrong gX8_141 iyX8_wrong eyX8_wrong rfl rfl E_164 rfl rfl (Nat.le_of_ble_eq_true rfl) rfl rfl (by omega) (Nat.le_of_ble_eq_true rfl) (m_wrong (mk := mk) (need := 0) (v := some (.inl y)) (by omega) (by decide) (by unfold gV; rw [up2_ra _ _ (by decide), up2_ra _ _ (by decide), up2_ra _ _ (by decide)]; exact mV_mono hb (Nat.le_refl _) (fun _ _ => by rw [up2_a _ _ (by decide)])) ?_)
        dsimp only [aPush]
        rw [hkb]
        refine aw_puti (n := 36) dX8_numbers_33 pX8_110 E_164 rfl rfl ?_
        refine aw_aload_n (n := 37) dX8_numbers_36 rfl rfl ?_
        refine aw_aload_n (n := 38) dX8_numbers_37 rfl rfl ?_
        refine aw_geti (n := 41) dX8_numbers_38 fX8_110 E_164 rfl rfl ?_
        rw [up2_s]
        refine aw_if_eq (tg := 51) (n := 44) dX8_numbers_41 (by decide) rfl (fun c_41 => ?_) (fun c_41 => by exact absurd rfl c_41)
        refine aw_iload_n (n := 52) dX8_numbers_51 rfl rfl ?_
        refine aw_bipush (n := 54) (v := 6) dX8_numbers_52 (by decide) rfl ?_
        refine aw_icmp_eq (tg := 63) (n := 57) dX8_numbers_54 (by decide) rfl (fun c_54 => by first | exact absurd rfl c_54 | exact absurd c_54 (by decide)) (fun _ => ?_)
        refine aw_iload_n (n := 58) dX8_numbers_57 rfl rfl ?_
        refine aw_bipush (n := 60) (v := 7) dX8_numbers_58 (by decide) rfl ?_
        refine aw_icmp_ne (tg := 78) (n := 63) dX8_numbers_60 (by decide) rfl (fun _ => ?_) (fun c_60 => by first | exact absurd rfl c_60 | exact absurd c_60 (by decide))
        refine aw_iconst (n := 79) (v := 0) dX8_numbers_78 (by decide) rfl ?_
        refine aw_puti (n := 82) dX8_numbers_79 pX8_110 E_164 rfl rfl ?_
        refine aw_aload_n (n := 83) dX8_numbers_82 rfl rfl ?_
        refine aw_geti (n := 86) dX8_numbers_83 fX8_110 E_164 rfl rfl ?_
        rw [up2_s]
        refine aw_if_eq (tg := 90) (n := 89) dX8_numbers_86 (by decide) rfl (fun c_86 => ?_) (fun c_86 => by exact absurd rfl c_86)
        refine aw_aload_n (n := 91) dX8_numbers_90 rfl rfl ?_
        refine aw_getr (n := 94) dX8_numbers_91 fX8_43 E_164 rfl rfl ?_
        refine aw_iload_n (n := 95) dX8_numbers_94 rfl rfl ?_
        refine aw_iald (n := 96) dX8_numbers_95 E_176 (by assumption) rfl ?_
        rw [haa, up2_a _ _ (by decide), up2_a _ _ (by decide), up2_a _ _ (by decide), gx]
        refine aw_istore_n (n := 97) (L' := [_, _, _, _, _]) dX8_numbers_96 (Nat.le_of_ble_eq_true rfl) rfl rfl ?_
        refine aw_aload_n (n := 98) dX8_numbers_97 rfl rfl ?_
        refine aw_getr (n := 101) dX8_numbers_98 fX8_43 E_164 rfl rfl ?_
        refine aw_iload_n (n := 102) dX8_numbers_101 rfl rfl ?_
        refine aw_iconst (n := 103) (v := 1) dX8_numbers_102 (by decide) rfl ?_
        refine aw_iadd (n := 104) dX8_numbers_103 rfl ?_
        rw [nI_1]
        refine aw_iald (n := 105) dX8_numbers_104 E_176 (by assumption) rfl ?_
        rw [hbb, up2_a _ _ (by decide), up2_a _ _ (by decide), up2_a _ _ (by decide), gy]
        refine aw_istore (n := 107) (L' := [_, _, _, _, _]) dX8_numbers_105 (Nat.le_of_ble_eq_true rfl) rfl rfl ?_
        refine aw_aload_n (n := 108) dX8_numbers_107 rfl rfl ?_
        refine aw_iload_n (n := 109) dX8_numbers_108 rfl rfl ?_
        refine aw_iconst (n := 110) (v := 3) dX8_numbers_109 (by decide) rfl ?_
        refine aw_icmp_ne (tg := 120) (n := 113) dX8_numbers_110 (by decide) rfl (fun _ => ?_) (fun c_110 => by first | exact absurd rfl c_110 | exact absurd c_110 (by decide))
        refine aw_iload_n (n := 121) dX8_numbers_120 rfl rfl ?_
        refine aw_iconst (n := 122) (v := 4) dX8_numbers_121 (by decide) rfl ?_
        refine aw_icmp_ne (tg := 132) (n := 125) dX8_numbers_122 (by decide) rfl (fun _ => ?_) (fun c_122 => by first | exact absurd rfl c_122 | exact absurd c_122 (by decide))
        refine aw_iload_n (n := 133) dX8_numbers_132 rfl rfl ?_
        refine aw_iconst (n := 134) (v := 5) dX8_numbers_133 (by decide) rfl ?_
        refine aw_icmp_ne (tg := 144) (n := 137) dX8_numbers_134 (by decide) rfl (fun c_134 => by first | exact absurd rfl c_134 | exact absurd c_134 (by decide)) (fun _ => ?_)
        refine aw_iload_n (n := 138) dX8_numbers_137 rfl rfl ?_
        refine aw_iload (n := 140) dX8_numbers_138 rfl rfl ?_
        refine aw_imul (n := 141) dX8_numbers_140 rfl ?_
        refine aw_goto (n := 181) dX8_numbers_141 (by decide) ?_
        refine aw_v1 (d1 := d - 1) (n := 184) (Z := mX8_whole) (ci := 6) (L0 := [_, _]) dX8_numbers_181 kX8_whole gX8_149 iyX8_whole eyX8_whole rfl rfl E_164 rfl (Nat.le_of_ble_eq_true rfl) rfl rfl (by omega) (Nat.le_of_ble_eq_true rfl) ?_
        refine aw_aload_n (n := 1) dX8_whole_0 rfl rfl ?_
        refine aw_iconst (n := 2) (v := 0) dX8_whole_1 (by decide) rfl ?_
        refine aw_puti (n := 5) dX8_whole_2 pX8_128 E_164 rfl rfl ?_
        refine aw_aload_n (n := 6) dX8_whole_5 rfl rfl ?_
        refine aw_iload_n (n := 7) dX8_whole_6 rfl rfl ?_
        refine aw_puti (n := 10) dX8_whole_7 pX8_131 E_164 rfl rfl ?_
        refine aw_vret dX8_whole_10 rfl ?_
        dsimp only [aPush]
        refine aw_vret dX8_numbers_184 rfl ?_
        exact eQ_whole hQ (fE_up (fE_up (fE_up (fE_refl _ _) (by omega)) (by omega)) (by omega)) (up2_s _ _ _ _) (by rw [up2_k _ _ (by decide), up2_k _ _ (by decide), up2_k _ _ (by decide)]; exact h22)
      · by_cases hy : y = 0
        · have hQ : eQ mk M (.inl 5) Q := by
            have h9 : opB 6 x y = .inl 5 := if_pos hy
            rw [← h9]; exact hQ
          refine aw_aload_n (n := 1) dX8_numbers_0 rfl rfl ?_
          refine aw_aload_n (n := 2) dX8_numbers_1 rfl rfl ?_
          refine aw_iload_n (n := 3) dX8_numbers_2 rfl rfl ?_
          refine aw_iconst (n := 4) (v := 0) dX8_numbers_3 (by decide) rfl ?_
          refine aw_v2 (d1 := d - 1) (n := 7) (Z := mX8_wrong) (ci := 6) (L0 := [_, _, _]) dX8_numbers_4 kX8_wrong gX8_141 iyX8_wrong eyX8_wrong rfl rfl E_164 rfl rfl (Nat.le_of_ble_eq_true rfl) rfl rfl (by omega) (Nat.le_of_ble_eq_true rfl) (m_wrong (need := 0) (by omega) (by decide) ha ?_)
          dsimp only [aPush]
          rw [hka]
          refine aw_puti (n := 10) dX8_numbers_7 pX8_110 E_164 rfl rfl ?_
          refine aw_aload_n (n := 11) dX8_numbers_10 rfl rfl ?_
          refine aw_aload_n (n := 12) dX8_numbers_11 rfl rfl ?_
          refine aw_geti (n := 15) dX8_numbers_12 fX8_110 E_164 rfl rfl ?_
          rw [up2_s]
          refine aw_if_eq (tg := 25) (n := 18) dX8_numbers_15 (by decide) rfl (fun c_15 => ?_) (fun c_15 => by exact absurd rfl c_15)
          refine aw_aload_n (n := 26) dX8_numbers_25 rfl rfl ?_
          refine aw_iload_n (n := 27) dX8_numbers_26 rfl rfl ?_
          refine aw_iconst (n := 28) (v := 1) dX8_numbers_27 (by decide) rfl ?_
          refine aw_iadd (n := 29) dX8_numbers_28 rfl ?_
          rw [nI_1]
          refine aw_iconst (n := 30) (v := 0) dX8_numbers_29 (by decide) rfl ?_
          refine aw_v2 (d1 := d - 1) (n := 33) (Z := mX8_wrong) (ci := 6) (L0 := [_, _, _]) dX8_numbers_30 kX8_wrong gX8_141 iyX8_wrong eyX8_wrong rfl rfl E_164 rfl rfl (Nat.le_of_ble_eq_true rfl) rfl rfl (by omega) (Nat.le_of_ble_eq_true rfl) (m_wrong (mk := mk) (need := 0) (v := some (.inl y)) (by omega) (by decide) (by unfold gV; rw [up2_ra _ _ (by decide), up2_ra _ _ (by decide), up2_ra _ _ (by decide)]; exact mV_mono hb (Nat.le_refl _) (fun _ _ => by rw [up2_a _ _ (by decide)])) ?_)
          dsimp only [aPush]
          rw [hkb]
          refine aw_puti (n := 36) dX8_numbers_33 pX8_110 E_164 rfl rfl ?_
          refine aw_aload_n (n := 37) dX8_numbers_36 rfl rfl ?_
          refine aw_aload_n (n := 38) dX8_numbers_37 rfl rfl ?_
          refine aw_geti (n := 41) dX8_numbers_38 fX8_110 E_164 rfl rfl ?_
          rw [up2_s]
          refine aw_if_eq (tg := 51) (n := 44) dX8_numbers_41 (by decide) rfl (fun c_41 => ?_) (fun c_41 => by exact absurd rfl c_41)
          refine aw_iload_n (n := 52) dX8_numbers_51 rfl rfl ?_
          refine aw_bipush (n := 54) (v := 6) dX8_numbers_52 (by decide) rfl ?_
          refine aw_icmp_eq (tg := 63) (n := 57) dX8_numbers_54 (by decide) rfl (fun _ => ?_) (fun c_54 => by first | exact absurd rfl c_54 | exact absurd c_54 (by decide))
          refine aw_aload_n (n := 64) dX8_numbers_63 rfl rfl ?_
          refine aw_getr (n := 67) dX8_numbers_64 fX8_43 E_164 rfl rfl ?_
          refine aw_iload_n (n := 68) dX8_numbers_67 rfl rfl ?_
          refine aw_iconst (n := 69) (v := 1) dX8_numbers_68 (by decide) rfl ?_
          refine aw_iadd (n := 70) dX8_numbers_69 rfl ?_
          rw [nI_1]
          refine aw_iald (n := 71) dX8_numbers_70 E_176 (by assumption) rfl ?_
          rw [hbb, up2_a _ _ (by decide), up2_a _ _ (by decide), gy]
          refine aw_if_ne (tg := 78) (n := 74) dX8_numbers_71 (by decide) rfl (fun c_71 => by exact absurd hy c_71) (fun c_71 => ?_)
          refine aw_iconst (n := 75) (v := 5) dX8_numbers_74 (by decide) rfl ?_
          refine aw_goto (n := 79) dX8_numbers_75 (by decide) ?_
          refine aw_puti (n := 82) dX8_numbers_79 pX8_110 E_164 rfl rfl ?_
          refine aw_aload_n (n := 83) dX8_numbers_82 rfl rfl ?_
          refine aw_geti (n := 86) dX8_numbers_83 fX8_110 E_164 rfl rfl ?_
          rw [up2_s]
          refine aw_if_eq (tg := 90) (n := 89) dX8_numbers_86 (by decide) rfl (fun c_86 => by exact absurd c_86 (by decide)) (fun c_86 => ?_)
          refine aw_vret dX8_numbers_89 rfl ?_
          exact hQ.1 5 _ rfl (up2_s _ _ _ _) (by repeat rw [up2_k _ _ (by decide)]) (fE_up (fE_up (fE_up (fE_refl _ _) (by omega)) (by omega)) (by omega))
        · have hQ : eQ mk M (.inr (some (.inl (x / y)))) Q := by
            have h9 : opB 6 x y = .inr (some (.inl (x / y))) := if_neg hy
            rw [← h9]; exact hQ
          refine aw_aload_n (n := 1) dX8_numbers_0 rfl rfl ?_
          refine aw_aload_n (n := 2) dX8_numbers_1 rfl rfl ?_
          refine aw_iload_n (n := 3) dX8_numbers_2 rfl rfl ?_
          refine aw_iconst (n := 4) (v := 0) dX8_numbers_3 (by decide) rfl ?_
          refine aw_v2 (d1 := d - 1) (n := 7) (Z := mX8_wrong) (ci := 6) (L0 := [_, _, _]) dX8_numbers_4 kX8_wrong gX8_141 iyX8_wrong eyX8_wrong rfl rfl E_164 rfl rfl (Nat.le_of_ble_eq_true rfl) rfl rfl (by omega) (Nat.le_of_ble_eq_true rfl) (m_wrong (need := 0) (by omega) (by decide) ha ?_)
          dsimp only [aPush]
          rw [hka]
          refine aw_puti (n := 10) dX8_numbers_7 pX8_110 E_164 rfl rfl ?_
          refine aw_aload_n (n := 11) dX8_numbers_10 rfl rfl ?_
          refine aw_aload_n (n := 12) dX8_numbers_11 rfl rfl ?_
          refine aw_geti (n := 15) dX8_numbers_12 fX8_110 E_164 rfl rfl ?_
          rw [up2_s]
          refine aw_if_eq (tg := 25) (n := 18) dX8_numbers_15 (by decide) rfl (fun c_15 => ?_) (fun c_15 => by exact absurd rfl c_15)
          refine aw_aload_n (n := 26) dX8_numbers_25 rfl rfl ?_
          refine aw_iload_n (n := 27) dX8_numbers_26 rfl rfl ?_
          refine aw_iconst (n := 28) (v := 1) dX8_numbers_27 (by decide) rfl ?_
          refine aw_iadd (n := 29) dX8_numbers_28 rfl ?_
          rw [nI_1]
          refine aw_iconst (n := 30) (v := 0) dX8_numbers_29 (by decide) rfl ?_
          refine aw_v2 (d1 := d - 1) (n := 33) (Z := mX8_wrong) (ci := 6) (L0 := [_, _, _]) dX8_numbers_30 kX8_wrong gX8_141 iyX8_wrong eyX8_wrong rfl rfl E_164 rfl rfl (Nat.le_of_ble_eq_true rfl) rfl rfl (by omega) (Nat.le_of_ble_eq_true rfl) (m_wrong (mk := mk) (need := 0) (v := some (.inl y)) (by omega) (by decide) (by unfold gV; rw [up2_ra _ _ (by decide), up2_ra _ _ (by decide), up2_ra _ _ (by decide)]; exact mV_mono hb (Nat.le_refl _) (fun _ _ => by rw [up2_a _ _ (by decide)])) ?_)
          dsimp only [aPush]
          rw [hkb]
          refine aw_puti (n := 36) dX8_numbers_33 pX8_110 E_164 rfl rfl ?_
          refine aw_aload_n (n := 37) dX8_numbers_36 rfl rfl ?_
          refine aw_aload_n (n := 38) dX8_numbers_37 rfl rfl ?_
          refine aw_geti (n := 41) dX8_numbers_38 fX8_110 E_164 rfl rfl ?_
          rw [up2_s]
          refine aw_if_eq (tg := 51) (n := 44) dX8_numbers_41 (by decide) rfl (fun c_41 => ?_) (fun c_41 => by exact absurd rfl c_41)
          refine aw_iload_n (n := 52) dX8_numbers_51 rfl rfl ?_
          refine aw_bipush (n := 54) (v := 6) dX8_numbers_52 (by decide) rfl ?_
          refine aw_icmp_eq (tg := 63) (n := 57) dX8_numbers_54 (by decide) rfl (fun _ => ?_) (fun c_54 => by first | exact absurd rfl c_54 | exact absurd c_54 (by decide))
          refine aw_aload_n (n := 64) dX8_numbers_63 rfl rfl ?_
          refine aw_getr (n := 67) dX8_numbers_64 fX8_43 E_164 rfl rfl ?_
          refine aw_iload_n (n := 68) dX8_numbers_67 rfl rfl ?_
          refine aw_iconst (n := 69) (v := 1) dX8_numbers_68 (by decide) rfl ?_
          refine aw_iadd (n := 70) dX8_numbers_69 rfl ?_
          rw [nI_1]
          refine aw_iald (n := 71) dX8_numbers_70 E_176 (by assumption) rfl ?_
          rw [hbb, up2_a _ _ (by decide), up2_a _ _ (by decide), gy]
          refine aw_if_ne (tg := 78) (n := 74) dX8_numbers_71 (by decide) rfl (fun c_71 => ?_) (fun c_71 => by exact absurd c_71 hy)
          refine aw_iconst (n := 79) (v := 0) dX8_numbers_78 (by decide) rfl ?_
          refine aw_puti (n := 82) dX8_numbers_79 pX8_110 E_164 rfl rfl ?_
          refine aw_aload_n (n := 83) dX8_numbers_82 rfl rfl ?_
          refine aw_geti (n := 86) dX8_numbers_83 fX8_110 E_164 rfl rfl ?_
          rw [up2_s]
          refine aw_if_eq (tg := 90) (n := 89) dX8_numbers_86 (by decide) rfl (fun c_86 => ?_) (fun c_86 => by exact absurd rfl c_86)
          refine aw_aload_n (n := 91) dX8_numbers_90 rfl rfl ?_
          refine aw_getr (n := 94) dX8_numbers_91 fX8_43 E_164 rfl rfl ?_
          refine aw_iload_n (n := 95) dX8_numbers_94 rfl rfl ?_
          refine aw_iald (n := 96) dX8_numbers_95 E_176 (by assumption) rfl ?_
          rw [haa, up2_a _ _ (by decide), up2_a _ _ (by decide), up2_a _ _ (by decide), gx]
          refine aw_istore_n (n := 97) (L' := [_, _, _, _, _]) dX8_numbers_96 (Nat.le_of_ble_eq_true rfl) rfl rfl ?_
          refine aw_aload_n (n := 98) dX8_numbers_97 rfl rfl ?_
          refine aw_getr (n := 101) dX8_numbers_98 fX8_43 E_164 rfl rfl ?_
          refine aw_iload_n (n := 102) dX8_numbers_101 rfl rfl ?_
          refine aw_iconst (n := 103) (v := 1) dX8_numbers_102 (by decide) rfl ?_
          refine aw_iadd (n := 104) dX8_numbers_103 rfl ?_
          rw [nI_1]
          refine aw_iald (n := 105) dX8_numbers_104 E_176 (by assumption) rfl ?_
          rw [hbb, up2_a _ _ (by decide), up2_a _ _ (by decide), up2_a _ _ (by decide), gy]
          refine aw_istore (n := 107) (L' := [_, _, _, _, _]) dX8_numbers_105 (Nat.le_of_ble_eq_true rfl) rfl rfl ?_
          refine aw_aload_n (n := 108) dX8_numbers_107 rfl rfl ?_
          refine aw_iload_n (n := 109) dX8_numbers_108 rfl rfl ?_
          refine aw_iconst (n := 110) (v := 3) dX8_numbers_109 (by decide) rfl ?_
          refine aw_icmp_ne (tg := 120) (n := 113) dX8_numbers_110 (by decide) rfl (fun _ => ?_) (fun c_110 => by first | exact absurd rfl c_110 | exact absurd c_110 (by decide))
          refine aw_iload_n (n := 121) dX8_numbers_120 rfl rfl ?_
          refine aw_iconst (n := 122) (v := 4) dX8_numbers_121 (by decide) rfl ?_
          refine aw_icmp_ne (tg := 132) (n := 125) dX8_numbers_122 (by decide) rfl (fun _ => ?_) (fun c_122 => by first | exact absurd rfl c_122 | exact absurd c_122 (by decide))
          refine aw_iload_n (n := 133) dX8_numbers_132 rfl rfl ?_
          refine aw_iconst (n := 134) (v := 5) dX8_numbers_133 (by decide) rfl ?_
          refine aw_icmp_ne (tg := 144) (n := 137) dX8_numbers_134 (by decide) rfl (fun _ => ?_) (fun c_134 => by first | exact absurd rfl c_134 | exact absurd c_134 (by decide))
          refine aw_iload_n (n := 145) dX8_numbers_144 rfl rfl ?_
          refine aw_bipush (n := 147) (v := 6) dX8_numbers_145 (by decide) rfl ?_
          refine aw_icmp_ne (tg := 157) (n := 150) dX8_numbers_147 (by decide) rfl (fun c_147 => by first | exact absurd rfl c_147 | exact absurd c_147 (by decide)) (fun _ => ?_)
          refine aw_iload_n (n := 151) dX8_numbers_150 rfl rfl ?_
          refine aw_iload (n := 153) dX8_numbers_151 rfl rfl ?_
          refine aw_idiv (n := 154) dX8_numbers_153 (by first | assumption | decide) rfl ?_
          refine aw_goto (n := 181) dX8_numbers_154 (by decide) ?_
          refine aw_v1 (d1 := d - 1) (n := 184) (Z := mX8_whole) (ci := 6) (L0 := [_, _]) dX8_numbers_181 kX8_whole gX8_149 iyX8_whole eyX8_whole rfl rfl E_164 rfl (Nat.le_of_ble_eq_true rfl) rfl rfl (by omega) (Nat.le_of_ble_eq_true rfl) ?_
          refine aw_aload_n (n := 1) dX8_whole_0 rfl rfl ?_
          refine aw_iconst (n := 2) (v := 0) dX8_whole_1 (by decide) rfl ?_
          refine aw_puti (n := 5) dX8_whole_2 pX8_128 E_164 rfl rfl ?_
          refine aw_aload_n (n := 6) dX8_whole_5 rfl rfl ?_
          refine aw_iload_n (n := 7) dX8_whole_6 rfl rfl ?_
          refine aw_puti (n := 10) dX8_whole_7 pX8_131 E_164 rfl rfl ?_
          refine aw_vret dX8_whole_10 rfl ?_
          dsimp only [aPush]
          refine aw_vret dX8_numbers_184 rfl ?_
          exact eQ_whole hQ (fE_up (fE_up (fE_up (fE_refl _ _) (by omega)) (by omega)) (by omega)) (up2_s _ _ _ _) (by rw [up2_k _ _ (by decide), up2_k _ _ (by decide), up2_k _ _ (by decide)]; exact h22)
      · by_cases hy : y = 0
        · have hQ : eQ mk M (.inl 5) Q := by
            have h9 : opB 7 x y = .inl 5 := if_pos hy
            rw [← h9]; exact hQ
          refine aw_aload_n (n := 1) dX8_numbers_0 rfl rfl ?_
          refine aw_aload_n (n := 2) dX8_numbers_1 rfl rfl ?_
          refine aw_iload_n (n := 3) dX8_numbers_2 rfl rfl ?_
          refine aw_iconst (n := 4) (v := 0) dX8_numbers_3 (by decide) rfl ?_
          refine aw_v2 (d1 := d - 1) (n := 7) (Z := mX8_wrong) (ci := 6) (L0 := [_, _, _]) dX8_numbers_4 kX8_wrong gX8_141 iyX8_wrong eyX8_wrong rfl rfl E_164 rfl rfl (Nat.le_of_ble_eq_true rfl) rfl rfl (by omega) (Nat.le_of_ble_eq_true rfl) (m_wrong (need := 0) (by omega) (by decide) ha ?_)
          dsimp only [aPush]
          rw [hka]
          refine aw_puti (n := 10) dX8_numbers_7 pX8_110 E_164 rfl rfl ?_
          refine aw_aload_n (n := 11) dX8_numbers_10 rfl rfl ?_
          refine aw_aload_n (n := 12) dX8_numbers_11 rfl rfl ?_
          refine aw_geti (n := 15) dX8_numbers_12 fX8_110 E_164 rfl rfl ?_
          rw [up2_s]
          refine aw_if_eq (tg := 25) (n := 18) dX8_numbers_15 (by decide) rfl (fun c_15 => ?_) (fun c_15 => by exact absurd rfl c_15)
          refine aw_aload_n (n := 26) dX8_numbers_25 rfl rfl ?_
          refine aw_iload_n (n := 27) dX8_numbers_26 rfl rfl ?_
          refine aw_iconst (n := 28) (v := 1) dX8_numbers_27 (by decide) rfl ?_
          refine aw_iadd (n := 29) dX8_numbers_28 rfl ?_
          rw [nI_1]
          refine aw_iconst (n := 30) (v := 0) dX8_numbers_29 (by decide) rfl ?_
          refine aw_v2 (d1 := d - 1) (n := 33) (Z := mX8_wrong) (ci := 6) (L0 := [_, _, _]) dX8_numbers_30 kX8_wrong gX8_141 iyX8_wrong eyX8_wrong rfl rfl E_164 rfl rfl (Nat.le_of_ble_eq_true rfl) rfl rfl (by omega) (Nat.le_of_ble_eq_true rfl) (m_wrong (mk := mk) (need := 0) (v := some (.inl y)) (by omega) (by decide) (by unfold gV; rw [up2_ra _ _ (by decide), up2_ra _ _ (by decide), up2_ra _ _ (by decide)]; exact mV_mono hb (Nat.le_refl _) (fun _ _ => by rw [up2_a _ _ (by decide)])) ?_)
          dsimp only [aPush]
          rw [hkb]
          refine aw_puti (n := 36) dX8_numbers_33 pX8_110 E_164 rfl rfl ?_
          refine aw_aload_n (n := 37) dX8_numbers_36 rfl rfl ?_
          refine aw_aload_n (n := 38) dX8_numbers_37 rfl rfl ?_
          refine aw_geti (n := 41) dX8_numbers_38 fX8_110 E_164 rfl rfl ?_
          rw [up2_s]
          refine aw_if_eq (tg := 51) (n := 44) dX8_numbers_41 (by decide) rfl (fun c_41 => ?_) (fun c_41 => by exact absurd rfl c_41)
          refine aw_iload_n (n := 52) dX8_numbers_51 rfl rfl ?_
          refine aw_bipush (n := 54) (v := 6) dX8_numbers_52 (by decide) rfl ?_
          refine aw_icmp_eq (tg := 63) (n := 57) dX8_numbers_54 (by decide) rfl (fun c_54 => by first | exact absurd rfl c_54 | exact absurd c_54 (by decide)) (fun _ => ?_)
          refine aw_iload_n (n := 58) dX8_numbers_57 rfl rfl ?_
          refine aw_bipush (n := 60) (v := 7) dX8_numbers_58 (by decide) rfl ?_
          refine aw_icmp_ne (tg := 78) (n := 63) dX8_numbers_60 (by decide) rfl (fun c_60 => by first | exact absurd rfl c_60 | exact absurd c_60 (by decide)) (fun _ => ?_)
          refine aw_aload_n (n := 64) dX8_numbers_63 rfl rfl ?_
          refine aw_getr (n := 67) dX8_numbers_64 fX8_43 E_164 rfl rfl ?_
          refine aw_iload_n (n := 68) dX8_numbers_67 rfl rfl ?_
          refine aw_iconst (n := 69) (v := 1) dX8_numbers_68 (by decide) rfl ?_
          refine aw_iadd (n := 70) dX8_numbers_69 rfl ?_
          rw [nI_1]
          refine aw_iald (n := 71) dX8_numbers_70 E_176 (by assumption) rfl ?_
          rw [hbb, up2_a _ _ (by decide), up2_a _ _ (by decide), gy]
          refine aw_if_ne (tg := 78) (n := 74) dX8_numbers_71 (by decide) rfl (fun c_71 => by exact absurd hy c_71) (fun c_71 => ?_)
          refine aw_iconst (n := 75) (v := 5) dX8_numbers_74 (by decide) rfl ?_
          refine aw_goto (n := 79) dX8_numbers_75 (by decide) ?_
          refine aw_puti (n := 82) dX8_numbers_79 pX8_110 E_164 rfl rfl ?_
          refine aw_aload_n (n := 83) dX8_numbers_82 rfl rfl ?_
          refine aw_geti (n := 86) dX8_numbers_83 fX8_110 E_164 rfl rfl ?_
          rw [up2_s]
          refine aw_if_eq (tg := 90) (n := 89) dX8_numbers_86 (by decide) rfl (fun c_86 => by exact absurd c_86 (by decide)) (fun c_86 => ?_)
          refine aw_vret dX8_numbers_89 rfl ?_
          exact hQ.1 5 _ rfl (up2_s _ _ _ _) (by repeat rw [up2_k _ _ (by decide)]) (fE_up (fE_up (fE_up (fE_refl _ _) (by omega)) (by omega)) (by omega))
        · have hQ : eQ mk M (.inr (some (.inl (x - x / y * y)))) Q := by
            have h9 : opB 7 x y = .inr (some (.inl (x - x / y * y))) := if_neg hy
            rw [← h9]; exact hQ
          refine aw_aload_n (n := 1) dX8_numbers_0 rfl rfl ?_
          refine aw_aload_n (n := 2) dX8_numbers_1 rfl rfl ?_
          refine aw_iload_n (n := 3) dX8_numbers_2 rfl rfl ?_
          refine aw_iconst (n := 4) (v := 0) dX8_numbers_3 (by decide) rfl ?_
          refine aw_v2 (d1 := d - 1) (n := 7) (Z := mX8_wrong) (ci := 6) (L0 := [_, _, _]) dX8_numbers_4 kX8_wrong gX8_141 iyX8_wrong eyX8_wrong rfl rfl E_164 rfl rfl (Nat.le_of_ble_eq_true rfl) rfl rfl (by omega) (Nat.le_of_ble_eq_true rfl) (m_wrong (need := 0) (by omega) (by decide) ha ?_)
          dsimp only [aPush]
          rw [hka]
          refine aw_puti (n := 10) dX8_numbers_7 pX8_110 E_164 rfl rfl ?_
          refine aw_aload_n (n := 11) dX8_numbers_10 rfl rfl ?_
          refine aw_aload_n (n := 12) dX8_numbers_11 rfl rfl ?_
          refine aw_geti (n := 15) dX8_numbers_12 fX8_110 E_164 rfl rfl ?_
          rw [up2_s]
          refine aw_if_eq (tg := 25) (n := 18) dX8_numbers_15 (by decide) rfl (fun c_15 => ?_) (fun c_15 => by exact absurd rfl c_15)
          refine aw_aload_n (n := 26) dX8_numbers_25 rfl rfl ?_
          refine aw_iload_n (n := 27) dX8_numbers_26 rfl rfl ?_
          refine aw_iconst (n := 28) (v := 1) dX8_numbers_27 (by decide) rfl ?_
          refine aw_iadd (n := 29) dX8_numbers_28 rfl ?_
          rw [nI_1]
          refine aw_iconst (n := 30) (v := 0) dX8_numbers_29 (by decide) rfl ?_
          refine aw_v2 (d1 := d - 1) (n := 33) (Z := mX8_wrong) (ci := 6) (L0 := [_, _, _]) dX8_numbers_30 kX8_wrong gX8_141 iyX8_wrong eyX8_wrong rfl rfl E_164 rfl rfl (Nat.le_of_ble_eq_true rfl) rfl rfl (by omega) (Nat.le_of_ble_eq_true rfl) (m_wrong (mk := mk) (need := 0) (v := some (.inl y)) (by omega) (by decide) (by unfold gV; rw [up2_ra _ _ (by decide), up2_ra _ _ (by decide), up2_ra _ _ (by decide)]; exact mV_mono hb (Nat.le_refl _) (fun _ _ => by rw [up2_a _ _ (by decide)])) ?_)
          dsimp only [aPush]
          rw [hkb]
          refine aw_puti (n := 36) dX8_numbers_33 pX8_110 E_164 rfl rfl ?_
          refine aw_aload_n (n := 37) dX8_numbers_36 rfl rfl ?_
          refine aw_aload_n (n := 38) dX8_numbers_37 rfl rfl ?_
          refine aw_geti (n := 41) dX8_numbers_38 fX8_110 E_164 rfl rfl ?_
          rw [up2_s]
          refine aw_if_eq (tg := 51) (n := 44) dX8_numbers_41 (by decide) rfl (fun c_41 => ?_) (fun c_41 => by exact absurd rfl c_41)
          refine aw_iload_n (n := 52) dX8_numbers_51 rfl rfl ?_
          refine aw_bipush (n := 54) (v := 6) dX8_numbers_52 (by decide) rfl ?_
          refine aw_icmp_eq (tg := 63) (n := 57) dX8_numbers_54 (by decide) rfl (fun c_54 => by first | exact absurd rfl c_54 | exact absurd c_54 (by decide)) (fun _ => ?_)
          refine aw_iload_n (n := 58) dX8_numbers_57 rfl rfl ?_
          refine aw_bipush (n := 60) (v := 7) dX8_numbers_58 (by decide) rfl ?_
          refine aw_icmp_ne (tg := 78) (n := 63) dX8_numbers_60 (by decide) rfl (fun c_60 => by first | exact absurd rfl c_60 | exact absurd c_60 (by decide)) (fun _ => ?_)
          refine aw_aload_n (n := 64) dX8_numbers_63 rfl rfl ?_
          refine aw_getr (n := 67) dX8_numbers_64 fX8_43 E_164 rfl rfl ?_
          refine aw_iload_n (n := 68) dX8_numbers_67 rfl rfl ?_
          refine aw_iconst (n := 69) (v := 1) dX8_numbers_68 (by decide) rfl ?_
          refine aw_iadd (n := 70) dX8_numbers_69 rfl ?_
          rw [nI_1]
          refine aw_iald (n := 71) dX8_numbers_70 E_176 (by assumption) rfl ?_
          rw [hbb, up2_a _ _ (by decide), up2_a _ _ (by decide), gy]
          refine aw_if_ne (tg := 78) (n := 74) dX8_numbers_71 (by decide) rfl (fun c_71 => ?_) (fun c_71 => by exact absurd c_71 hy)
          refine aw_iconst (n := 79) (v := 0) dX8_numbers_78 (by decide) rfl ?_
          refine aw_puti (n := 82) dX8_numbers_79 pX8_110 E_164 rfl rfl ?_
          refine aw_aload_n (n := 83) dX8_numbers_82 rfl rfl ?_
          refine aw_geti (n := 86) dX8_numbers_83 fX8_110 E_164 rfl rfl ?_
          rw [up2_s]
          refine aw_if_eq (tg := 90) (n := 89) dX8_numbers_86 (by decide) rfl (fun c_86 => ?_) (fun c_86 => by exact absurd rfl c_86)
          refine aw_aload_n (n := 91) dX8_numbers_90 rfl rfl ?_
          refine aw_getr (n := 94) dX8_numbers_91 fX8_43 E_164 rfl rfl ?_
          refine aw_iload_n (n := 95) dX8_numbers_94 rfl rfl ?_
          refine aw_iald (n := 96) dX8_numbers_95 E_176 (by assumption) rfl ?_
          rw [haa, up2_a _ _ (by decide), up2_a _ _ (by decide), up2_a _ _ (by decide), gx]
          refine aw_istore_n (n := 97) (L' := [_, _, _, _, _]) dX8_numbers_96 (Nat.le_of_ble_eq_true rfl) rfl rfl ?_
          refine aw_aload_n (n := 98) dX8_numbers_97 rfl rfl ?_
          refine aw_getr (n := 101) dX8_numbers_98 fX8_43 E_164 rfl rfl ?_
          refine aw_iload_n (n := 102) dX8_numbers_101 rfl rfl ?_
          refine aw_iconst (n := 103) (v := 1) dX8_numbers_102 (by decide) rfl ?_
          refine aw_iadd (n := 104) dX8_numbers_103 rfl ?_
          rw [nI_1]
          refine aw_iald (n := 105) dX8_numbers_104 E_176 (by assumption) rfl ?_
          rw [hbb, up2_a _ _ (by decide), up2_a _ _ (by decide), up2_a _ _ (by decide), gy]
          refine aw_istore (n := 107) (L' := [_, _, _, _, _]) dX8_numbers_105 (Nat.le_of_ble_eq_true rfl) rfl rfl ?_
          refine aw_aload_n (n := 108) dX8_numbers_107 rfl rfl ?_
          refine aw_iload_n (n := 109) dX8_numbers_108 rfl rfl ?_
          refine aw_iconst (n := 110) (v := 3) dX8_numbers_109 (by decide) rfl ?_
          refine aw_icmp_ne (tg := 120) (n := 113) dX8_numbers_110 (by decide) rfl (fun _ => ?_) (fun c_110 => by first | exact absurd rfl c_110 | exact absurd c_110 (by decide))
          refine aw_iload_n (n := 121) dX8_numbers_120 rfl rfl ?_
          refine aw_iconst (n := 122) (v := 4) dX8_numbers_121 (by decide) rfl ?_
          refine aw_icmp_ne (tg := 132) (n := 125) dX8_numbers_122 (by decide) rfl (fun _ => ?_) (fun c_122 => by first | exact absurd rfl c_122 | exact absurd c_122 (by decide))
          refine aw_iload_n (n := 133) dX8_numbers_132 rfl rfl ?_
          refine aw_iconst (n := 134) (v := 5) dX8_numbers_133 (by decide) rfl ?_
          refine aw_icmp_ne (tg := 144) (n := 137) dX8_numbers_134 (by decide) rfl (fun _ => ?_) (fun c_134 => by first | exact absurd rfl c_134 | exact absurd c_134 (by decide))
          refine aw_iload_n (n := 145) dX8_numbers_144 rfl rfl ?_
          refine aw_bipush (n := 147) (v := 6) dX8_numbers_145 (by decide) rfl ?_
          refine aw_icmp_ne (tg := 157) (n := 150) dX8_numbers_147 (by decide) rfl (fun _ => ?_) (fun c_147 => by first | exact absurd rfl c_147 | exact absurd c_147 (by decide))
          refine aw_iload_n (n := 158) dX8_numbers_157 rfl rfl ?_
          refine aw_bipush (n := 160) (v := 7) dX8_numbers_158 (by decide) rfl ?_
          refine aw_icmp_ne (tg := 170) (n := 163) dX8_numbers_160 (by decide) rfl (fun c_160 => by first | exact absurd rfl c_160 | exact absurd c_160 (by decide)) (fun _ => ?_)
          refine aw_iload_n (n := 164) dX8_numbers_163 rfl rfl ?_
          refine aw_iload (n := 166) dX8_numbers_164 rfl rfl ?_
          refine aw_irem (n := 167) dX8_numbers_166 (by first | assumption | decide) rfl ?_
          refine aw_goto (n := 181) dX8_numbers_167 (by decide) ?_
          refine aw_v1 (d1 := d - 1) (n := 184) (Z := mX8_whole) (ci := 6) (L0 := [_, _]) dX8_numbers_181 kX8_whole gX8_149 iyX8_whole eyX8_whole rfl rfl E_164 rfl (Nat.le_of_ble_eq_true rfl) rfl rfl (by omega) (Nat.le_of_ble_eq_true rfl) ?_
          refine aw_aload_n (n := 1) dX8_whole_0 rfl rfl ?_
          refine aw_iconst (n := 2) (v := 0) dX8_whole_1 (by decide) rfl ?_
          refine aw_puti (n := 5) dX8_whole_2 pX8_128 E_164 rfl rfl ?_
          refine aw_aload_n (n := 6) dX8_whole_5 rfl rfl ?_
          refine aw_iload_n (n := 7) dX8_whole_6 rfl rfl ?_
          refine aw_puti (n := 10) dX8_whole_7 pX8_131 E_164 rfl rfl ?_
          refine aw_vret dX8_whole_10 rfl ?_
          dsimp only [aPush]
          refine aw_vret dX8_numbers_184 rfl ?_
          exact eQ_whole hQ (fE_up (fE_up (fE_up (fE_refl _ _) (by omega)) (by omega)) (by omega)) (up2_s _ _ _ _) (by rw [up2_k _ _ (by decide), up2_k _ _ (by decide), up2_k _ _ (by decide)]; exact h22)
      · refine aw_aload_n (n := 1) dX8_numbers_0 rfl rfl ?_
        refine aw_aload_n (n := 2) dX8_numbers_1 rfl rfl ?_
        refine aw_iload_n (n := 3) dX8_numbers_2 rfl rfl ?_
        refine aw_iconst (n := 4) (v := 0) dX8_numbers_3 (by decide) rfl ?_
        refine aw_v2 (d1 := d - 1) (n := 7) (Z := mX8_wrong) (ci := 6) (L0 := [_, _, _]) dX8_numbers_4 kX8_wrong gX8_141 iyX8_wrong eyX8_wrong rfl rfl E_164 rfl rfl (Nat.le_of_ble_eq_true rfl) rfl rfl (by omega) (Nat.le_of_ble_eq_true rfl) (m_wrong (need := 0) (by omega) (by decide) ha ?_)
        dsimp only [aPush]
        rw [hka]
        refine aw_puti (n := 10) dX8_numbers_7 pX8_110 E_164 rfl rfl ?_
        refine aw_aload_n (n := 11) dX8_numbers_10 rfl rfl ?_
        refine aw_aload_n (n := 12) dX8_numbers_11 rfl rfl ?_
        refine aw_geti (n := 15) dX8_numbers_12 fX8_110 E_164 rfl rfl ?_
        rw [up2_s]
        refine aw_if_eq (tg := 25) (n := 18) dX8_numbers_15 (by decide) rfl (fun c_15 => ?_) (fun c_15 => by exact absurd rfl c_15)
        refine aw_aload_n (n := 26) dX8_numbers_25 rfl rfl ?_
        refine aw_iload_n (n := 27) dX8_numbers_26 rfl rfl ?_
        refine aw_iconst (n := 28) (v := 1) dX8_numbers_27 (by decide) rfl ?_
        refine aw_iadd (n := 29) dX8_numbers_28 rfl ?_
        rw [nI_1]
        refine aw_iconst (n := 30) (v := 0) dX8_numbers_29 (by decide) rfl ?_
        refine aw_v2 (d1 := d - 1) (n := 33) (Z := mX8_wrong) (ci := 6) (L0 := [_, _, _]) dX8_numbers_30 kX8_wrong gX8_141 iyX8_wrong eyX8_wrong rfl rfl E_164 rfl rfl (Nat.le_of_ble_eq_true rfl) rfl rfl (by omega) (Nat.le_of_ble_eq_true rfl) (m_wrong (mk := mk) (need := 0) (v := some (.inl y)) (by omega) (by decide) (by unfold gV; rw [up2_ra _ _ (by decide), up2_ra _ _ (by decide), up2_ra _ _ (by decide)]; exact mV_mono hb (Nat.le_refl _) (fun _ _ => by rw [up2_a _ _ (by decide)])) ?_)
        dsimp only [aPush]
        rw [hkb]
        refine aw_puti (n := 36) dX8_numbers_33 pX8_110 E_164 rfl rfl ?_
        refine aw_aload_n (n := 37) dX8_numbers_36 rfl rfl ?_
        refine aw_aload_n (n := 38) dX8_numbers_37 rfl rfl ?_
        refine aw_geti (n := 41) dX8_numbers_38 fX8_110 E_164 rfl rfl ?_
        rw [up2_s]
        refine aw_if_eq (tg := 51) (n := 44) dX8_numbers_41 (by decide) rfl (fun c_41 => ?_) (fun c_41 => by exact absurd rfl c_41)
        refine aw_iload_n (n := 52) dX8_numbers_51 rfl rfl ?_
        refine aw_bipush (n := 54) (v := 6) dX8_numbers_52 (by decide) rfl ?_
        refine aw_icmp_eq (tg := 63) (n := 57) dX8_numbers_54 (by decide) rfl (fun c_54 => by first | exact absurd rfl c_54 | exact absurd c_54 (by decide)) (fun _ => ?_)
        refine aw_iload_n (n := 58) dX8_numbers_57 rfl rfl ?_
        refine aw_bipush (n := 60) (v := 7) dX8_numbers_58 (by decide) rfl ?_
        refine aw_icmp_ne (tg := 78) (n := 63) dX8_numbers_60 (by decide) rfl (fun _ => ?_) (fun c_60 => by first | exact absurd rfl c_60 | exact absurd c_60 (by decide))
        refine aw_iconst (n := 79) (v := 0) dX8_numbers_78 (by decide) rfl ?_
        refine aw_puti (n := 82) dX8_numbers_79 pX8_110 E_164 rfl rfl ?_
        refine aw_aload_n (n := 83) dX8_numbers_82 rfl rfl ?_
        refine aw_geti (n := 86) dX8_numbers_83 fX8_110 E_164 rfl rfl ?_
        rw [up2_s]
        refine aw_if_eq (tg := 90) (n := 89) dX8_numbers_86 (by decide) rfl (fun c_86 => ?_) (fun c_86 => by exact absurd rfl c_86)
        refine aw_aload_n (n := 91) dX8_numbers_90 rfl rfl ?_
        refine aw_getr (n := 94) dX8_numbers_91 fX8_43 E_164 rfl rfl ?_
        refine aw_iload_n (n := 95) dX8_numbers_94 rfl rfl ?_
        refine aw_iald (n := 96) dX8_numbers_95 E_176 (by assumption) rfl ?_
        rw [haa, up2_a _ _ (by decide), up2_a _ _ (by decide), up2_a _ _ (by decide), gx]
        refine aw_istore_n (n := 97) (L' := [_, _, _, _, _]) dX8_numbers_96 (Nat.le_of_ble_eq_true rfl) rfl rfl ?_
        refine aw_aload_n (n := 98) dX8_numbers_97 rfl rfl ?_
        refine aw_getr (n := 101) dX8_numbers_98 fX8_43 E_164 rfl rfl ?_
        refine aw_iload_n (n := 102) dX8_numbers_101 rfl rfl ?_
        refine aw_iconst (n := 103) (v := 1) dX8_numbers_102 (by decide) rfl ?_
        refine aw_iadd (n := 104) dX8_numbers_103 rfl ?_
        rw [nI_1]
        refine aw_iald (n := 105) dX8_numbers_104 E_176 (by assumption) rfl ?_
        rw [hbb, up2_a _ _ (by decide), up2_a _ _ (by decide), up2_a _ _ (by decide), gy]
        refine aw_istore (n := 107) (L' := [_, _, _, _, _]) dX8_numbers_105 (Nat.le_of_ble_eq_true rfl) rfl rfl ?_
        refine aw_aload_n (n := 108) dX8_numbers_107 rfl rfl ?_
        refine aw_iload_n (n := 109) dX8_numbers_108 rfl rfl ?_
        refine aw_iconst (n := 110) (v := 3) dX8_numbers_109 (by decide) rfl ?_
        refine aw_icmp_ne (tg := 120) (n := 113) dX8_numbers_110 (by decide) rfl (fun _ => ?_) (fun c_110 => by first | exact absurd rfl c_110 | exact absurd c_110 (by decide))
        refine aw_iload_n (n := 121) dX8_numbers_120 rfl rfl ?_
        refine aw_iconst (n := 122) (v := 4) dX8_numbers_121 (by decide) rfl ?_
        refine aw_icmp_ne (tg := 132) (n := 125) dX8_numbers_122 (by decide) rfl (fun _ => ?_) (fun c_122 => by first | exact absurd rfl c_122 | exact absurd c_122 (by decide))
        refine aw_iload_n (n := 133) dX8_numbers_132 rfl rfl ?_
        refine aw_iconst (n := 134) (v := 5) dX8_numbers_133 (by decide) rfl ?_
        refine aw_icmp_ne (tg := 144) (n := 137) dX8_numbers_134 (by decide) rfl (fun _ => ?_) (fun c_134 => by first | exact absurd rfl c_134 | exact absurd c_134 (by decide))
        refine aw_iload_n (n := 145) dX8_numbers_144 rfl rfl ?_
        refine aw_bipush (n := 147) (v := 6) dX8_numbers_145 (by decide) rfl ?_
        refine aw_icmp_ne (tg := 157) (n := 150) dX8_numbers_147 (by decide) rfl (fun _ => ?_) (fun c_147 => by first | exact absurd rfl c_147 | exact absurd c_147 (by decide))
        refine aw_iload_n (n := 158) dX8_numbers_157 rfl rfl ?_
        refine aw_bipush (n := 160) (v := 7) dX8_numbers_158 (by decide) rfl ?_
        refine aw_icmp_ne (tg := 170) (n := 163) dX8_numbers_160 (by decide) rfl (fun _ => ?_) (fun c_160 => by first | exact absurd rfl c_160 | exact absurd c_160 (by decide))
        refine aw_iload_n (n := 171) dX8_numbers_170 rfl rfl ?_
        refine aw_iload (n := 173) dX8_numbers_171 rfl rfl ?_
        refine aw_icmp_ge (tg := 180) (n := 176) dX8_numbers_173 (by decide) rfl (fun c_173 => ?_) (fun c_173 => ?_)
        · refine aw_iconst (n := 181) (v := 0) dX8_numbers_180 (by decide) rfl ?_
          refine aw_v1 (d1 := d - 1) (n := 184) (Z := mX8_whole) (ci := 6) (L0 := [_, _]) dX8_numbers_181 kX8_whole gX8_149 iyX8_whole eyX8_whole rfl rfl E_164 rfl (Nat.le_of_ble_eq_true rfl) rfl rfl (by omega) (Nat.le_of_ble_eq_true rfl) ?_
          refine aw_aload_n (n := 1) dX8_whole_0 rfl rfl ?_
          refine aw_iconst (n := 2) (v := 0) dX8_whole_1 (by decide) rfl ?_
          refine aw_puti (n := 5) dX8_whole_2 pX8_128 E_164 rfl rfl ?_
          refine aw_aload_n (n := 6) dX8_whole_5 rfl rfl ?_
          refine aw_iload_n (n := 7) dX8_whole_6 rfl rfl ?_
          refine aw_puti (n := 10) dX8_whole_7 pX8_131 E_164 rfl rfl ?_
          refine aw_vret dX8_whole_10 rfl ?_
          dsimp only [aPush]
          refine aw_vret dX8_numbers_184 rfl ?_
          first
            | (have h9 : opB 8 x y = .inr (some (.inl 0)) := by show tru (decide (x < y)) = _; rw [decide_eq_false (i_nlt.mpr c_173)]; rfl
               rw [h9] at hQ
               exact eQ_whole hQ (fE_up (fE_up (fE_up (fE_refl _ _) (by omega)) (by omega)) (by omega)) (up2_s _ _ _ _) (by rw [up2_k _ _ (by decide), up2_k _ _ (by decide), up2_k _ _ (by decide)]; exact h22))
            | (have h9 : opB 8 x y = .inr (some (.inl 1)) := by show tru (decide (x < y)) = _; rw [decide_eq_true (i_nle.mp c_173)]; rfl
               rw [h9] at hQ
               exact eQ_whole hQ (fE_up (fE_up (fE_up (fE_refl _ _) (by omega)) (by omega)) (by omega)) (up2_s _ _ _ _) (by rw [up2_k _ _ (by decide), up2_k _ _ (by decide), up2_k _ _ (by decide)]; exact h22))
        · refine aw_iconst (n := 177) (v := 1) dX8_numbers_176 (by decide) rfl ?_
          refine aw_goto (n := 181) dX8_numbers_177 (by decide) ?_
          refine aw_v1 (d1 := d - 1) (n := 184) (Z := mX8_whole) (ci := 6) (L0 := [_, _]) dX8_numbers_181 kX8_whole gX8_149 iyX8_whole eyX8_whole rfl rfl E_164 rfl (Nat.le_of_ble_eq_true rfl) rfl rfl (by omega) (Nat.le_of_ble_eq_true rfl) ?_
          refine aw_aload_n (n := 1) dX8_whole_0 rfl rfl ?_
          refine aw_iconst (n := 2) (v := 0) dX8_whole_1 (by decide) rfl ?_
          refine aw_puti (n := 5) dX8_whole_2 pX8_128 E_164 rfl rfl ?_
          refine aw_aload_n (n := 6) dX8_whole_5 rfl rfl ?_
          refine aw_iload_n (n := 7) dX8_whole_6 rfl rfl ?_
          refine aw_puti (n := 10) dX8_whole_7 pX8_131 E_164 rfl rfl ?_
          refine aw_vret dX8_whole_10 rfl ?_
          dsimp only [aPush]
          refine aw_vret dX8_numbers_184 rfl ?_
          first
            | (have h9 : opB 8 x y = .inr (some (.inl 0)) := by show tru (decide (x < y)) = _; rw [decide_eq_false (i_nlt.mpr c_173)]; rfl
               rw [h9] at hQ
               exact eQ_whole hQ (fE_up (fE_up (fE_up (fE_refl _ _) (by omega)) (by omega)) (by omega)) (up2_s _ _ _ _) (by rw [up2_k _ _ (by decide), up2_k _ _ (by decide), up2_k _ _ (by decide)]; exact h22))
            | (have h9 : opB 8 x y = .inr (some (.inl 1)) := by show tru (decide (x < y)) = _; rw [decide_eq_true (i_nle.mp c_173)]; rfl
               rw [h9] at hQ
               exact eQ_whole hQ (fE_up (fE_up (fE_up (fE_refl _ _) (by omega)) (by omega)) (by omega)) (up2_s _ _ _ _) (by rw [up2_k _ _ (by decide), up2_k _ _ (by decide), up2_k _ _ (by decide)]; exact h22))
    · have hr : (bW (some (.inl x)) fun x => bW vb fun y => opB w x y) = .inl (lk 0 vb) := by
        rcases vb with _ | y | r
        · rfl
        · exact absurd rfl hkb
        · rfl
      rw [hr] at hQ
      have hnb : ¬ nI (lk 0 vb) = 0 := nI_ne0 (by omega) (by omega)
      refine aw_aload_n (n := 1) dX8_numbers_0 rfl rfl ?_
      refine aw_aload_n (n := 2) dX8_numbers_1 rfl rfl ?_
      refine aw_iload_n (n := 3) dX8_numbers_2 rfl rfl ?_
      refine aw_iconst (n := 4) (v := 0) dX8_numbers_3 (by decide) rfl ?_
      refine aw_v2 (d1 := d - 1) (n := 7) (Z := mX8_wrong) (ci := 6) (L0 := [_, _, _]) dX8_numbers_4 kX8_wrong gX8_141 iyX8_wrong eyX8_wrong rfl rfl E_164 rfl rfl (Nat.le_of_ble_eq_true rfl) rfl rfl (by omega) (Nat.le_of_ble_eq_true rfl) (m_wrong (need := 0) (by omega) (by decide) ha ?_)
      dsimp only [aPush]
      rw [hka]
      refine aw_puti (n := 10) dX8_numbers_7 pX8_110 E_164 rfl rfl ?_
      refine aw_aload_n (n := 11) dX8_numbers_10 rfl rfl ?_
      refine aw_aload_n (n := 12) dX8_numbers_11 rfl rfl ?_
      refine aw_geti (n := 15) dX8_numbers_12 fX8_110 E_164 rfl rfl ?_
      rw [up2_s]
      refine aw_if_eq (tg := 25) (n := 18) dX8_numbers_15 (by decide) rfl (fun c_15 => ?_) (fun c_15 => by exact absurd rfl c_15)
      refine aw_aload_n (n := 26) dX8_numbers_25 rfl rfl ?_
      refine aw_iload_n (n := 27) dX8_numbers_26 rfl rfl ?_
      refine aw_iconst (n := 28) (v := 1) dX8_numbers_27 (by decide) rfl ?_
      refine aw_iadd (n := 29) dX8_numbers_28 rfl ?_
      rw [nI_1]
      refine aw_iconst (n := 30) (v := 0) dX8_numbers_29 (by decide) rfl ?_
      refine aw_v2 (d1 := d - 1) (n := 33) (Z := mX8_wrong) (ci := 6) (L0 := [_, _, _]) dX8_numbers_30 kX8_wrong gX8_141 iyX8_wrong eyX8_wrong rfl rfl E_164 rfl rfl (Nat.le_of_ble_eq_true rfl) rfl rfl (by omega) (Nat.le_of_ble_eq_true rfl) (m_wrong (mk := mk) (need := 0) (v := vb) (by omega) (by decide) (by unfold gV; rw [up2_ra _ _ (by decide), up2_ra _ _ (by decide), up2_ra _ _ (by decide)]; exact mV_mono hb (Nat.le_refl _) (fun _ _ => by rw [up2_a _ _ (by decide)])) ?_)
      dsimp only [aPush]
      refine aw_puti (n := 36) dX8_numbers_33 pX8_110 E_164 rfl rfl ?_
      refine aw_aload_n (n := 37) dX8_numbers_36 rfl rfl ?_
      refine aw_aload_n (n := 38) dX8_numbers_37 rfl rfl ?_
      refine aw_geti (n := 41) dX8_numbers_38 fX8_110 E_164 rfl rfl ?_
      rw [up2_s]
      refine aw_if_eq (tg := 51) (n := 44) dX8_numbers_41 (by decide) rfl (fun c_41 => by exact absurd c_41 hnb) (fun c_41 => ?_)
      refine aw_aload_n (n := 45) dX8_numbers_44 rfl rfl ?_
      refine aw_geti (n := 48) dX8_numbers_45 fX8_110 E_164 rfl rfl ?_
      rw [up2_s]
      refine aw_goto (n := 79) dX8_numbers_48 (by decide) ?_
      refine aw_puti (n := 82) dX8_numbers_79 pX8_110 E_164 rfl rfl ?_
      refine aw_aload_n (n := 83) dX8_numbers_82 rfl rfl ?_
      refine aw_geti (n := 86) dX8_numbers_83 fX8_110 E_164 rfl rfl ?_
      rw [up2_s]
      refine aw_if_eq (tg := 90) (n := 89) dX8_numbers_86 (by decide) rfl (fun c_86 => by exact absurd c_86 hnb) (fun c_86 => ?_)
      refine aw_vret dX8_numbers_89 rfl ?_
      exact hQ.1 _ _ rfl (up2_s _ _ _ _) (by repeat rw [up2_k _ _ (by decide)]) (fE_up (fE_up (fE_up (fE_refl _ _) (by omega)) (by omega)) (by omega))
  · have hr : (bW va fun x => bW vb fun y => opB w x y) = .inl (lk 0 va) := by
      rcases va with _ | y | r
      · rfl
      · exact absurd rfl hka
      · rfl
    rw [hr] at hQ
    have hnb : ¬ nI (lk 0 va) = 0 := nI_ne0 (by omega) (by omega)
    refine aw_aload_n (n := 1) dX8_numbers_0 rfl rfl ?_
    refine aw_aload_n (n := 2) dX8_numbers_1 rfl rfl ?_
    refine aw_iload_n (n := 3) dX8_numbers_2 rfl rfl ?_
    refine aw_iconst (n := 4) (v := 0) dX8_numbers_3 (by decide) rfl ?_
    refine aw_v2 (d1 := d - 1) (n := 7) (Z := mX8_wrong) (ci := 6) (L0 := [_, _, _]) dX8_numbers_4 kX8_wrong gX8_141 iyX8_wrong eyX8_wrong rfl rfl E_164 rfl rfl (Nat.le_of_ble_eq_true rfl) rfl rfl (by omega) (Nat.le_of_ble_eq_true rfl) (m_wrong (need := 0) (by omega) (by decide) ha ?_)
    dsimp only [aPush]
    refine aw_puti (n := 10) dX8_numbers_7 pX8_110 E_164 rfl rfl ?_
    refine aw_aload_n (n := 11) dX8_numbers_10 rfl rfl ?_
    refine aw_aload_n (n := 12) dX8_numbers_11 rfl rfl ?_
    refine aw_geti (n := 15) dX8_numbers_12 fX8_110 E_164 rfl rfl ?_
    rw [up2_s]
    refine aw_if_eq (tg := 25) (n := 18) dX8_numbers_15 (by decide) rfl (fun c_15 => by exact absurd c_15 hnb) (fun c_15 => ?_)
    refine aw_aload_n (n := 19) dX8_numbers_18 rfl rfl ?_
    refine aw_geti (n := 22) dX8_numbers_19 fX8_110 E_164 rfl rfl ?_
    rw [up2_s]
    refine aw_goto (n := 33) dX8_numbers_22 (by decide) ?_
    refine aw_puti (n := 36) dX8_numbers_33 pX8_110 E_164 rfl rfl ?_
    refine aw_aload_n (n := 37) dX8_numbers_36 rfl rfl ?_
    refine aw_aload_n (n := 38) dX8_numbers_37 rfl rfl ?_
    refine aw_geti (n := 41) dX8_numbers_38 fX8_110 E_164 rfl rfl ?_
    rw [up2_s]
    refine aw_if_eq (tg := 51) (n := 44) dX8_numbers_41 (by decide) rfl (fun c_41 => by exact absurd c_41 hnb) (fun c_41 => ?_)
    refine aw_aload_n (n := 45) dX8_numbers_44 rfl rfl ?_
    refine aw_geti (n := 48) dX8_numbers_45 fX8_110 E_164 rfl rfl ?_
    rw [up2_s]
    refine aw_goto (n := 79) dX8_numbers_48 (by decide) ?_
    refine aw_puti (n := 82) dX8_numbers_79 pX8_110 E_164 rfl rfl ?_
    refine aw_aload_n (n := 83) dX8_numbers_82 rfl rfl ?_
    refine aw_geti (n := 86) dX8_numbers_83 fX8_110 E_164 rfl rfl ?_
    rw [up2_s]
    refine aw_if_eq (tg := 90) (n := 89) dX8_numbers_86 (by decide) rfl (fun c_86 => by exact absurd c_86 hnb) (fun c_86 => ?_)
    refine aw_vret dX8_numbers_89 rfl ?_
    exact hQ.1 _ _ rfl (up2_s _ _ _ _) (by repeat rw [up2_k _ _ (by decide)]) (fE_up (fE_up (fE_up (fE_refl _ _) (by omega)) (by omega)) (by omega))
end MVAL
