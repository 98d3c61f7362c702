def mT (cnt : Nat) (T : tm) (M : aM) : Prop := ∀ t, t < cnt → M 165 t = T 0 t ∧ M 166 t = T 1 t ∧ M 167 t = T 2 t ∧ M 168 t = T 3 t ∧ M 169 t = T 4 t
def lsM (h r mk : Nat) (M : aM) : Prop := M 164 15 = nI h ∧ M 164 20 = 0 ∧ M 164 9 = nI (60 - r) ∧ M 164 22 = nI mk ∧ r ≤ 60 ∧ mk + h + r ≤ 60 ∧ h + r ≤ 60
/-- what is left to the next work -/
def wS (r : Nat) (M : aM) : Prop := M 164 9 = nI (60 - r) ∧ r ≤ 60 ∧ ∃ mk, M 164 22 = nI mk ∧ mk + r ≤ 60
/-- nothing but the work's own cells has changed -/
def fG (M M' : aM) : Prop := (∀ q, q < 164 ∨ (165 ≤ q ∧ q ≤ 172) ∨ 180 ≤ q → M' q = M q) ∧ (∀ j, j ≠ 9 → j ≠ 15 → j ≠ 17 → j ≠ 18 → j ≠ 19 → j ≠ 20 → j ≠ 22 → M' 164 j = M 164 j) ∧ ∀ j, j < 48 → M' 178 j = M 178 j
theorem fG_trans {M M1 M2 : aM} (h1 : fG M M1) (h2 : fG M1 M2) : fG M M2 := ⟨fun q hq => (h2.1 q hq).trans (h1.1 q hq), fun j a b c e f g i => (h2.2.1 j a b c e f g i).trans (h1.2.1 j a b c e f g i), fun j hj => (h2.2.2 j hj).trans (h1.2.2 j hj)⟩
def fM (h at_ mk : Nat) (M M' : aM) : Prop := fG M M' ∧ (∀ j, j < h → M' 173 j = M 173 j ∧ M' 174 j = M 174 j) ∧ (∀ j, j < 3 * h → j ≠ at_ → M' 175 j = M 175 j ∧ M' 176 j = M 176 j ∧ M' 177 j = M 177 j) ∧ ∀ j, j < 16 * (3 + mk) → M' 178 j = M 178 j
theorem fG_T {cnt : Nat} {T : tm} {M M' : aM} (h : fG M M') (hT : mT cnt T M) : mT cnt T M' := by
  intro t ht
  rw [h.1 165 (by omega), h.1 166 (by omega), h.1 167 (by omega), h.1 168 (by omega), h.1 169 (by omega)]
  exact hT t ht
theorem fG_I {inp : Nat → vV} {M M' : aM} (h : fG M M') (hI : mI inp M) : mI inp M' := by
  intro i hi
  have g := hI i hi
  rcases hv : inp i with _ | x | r
  · rw [hv] at g; show M' 170 i < 0; rw [h.1 170 (by omega)]; exact g
  · rw [hv] at g; show M' 170 i = 0 ∧ M' 171 i = x; rw [h.1 170 (by omega), h.1 171 (by omega)]; exact g
  · rw [hv] at g
    obtain ⟨g1, g2, g3, g4⟩ := g
    show M' 170 i = 1 ∧ _ ∧ M' 171 i = nI r.length ∧ _
    rw [h.1 170 (by omega), h.1 171 (by omega)]
    exact ⟨g1, g2, g3, fun j hj => by rw [h.2.2 _ (by omega)]; exact g4 j hj⟩
theorem fE_G {mk : Nat} {M M' : aM} (h : fE mk M M') : fG M M' := ⟨fun q hq => h.1 q (by omega) (by omega) (by omega), fun j a b c e f g i => h.2.1 j c e f g i, fun j hj => h.2.2 j (by omega)⟩
section MWORK
variable {l : Launch} {K : aK} {d : Nat} {M : aM} {Q : Option Value → aE → aM → Prop}
/-- a turn of the loop that begins a part -/
theorem m_turnN {h r mk i tt j : Nat} {x1 x2 x3 x4 x5 : Value} (hd : 5 ≤ d) (hL : lsM (h + 1) r mk M) (hp : M 173 h = nI tt) (hph : M 174 h = nI i) (hj : j < 60) (hi : i < 3)
    (hn : ∀ Q' : Option Value → aE → aM → Prop, Q' (some (.int (nI j))) EE M → aw l K mX8_nextPart (d - 1) 0 0 0 [.ref 164, .int (nI tt), .int (nI h), .null, .null] [] EE M Q')
    (k0 : r = 0 → ∀ M' x2 x3 x4, M' 164 20 = nI 7 → wS r M' → fG M M' → aw l K mX8_work d 0 0 15 [.ref 164, x1, x2, x3, x4, x5] [] EE M' Q)
    (k1 : ∀ r2 M' x2 x3 x4, r = r2 + 1 → lsM (h + 2) r2 mk M' → M' 173 (h + 1) = nI j → M' 174 (h + 1) = 0 → M' 174 h = nI (i + 1) → M' 173 h = nI tt → (∀ q, q < h → M' 173 q = M 173 q ∧ M' 174 q = M 174 q) → (∀ q, q ≠ 164 → q ≠ 173 → q ≠ 174 → M' q = M q) → (∀ q, q ≠ 9 → q ≠ 15 → M' 164 q = M 164 q) → aw l K mX8_work d 0 0 15 [.ref 164, x1, x2, x3, x4, x5] [] EE M' Q) : aw l K mX8_work d 0 0 15 [.ref 164, x1, x2, x3, x4, x5] [] EE M Q := by
  obtain ⟨l15, l20, l9, l22, l60, lmk, lh⟩ := hL
  have hin : vp_in (nI h) 61 := vp_in_nI (by omega) (by decide)
  have hhh : (nI h).toNatClampNeg = h := nI_clamp (by omega)
  have hin1 : vp_in (nI (h + 1)) 61 := vp_in_nI (by omega) (by decide)
  have hh1 : (nI (h + 1)).toNatClampNeg = h + 1 := nI_clamp (by omega)
  refine aw_aload_n (n := 16) dX8_work_15 rfl rfl ?_
  refine aw_geti (n := 19) dX8_work_16 fX8_113 E_164 rfl rfl ?_
  rw [l15]
  refine aw_if_le (tg := 172) (n := 22) dX8_work_19 (by decide) rfl (fun c_19 => by exact absurd c_19 (nI_nle (by omega) (by omega))) (fun c_19 => ?_)
  refine aw_aload_n (n := 23) dX8_work_22 rfl rfl ?_
  refine aw_geti (n := 26) dX8_work_23 fX8_110 E_164 rfl rfl ?_
  rw [l20]
  refine aw_if_ne (tg := 172) (n := 29) dX8_work_26 (by decide) rfl (fun c_26 => by exact absurd rfl c_26) (fun c_26 => ?_)
  refine aw_aload_n (n := 30) dX8_work_29 rfl rfl ?_
  refine aw_geti (n := 33) dX8_work_30 fX8_113 E_164 rfl rfl ?_
  rw [l15]
  refine aw_iconst (n := 34) (v := 1) dX8_work_33 (by decide) rfl ?_
  refine aw_isub (n := 35) dX8_work_34 rfl ?_
  rw [nI_pred]
  refine aw_istore_n (n := 36) (L' := [_, _, _, _, _, _]) dX8_work_35 (Nat.le_of_ble_eq_true rfl) rfl rfl ?_
  refine aw_aload_n (n := 37) dX8_work_36 rfl rfl ?_
  refine aw_getr (n := 40) dX8_work_37 fX8_34 E_164 rfl rfl ?_
  refine aw_iload_n (n := 41) dX8_work_40 rfl rfl ?_
  refine aw_iald (n := 42) dX8_work_41 E_173 (by assumption) rfl ?_
  rw [hhh, hp]
  refine aw_istore_n (n := 43) (L' := [_, _, _, _, _, _]) dX8_work_42 (Nat.le_of_ble_eq_true rfl) rfl rfl ?_
  refine aw_aload_n (n := 44) dX8_work_43 rfl rfl ?_
  refine aw_iload_n (n := 45) dX8_work_44 rfl rfl ?_
  refine aw_iload_n (n := 46) dX8_work_45 rfl rfl ?_
  refine aw_v2 (d1 := d - 1) (n := 49) (Z := mX8_nextPart) (ci := 6) (L0 := [_, _, _, .null, .null]) dX8_work_46 kX8_nextPart gX8_120 iyX8_nextPart eyX8_nextPart rfl rfl E_164 rfl rfl (Nat.le_of_ble_eq_true rfl) rfl rfl (by omega) (Nat.le_of_ble_eq_true rfl) (hn _ ?_)
  dsimp only [aPush]
  refine aw_istore (n := 51) (L' := [_, _, _, _, _, _]) dX8_work_49 (Nat.le_of_ble_eq_true rfl) rfl rfl ?_
  refine aw_iload (n := 53) dX8_work_51 rfl rfl ?_
  refine aw_if_lt (tg := 75) (n := 56) dX8_work_53 (by decide) rfl (fun c_53 => by exact absurd c_53 (nI_pos (by omega))) (fun c_53 => ?_)
  refine aw_aload_n (n := 57) dX8_work_56 rfl rfl ?_
  refine aw_getr (n := 60) dX8_work_57 fX8_37 E_164 rfl rfl ?_
  refine aw_iload_n (n := 61) dX8_work_60 rfl rfl ?_
  refine aw_dup2 (n := 62) dX8_work_61 rfl rfl rfl ?_
  refine aw_iald (n := 63) dX8_work_62 E_174 (by assumption) rfl ?_
  rw [hhh, hph]
  refine aw_iconst (n := 64) (v := 1) dX8_work_63 (by decide) rfl ?_
  refine aw_iadd (n := 65) dX8_work_64 rfl ?_
  rw [nI_1]
  refine aw_iast (n := 66) dX8_work_65 E_174 (by assumption) rfl ?_
  rw [hhh]
  refine aw_aload_n (n := 67) dX8_work_66 rfl rfl ?_
  refine aw_iload (n := 69) dX8_work_67 rfl rfl ?_
  refine aw_v1 (d1 := d - 1) (n := 72) (Z := mX8_begin) (ci := 6) (L0 := [_, _]) dX8_work_69 kX8_begin gX8_116 iyX8_begin eyX8_begin rfl rfl E_164 rfl (Nat.le_of_ble_eq_true rfl) rfl rfl (by omega) (Nat.le_of_ble_eq_true rfl) ?_
  refine aw_aload_n (n := 1) dX8_begin_0 rfl rfl ?_
  refine aw_geti (n := 4) dX8_begin_1 fX8_107 E_164 rfl rfl ?_
  rw [up2_a _ _ (by decide), l9]
  refine aw_bipush (n := 6) (v := 60) dX8_begin_4 (by decide) rfl ?_
  refine aw_icmp_ne (tg := 16) (n := 9) dX8_begin_6 (by decide) rfl (fun c_6 => ?_) (fun c_6 => ?_)
  · refine aw_aload_n (n := 17) dX8_begin_16 rfl rfl ?_
    refine aw_dup (n := 18) dX8_begin_17 rfl rfl ?_
    refine aw_geti (n := 21) dX8_begin_18 fX8_107 E_164 rfl rfl ?_
    rw [up2_a _ _ (by decide), l9]
    refine aw_iconst (n := 22) (v := 1) dX8_begin_21 (by decide) rfl ?_
    refine aw_iadd (n := 23) dX8_begin_22 rfl ?_
    refine aw_puti (n := 26) dX8_begin_23 pX8_107 E_164 rfl rfl ?_
    refine aw_aload_n (n := 27) dX8_begin_26 rfl rfl ?_
    refine aw_getr (n := 30) dX8_begin_27 fX8_34 E_164 rfl rfl ?_
    refine aw_aload_n (n := 31) dX8_begin_30 rfl rfl ?_
    refine aw_geti (n := 34) dX8_begin_31 fX8_113 E_164 rfl rfl ?_
    rw [up2_k _ _ (by decide), up2_a _ _ (by decide), l15]
    refine aw_iload_n (n := 35) dX8_begin_34 rfl rfl ?_
    refine aw_iast (n := 36) dX8_begin_35 E_173 (by assumption) rfl ?_
    refine aw_aload_n (n := 37) dX8_begin_36 rfl rfl ?_
    refine aw_getr (n := 40) dX8_begin_37 fX8_37 E_164 rfl rfl ?_
    refine aw_aload_n (n := 41) dX8_begin_40 rfl rfl ?_
    refine aw_geti (n := 44) dX8_begin_41 fX8_113 E_164 rfl rfl ?_
    rw [hh1, up2_a _ _ (by decide), up2_k _ _ (by decide), up2_a _ _ (by decide), l15]
    refine aw_iconst (n := 45) (v := 0) dX8_begin_44 (by decide) rfl ?_
    refine aw_iast (n := 46) dX8_begin_45 E_174 (by assumption) rfl ?_
    refine aw_aload_n (n := 47) dX8_begin_46 rfl rfl ?_
    refine aw_dup (n := 48) dX8_begin_47 rfl rfl ?_
    refine aw_geti (n := 51) dX8_begin_48 fX8_113 E_164 rfl rfl ?_
    rw [hh1, up2_a _ _ (by decide), up2_a _ _ (by decide), up2_k _ _ (by decide), up2_a _ _ (by decide), l15]
    refine aw_iconst (n := 52) (v := 1) dX8_begin_51 (by decide) rfl ?_
    refine aw_iadd (n := 53) dX8_begin_52 rfl ?_
    refine aw_puti (n := 56) dX8_begin_53 pX8_113 E_164 rfl rfl ?_
    refine aw_vret dX8_begin_56 rfl ?_
    dsimp only [aPush]
    refine aw_goto (n := 169) dX8_work_72 (by decide) ?_
    refine aw_goto (n := 15) dX8_work_169 (by decide) ?_
    have hr0 : r ≠ 0 := fun q => c_6 (by rw [q]; rfl)
    rw [nI_1, nI_1]
    refine k1 (r - 1) _ _ _ _ (by omega) ⟨?_, ?_, ?_, ?_, by omega, by omega, by omega⟩ ?_ ?_ ?_ ?_ (fun q hq => ⟨?_, ?_⟩) (fun q a b c => ?_) (fun q a b => ?_)
    · rw [up2_s]
    · rw [up2_k _ _ (by decide), up2_a _ _ (by decide), up2_a _ _ (by decide), up2_k _ _ (by decide), up2_a _ _ (by decide)]; exact l20
    · rw [up2_k _ _ (by decide), up2_a _ _ (by decide), up2_a _ _ (by decide), up2_s]
      congr 1; omega
    · rw [up2_k _ _ (by decide), up2_a _ _ (by decide), up2_a _ _ (by decide), up2_k _ _ (by decide), up2_a _ _ (by decide)]; exact l22
    · rw [up2_a _ _ (by decide), up2_a _ _ (by decide), up2_s]
    · rw [up2_a _ _ (by decide), up2_s]
    · rw [up2_a _ _ (by decide), up2_k _ _ (by omega), up2_a _ _ (by decide), up2_a _ _ (by decide), up2_s]
    · rw [up2_a _ _ (by decide), up2_a _ _ (by decide), up2_k _ _ (by omega), up2_a _ _ (by decide), up2_a _ _ (by decide)]; exact hp
    · rw [up2_a _ _ (by decide), up2_a _ _ (by decide), up2_k _ _ (by omega), up2_a _ _ (by decide), up2_a _ _ (by decide)]
    · rw [up2_a _ _ (by decide), up2_k _ _ (by omega), up2_a _ _ (by decide), up2_a _ _ (by decide), up2_k _ _ (by omega)]
    · rw [up2_ra _ _ a, up2_ra _ _ c, up2_ra _ _ b, up2_ra _ _ a, up2_ra _ _ c]
    · rw [up2_k _ _ b, up2_a _ _ (by decide), up2_a _ _ (by decide), up2_k _ _ a, up2_a _ _ (by decide)]
  · refine aw_aload_n (n := 10) dX8_begin_9 rfl rfl ?_
    refine aw_bipush (n := 12) (v := 7) dX8_begin_10 (by decide) rfl ?_
    refine aw_puti (n := 15) dX8_begin_12 pX8_110 E_164 rfl rfl ?_
    refine aw_vret dX8_begin_15 rfl ?_
    dsimp only [aPush]
    refine aw_goto (n := 169) dX8_work_72 (by decide) ?_
    refine aw_goto (n := 15) dX8_work_169 (by decide) ?_
    refine k0 ?_ _ _ _ _ ?_ ⟨?_, l60, mk, ?_, by omega⟩ ?_
    · have := (nI_eq (b := 60) (by omega) (by decide)).mp c_6; omega
    · rw [up2_s]; rfl
    · rw [up2_k _ _ (by decide), up2_a _ _ (by decide)]; exact l9
    · rw [up2_k _ _ (by decide), up2_a _ _ (by decide)]; exact l22
    · exact ⟨fun q hq => by rw [up2_ra _ _ (by omega), up2_ra _ _ (by omega)], fun q a b c e f g i => by rw [up2_k _ _ g, up2_a _ _ (by decide)], fun q hq => by rw [up2_a _ _ (by decide), up2_a _ _ (by decide)]⟩
/-- a turn of the loop that ends a term -/
theorem m_turnE {h r mk tt ph : Nat} {res : Nat ⊕ vV} {M0 : aM} {x1 x2 x3 x4 x5 : Value} (hd : 8 ≤ d) (hL : lsM (h + 1) r mk M) (hp : M 173 h = nI tt) (hph : 1 ≤ h → M 174 (h - 1) = nI ph ∧ 1 ≤ ph ∧ ph ≤ 3)
    (hn : ∀ Q' : Option Value → aE → aM → Prop, Q' (some (.int (-1))) EE M → aw l K mX8_nextPart (d - 1) 0 0 0 [.ref 164, .int (nI tt), .int (nI h), .null, .null] [] EE M Q')
    (he : ∀ Q' : Option Value → aE → aM → Prop, eQ mk M res Q' → aw l K mX8_end (d - 1) 0 0 0 [.ref 164, .int (nI tt), .int (nI h), .null, .null] [] EE M Q')
    (k1 : ∀ k M' x2 x3 x4 x5, res = .inl k → 1 ≤ k → M' 164 20 = nI k → wS r M' → fG M M' → aw l K mX8_work d 0 0 15 [.ref 164, x1, x2, x3, x4, x5] [] EE M' Q) (hk : ∀ k, res = .inl k → 1 ≤ k ∧ k ≤ 7)
    (k2 : ∀ v mk' M' x2 x3 x4 x5, res = .inr v → lsM h r mk' M' → mk ≤ mk' → fM h (3 * (h - 1) + ph - 1) mk M M' → rV M' mk' v → (1 ≤ h → M' 175 (3 * (h - 1) + ph - 1) = M' 164 17 ∧ M' 176 (3 * (h - 1) + ph - 1) = M' 164 18 ∧ M' 177 (3 * (h - 1) + ph - 1) = M' 164 19) → aw l K mX8_work d 0 0 15 [.ref 164, x1, x2, x3, x4, x5] [] EE M' Q) : aw l K mX8_work d 0 0 15 [.ref 164, x1, x2, x3, x4, x5] [] EE M Q := by
  obtain ⟨l15, l20, l9, l22, l60, lmk, lh⟩ := hL
  have hin : vp_in (nI h) 61 := vp_in_nI (by omega) (by decide)
  have hhh : (nI h).toNatClampNeg = h := nI_clamp (by omega)
  refine aw_aload_n (n := 16) dX8_work_15 rfl rfl ?_
  refine aw_geti (n := 19) dX8_work_16 fX8_113 E_164 rfl rfl ?_
  rw [l15]
  refine aw_if_le (tg := 172) (n := 22) dX8_work_19 (by decide) rfl (fun c_19 => by exact absurd c_19 (nI_nle (by omega) (by omega))) (fun c_19 => ?_)
  refine aw_aload_n (n := 23) dX8_work_22 rfl rfl ?_
  refine aw_geti (n := 26) dX8_work_23 fX8_110 E_164 rfl rfl ?_
  rw [l20]
  refine aw_if_ne (tg := 172) (n := 29) dX8_work_26 (by decide) rfl (fun c_26 => by exact absurd rfl c_26) (fun c_26 => ?_)
  refine aw_aload_n (n := 30) dX8_work_29 rfl rfl ?_
  refine aw_geti (n := 33) dX8_work_30 fX8_113 E_164 rfl rfl ?_
  rw [l15]
  refine aw_iconst (n := 34) (v := 1) dX8_work_33 (by decide) rfl ?_
  refine aw_isub (n := 35) dX8_work_34 rfl ?_
  rw [nI_pred]
  refine aw_istore_n (n := 36) (L' := [_, _, _, _, _, _]) dX8_work_35 (Nat.le_of_ble_eq_true rfl) rfl rfl ?_
  refine aw_aload_n (n := 37) dX8_work_36 rfl rfl ?_
  refine aw_getr (n := 40) dX8_work_37 fX8_34 E_164 rfl rfl ?_
  refine aw_iload_n (n := 41) dX8_work_40 rfl rfl ?_
  refine aw_iald (n := 42) dX8_work_41 E_173 (by assumption) rfl ?_
  rw [hhh, hp]
  refine aw_istore_n (n := 43) (L' := [_, _, _, _, _, _]) dX8_work_42 (Nat.le_of_ble_eq_true rfl) rfl rfl ?_
  refine aw_aload_n (n := 44) dX8_work_43 rfl rfl ?_
  refine aw_iload_n (n := 45) dX8_work_44 rfl rfl ?_
  refine aw_iload_n (n := 46) dX8_work_45 rfl rfl ?_
  refine aw_v2 (d1 := d - 1) (n := 49) (Z := mX8_nextPart) (ci := 6) (L0 := [_, _, _, .null, .null]) dX8_work_46 kX8_nextPart gX8_120 iyX8_nextPart eyX8_nextPart rfl rfl E_164 rfl rfl (Nat.le_of_ble_eq_true rfl) rfl rfl (by omega) (Nat.le_of_ble_eq_true rfl) (hn _ ?_)
  dsimp only [aPush]
  refine aw_istore (n := 51) (L' := [_, _, _, _, _, _]) dX8_work_49 (Nat.le_of_ble_eq_true rfl) rfl rfl ?_
  refine aw_iload (n := 53) dX8_work_51 rfl rfl ?_
  refine aw_if_lt (tg := 75) (n := 56) dX8_work_53 (by decide) rfl (fun c_53 => ?_) (fun c_53 => by exact absurd (by decide) c_53)
  refine aw_aload_n (n := 76) dX8_work_75 rfl rfl ?_
  refine aw_geti (n := 79) dX8_work_76 fX8_110 E_164 rfl rfl ?_
  rw [l20]
  refine aw_if_ne (tg := 169) (n := 82) dX8_work_79 (by decide) rfl (fun c_79 => by exact absurd rfl c_79) (fun c_79 => ?_)
  refine aw_aload_n (n := 83) dX8_work_82 rfl rfl ?_
  refine aw_iload_n (n := 84) dX8_work_83 rfl rfl ?_
  refine aw_iload_n (n := 85) dX8_work_84 rfl rfl ?_
  refine aw_v2 (d1 := d - 1) (n := 88) (Z := mX8_end) (ci := 6) (L0 := [_, _, _, .null, .null]) dX8_work_85 kX8_end gX8_124 iyX8_end eyX8_end rfl rfl E_164 rfl rfl (Nat.le_of_ble_eq_true rfl) rfl rfl (by omega) (Nat.le_of_ble_eq_true rfl) (he _ (And.intro (fun k M1 e1 e2 e22 e3 => ?_) (fun v mk' M1 e1 e2 e3 e4 e5 e6 e7 => ?_)))
  · dsimp only [aPush]
    have m15 : M1 164 15 = nI (h + 1) := by rw [e3.2.1 15 (by decide) (by decide) (by decide) (by decide) (by decide)]; exact l15
    have k0 : ∀ x2 x3 x4 x5, aw l K mX8_work d 0 0 15 [.ref 164, x1, x2, x3, x4, x5] [] EE (up2 M1 164 15 (nI h)) Q := fun x2 x3 x4 x5 => by
      refine k1 k _ _ _ _ _ e1 (hk k e1).1 (by rw [up2_k _ _ (by decide)]; exact e2) ⟨by rw [up2_k _ _ (by decide), e3.2.1 9 (by decide) (by decide) (by decide) (by decide) (by decide)]; exact l9, l60, mk, by rw [up2_k _ _ (by decide), e22]; exact l22, by omega⟩ ?_
      have g := fE_G e3
      exact ⟨fun q hq => by rw [up2_ra _ _ (by omega)]; exact g.1 q hq, fun q a b c e f g' i => by rw [up2_k _ _ b]; exact g.2.1 q a b c e f g' i, fun q hq => by rw [up2_a _ _ (by decide)]; exact g.2.2 q hq⟩
    refine aw_aload_n (n := 89) dX8_work_88 rfl rfl ?_
    refine aw_dup (n := 90) dX8_work_89 rfl rfl ?_
    refine aw_geti (n := 93) dX8_work_90 fX8_113 E_164 rfl rfl ?_
    rw [m15]
    refine aw_iconst (n := 94) (v := 1) dX8_work_93 (by decide) rfl ?_
    refine aw_isub (n := 95) dX8_work_94 rfl ?_
    rw [nI_pred]
    refine aw_puti (n := 98) dX8_work_95 pX8_113 E_164 rfl rfl ?_
    refine aw_aload_n (n := 99) dX8_work_98 rfl rfl ?_
    refine aw_geti (n := 102) dX8_work_99 fX8_113 E_164 rfl rfl ?_
    rw [up2_s]
    refine aw_if_le (tg := 169) (n := 105) dX8_work_102 (by decide) rfl (fun c_102 => ?_) (fun c_102 => ?_)
    · refine aw_goto (n := 15) dX8_work_169 (by decide) ?_
      exact k0 _ _ _ _
    · refine aw_aload_n (n := 106) dX8_work_105 rfl rfl ?_
      refine aw_geti (n := 109) dX8_work_106 fX8_110 E_164 rfl rfl ?_
      rw [up2_k _ _ (by decide), e2]
      refine aw_if_ne (tg := 169) (n := 112) dX8_work_109 (by decide) rfl (fun c_109 => ?_) (fun c_109 => by exact absurd c_109 (nI_ne0 (hk k e1).1 (by have := (hk k e1).2; omega)))
      refine aw_goto (n := 15) dX8_work_169 (by decide) ?_
      exact k0 _ _ _ _
  · dsimp only [aPush]
    have m15 : M1 164 15 = nI (h + 1) := by rw [e7.2.1 15 (by decide) (by decide) (by decide) (by decide) (by decide)]; exact l15
    refine aw_aload_n (n := 89) dX8_work_88 rfl rfl ?_
    refine aw_dup (n := 90) dX8_work_89 rfl rfl ?_
    refine aw_geti (n := 93) dX8_work_90 fX8_113 E_164 rfl rfl ?_
    rw [m15]
    refine aw_iconst (n := 94) (v := 1) dX8_work_93 (by decide) rfl ?_
    refine aw_isub (n := 95) dX8_work_94 rfl ?_
    rw [nI_pred]
    refine aw_puti (n := 98) dX8_work_95 pX8_113 E_164 rfl rfl ?_
    refine aw_aload_n (n := 99) dX8_work_98 rfl rfl ?_
    refine aw_geti (n := 102) dX8_work_99 fX8_113 E_164 rfl rfl ?_
    rw [up2_s]
    refine aw_if_le (tg := 169) (n := 105) dX8_work_102 (by decide) rfl (fun c_102 => ?_) (fun c_102 => ?_)
    · refine aw_goto (n := 15) dX8_work_169 (by decide) ?_
      have h0 : h = 0 := by
        have := (nI_leI (b := 0) (by omega) (by decide)).mp c_102; omega
      subst h0
      have g := fE_G e7
      refine k2 v mk' _ _ _ _ _ e1 ⟨?_, ?_, ?_, ?_, l60, by omega, by omega⟩ e4 ⟨⟨fun q hq => by rw [up2_ra _ _ (by omega)]; exact g.1 q hq, fun q a b c e f g' i => by rw [up2_k _ _ b]; exact g.2.1 q a b c e f g' i, fun q hq => by rw [up2_a _ _ (by decide)]; exact g.2.2 q hq⟩, fun q hq => by omega, fun q hq => by omega, fun q hq => by rw [up2_a _ _ (by decide)]; exact e7.2.2 q hq⟩ ?_ (fun q => by omega)
      · rw [up2_s]
      · rw [up2_k _ _ (by decide)]; exact e2
      · rw [up2_k _ _ (by decide), e7.2.1 9 (by decide) (by decide) (by decide) (by decide) (by decide)]; exact l9
      · rw [up2_k _ _ (by decide)]; exact e3
      · unfold rV
        rw [up2_k _ _ (by decide), up2_k _ _ (by decide), up2_k _ _ (by decide)]
        exact mV_mono e6 (Nat.le_refl _) (fun _ _ => by rw [up2_a _ _ (by decide)])
    · refine aw_aload_n (n := 106) dX8_work_105 rfl rfl ?_
      refine aw_geti (n := 109) dX8_work_106 fX8_110 E_164 rfl rfl ?_
      rw [up2_k _ _ (by decide), e2]
      refine aw_if_ne (tg := 169) (n := 112) dX8_work_109 (by decide) rfl (fun c_109 => by exact absurd rfl c_109) (fun c_109 => ?_)
      have hh1 : 1 ≤ h := by
        rcases Nat.eq_zero_or_pos h with q | q
        · exact absurd (by rw [q]; decide) c_102
        · exact q
      obtain ⟨p1, p2, p3⟩ := hph hh1
      have hinp : vp_in (nI (h - 1)) 61 := vp_in_nI (by omega) (by decide)
      have hpc : (nI (h - 1)).toNatClampNeg = h - 1 := nI_clamp (by omega)
      have hina : vp_in (nI (3 * (h - 1) + ph - 1)) 183 := vp_in_nI (by omega) (by decide)
      have hac : (nI (3 * (h - 1) + ph - 1)).toNatClampNeg = 3 * (h - 1) + ph - 1 := nI_clamp (by omega)
      obtain ⟨M2, hM2⟩ : ∃ M2, M2 = up2 M1 164 15 (nI h) := ⟨_, rfl⟩
      rw [← hM2]
      have n15 : M2 164 15 = nI h := by rw [hM2, up2_s]
      have n174 : M2 174 (h - 1) = nI ph := by rw [hM2, up2_a _ _ (by decide), e7.1 174 (by decide) (by decide) (by decide)]; exact p1
      have esub : nI h - 1 = nI (h - 1) := pk_sub (a := h) (b := 1) hh1
      refine aw_iconst (n := 113) (v := 3) dX8_work_112 (by decide) rfl ?_
      refine aw_aload_n (n := 114) dX8_work_113 rfl rfl ?_
      refine aw_geti (n := 117) dX8_work_114 fX8_113 E_164 rfl rfl ?_
      rw [n15]
      refine aw_iconst (n := 118) (v := 1) dX8_work_117 (by decide) rfl ?_
      refine aw_isub (n := 119) dX8_work_118 rfl ?_
      rw [esub]
      refine aw_imul (n := 120) dX8_work_119 rfl ?_
      rw [show (3 : Int32) = nI 3 from rfl, pk_mul]
      refine aw_aload_n (n := 121) dX8_work_120 rfl rfl ?_
      refine aw_getr (n := 124) dX8_work_121 fX8_37 E_164 rfl rfl ?_
      refine aw_aload_n (n := 125) dX8_work_124 rfl rfl ?_
      refine aw_geti (n := 128) dX8_work_125 fX8_113 E_164 rfl rfl ?_
      rw [n15]
      refine aw_iconst (n := 129) (v := 1) dX8_work_128 (by decide) rfl ?_
      refine aw_isub (n := 130) dX8_work_129 rfl ?_
      rw [esub]
      refine aw_iald (n := 131) dX8_work_130 E_174 (by assumption) rfl ?_
      rw [hpc, n174]
      refine aw_iadd (n := 132) dX8_work_131 rfl ?_
      rw [nI_add]
      refine aw_iconst (n := 133) (v := 1) dX8_work_132 (by decide) rfl ?_
      refine aw_isub (n := 134) dX8_work_133 rfl ?_
      rw [show nI (3 * (h - 1) + ph) - 1 = nI (3 * (h - 1) + ph - 1) from pk_sub (b := 1) (by omega)]
      refine aw_istore (n := 136) (L' := [_, _, _, _, _, _]) dX8_work_134 (Nat.le_of_ble_eq_true rfl) rfl rfl ?_
      refine aw_aload_n (n := 137) dX8_work_136 rfl rfl ?_
      refine aw_getr (n := 140) dX8_work_137 fX8_40 E_164 rfl rfl ?_
      refine aw_iload (n := 142) dX8_work_140 rfl rfl ?_
      refine aw_aload_n (n := 143) dX8_work_142 rfl rfl ?_
      refine aw_geti (n := 146) dX8_work_143 fX8_128 E_164 rfl rfl ?_
      refine aw_iast (n := 147) dX8_work_146 E_175 (by assumption) rfl ?_
      refine aw_aload_n (n := 148) dX8_work_147 rfl rfl ?_
      refine aw_getr (n := 151) dX8_work_148 fX8_43 E_164 rfl rfl ?_
      refine aw_iload (n := 153) dX8_work_151 rfl rfl ?_
      refine aw_aload_n (n := 154) dX8_work_153 rfl rfl ?_
      refine aw_geti (n := 157) dX8_work_154 fX8_131 E_164 rfl rfl ?_
      refine aw_iast (n := 158) dX8_work_157 E_176 (by assumption) rfl ?_
      refine aw_aload_n (n := 159) dX8_work_158 rfl rfl ?_
      refine aw_getr (n := 162) dX8_work_159 fX8_46 E_164 rfl rfl ?_
      refine aw_iload (n := 164) dX8_work_162 rfl rfl ?_
      refine aw_aload_n (n := 165) dX8_work_164 rfl rfl ?_
      refine aw_geti (n := 168) dX8_work_165 fX8_134 E_164 rfl rfl ?_
      refine aw_iast (n := 169) dX8_work_168 E_177 (by assumption) rfl ?_
      refine aw_goto (n := 15) dX8_work_169 (by decide) ?_
      rw [hac]
      obtain ⟨M3, hM3⟩ : ∃ M3, M3 = up2 (up2 (up2 M2 175 (3 * (h - 1) + ph - 1) (M2 164 17)) 176 (3 * (h - 1) + ph - 1) (up2 M2 175 (3 * (h - 1) + ph - 1) (M2 164 17) 164 18)) 177 (3 * (h - 1) + ph - 1) (up2 (up2 M2 175 (3 * (h - 1) + ph - 1) (M2 164 17)) 176 (3 * (h - 1) + ph - 1) (up2 M2 175 (3 * (h - 1) + ph - 1) (M2 164 17) 164 18) 164 19) := ⟨_, rfl⟩
      rw [← hM3]
      have s1 : ∀ q, q ≠ 175 → q ≠ 176 → q ≠ 177 → M3 q = M2 q := fun q a b c => by rw [hM3, up2_ra _ _ c, up2_ra _ _ b, up2_ra _ _ a]
      have s2 : ∀ q, q ≠ 3 * (h - 1) + ph - 1 → M3 175 q = M2 175 q ∧ M3 176 q = M2 176 q ∧ M3 177 q = M2 177 q := fun q a => ⟨by rw [hM3, up2_a _ _ (by decide), up2_a _ _ (by decide), up2_k _ _ a], by rw [hM3, up2_a _ _ (by decide), up2_k _ _ a, up2_a _ _ (by decide)], by rw [hM3, up2_k _ _ a, up2_a _ _ (by decide), up2_a _ _ (by decide)]⟩
      have s3 : M3 175 (3 * (h - 1) + ph - 1) = M2 164 17 ∧ M3 176 (3 * (h - 1) + ph - 1) = M2 164 18 ∧ M3 177 (3 * (h - 1) + ph - 1) = M2 164 19 := ⟨by rw [hM3, up2_a _ _ (by decide), up2_a _ _ (by decide), up2_s], by rw [hM3, up2_a _ _ (by decide), up2_s, up2_a _ _ (by decide)], by rw [hM3, up2_s, up2_a _ _ (by decide), up2_a _ _ (by decide)]⟩
      have t164 : ∀ q, q ≠ 15 → M3 164 q = M1 164 q := fun q a => by rw [s1 164 (by decide) (by decide) (by decide), hM2, up2_k _ _ a]
      have tq : ∀ q, q ≠ 164 → q ≠ 175 → q ≠ 176 → q ≠ 177 → M3 q = M1 q := fun q a b c e => by rw [s1 q b c e, hM2, up2_ra _ _ a]
      have g := fE_G e7
      refine k2 v mk' M3 _ _ _ _ e1 ⟨?_, ?_, ?_, ?_, l60, by omega, by omega⟩ e4 ⟨⟨fun q hq => by rw [tq q (by omega) (by omega) (by omega) (by omega)]; exact g.1 q hq, fun q a b c e f g' i => by rw [t164 q b]; exact g.2.1 q a b c e f g' i, fun q hq => by rw [tq 178 (by decide) (by decide) (by decide) (by decide)]; exact g.2.2 q hq⟩, fun q hq => ?_, fun q hq hne => ?_, fun q hq => by rw [tq 178 (by decide) (by decide) (by decide) (by decide)]; exact e7.2.2 q hq⟩ ?_ (fun _ => ?_)
      · rw [s1 164 (by decide) (by decide) (by decide)]; exact n15
      · rw [t164 20 (by decide)]; exact e2
      · rw [t164 9 (by decide), e7.2.1 9 (by decide) (by decide) (by decide) (by decide) (by decide)]; exact l9
      · rw [t164 22 (by decide)]; exact e3
      · rw [tq 173 (by decide) (by decide) (by decide) (by decide), tq 174 (by decide) (by decide) (by decide) (by decide), e7.1 173 (by decide) (by decide) (by decide), e7.1 174 (by decide) (by decide) (by decide)]; exact ⟨rfl, rfl⟩
      · obtain ⟨y1, y2, y3⟩ := s2 q hne
        rw [y1, y2, y3, hM2, up2_a _ _ (by decide), up2_a _ _ (by decide), up2_a _ _ (by decide), e7.1 175 (by decide) (by decide) (by decide), e7.1 176 (by decide) (by decide) (by decide), e7.1 177 (by decide) (by decide) (by decide)]
        exact ⟨rfl, rfl, rfl⟩
      · unfold rV
        rw [t164 17 (by decide), t164 18 (by decide), t164 19 (by decide)]
        exact mV_mono e6 (Nat.le_refl _) (fun q _ => by rw [tq 178 (by decide) (by decide) (by decide) (by decide)])
      · obtain ⟨y1, y2, y3⟩ := s3
        rw [y1, y2, y3, s1 164 (by decide) (by decide) (by decide)]
        exact ⟨rfl, rfl, rfl⟩
end MWORK
