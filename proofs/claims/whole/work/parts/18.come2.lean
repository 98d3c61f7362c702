theorem op_lk {w : Nat} (hw : w ≤ 18) (n : Int32) (inp : Nat → vV) (a b c : vV) {k : Nat} (h : lkA w a b c = k) (hk : k ≠ 0) : op w n inp a b c = .inl k := by
  subst h
  rcases (show w = 0 ∨ w = 1 ∨ w = 2 ∨ w = 3 ∨ w = 4 ∨ w = 5 ∨ w = 6 ∨ w = 7 ∨ w = 8 ∨ w = 9 ∨ w = 10 ∨ w = 11 ∨ w = 12 ∨ w = 13 ∨ w = 14 ∨ w = 15 ∨ w = 16 ∨ w = 17 ∨ w = 18 by omega) with rfl | rfl | rfl | rfl | rfl | rfl | rfl | rfl | rfl | rfl | rfl | rfl | rfl | rfl | rfl | rfl | rfl | rfl | rfl
  all_goals
    rcases a with _ | x | r <;> rcases b with _ | y | s <;> rcases c with _ | z | u <;> first
      | rfl
      | exact absurd rfl hk
section COME2
variable {l : Launch} {K : aK} {d : Nat} {M : aM} {Q : Option Value → aE → aM → Prop}
theorem t_comeTo {own a b c t w : Nat} {va vb vc : vV} {n : Int32} {inp : Nat → vV} (hd : 4 ≤ d) (hw : w ≤ 18) (ht : t < 60) (hM : M 3 t = nI w) (hN : M 7 t = n) (hn0 : w = 0 → isNo n 3) (hinp : ∀ i, i < 3 → vAt M (9 + 2 * i) (inp i)) (ho : iV own) (hoi : ∀ i, i < 3 → own ≠ 9 + 2 * i) (ha : iV a) (hb : iV b) (hc : iV c)
    (hva : nA w ≠ 4 → vAt M a va ∧ own ≠ a) (hvb : nB w ≠ 4 → vAt M b vb ∧ own ≠ b) (hvc : nC w ≠ 4 → vAt M c vc ∧ own ≠ c) (hlk : lkA w va vb vc = 0)
    (h1 : ∀ k, op w n inp va vb vc = .inl k → Q (some (.int (nI k))) EE M) (h2 : ∀ v, op w n inp va vb vc = .inr v → ∀ M', vAt M' own v → (∀ q, q ≠ own → q ≠ own + 1 → M' q = M q) → Q (some (.int 0)) EE M') : aw l K mX6_comeTo d 0 0 0 [.ref 1, .int (nI t), .ref own, .ref a, .ref b, .ref c, .null] [] EE M Q := by
  have e1 := E_1
  have e2 := E_2
  have e3 := E_3
  have e7 := E_7
  have e8 := E_8r
  have hin : vp_in (nI t) 60 := vp_in_nI ht (by decide)
  have htt : (nI t).toNatClampNeg = t := nI_clamp (by omega)
  have ho' := ho
  have ha' := ha
  have hb' := hb
  have hc' := hc
  obtain ⟨ho1, ho2⟩ := ho
  obtain ⟨ha1, ha2⟩ := ha
  obtain ⟨hb1, hb2⟩ := hb
  obtain ⟨hc1, hc2⟩ := hc
  rcases (show w = 0 ∨ w = 1 ∨ w = 2 ∨ w = 3 ∨ w = 4 ∨ w = 5 ∨ w = 6 ∨ w = 7 ∨ w = 8 ∨ w = 9 ∨ w = 10 ∨ w = 11 ∨ w = 12 ∨ w = 13 ∨ w = 14 ∨ w = 15 ∨ w = 16 ∨ w = 17 ∨ w = 18 by omega) with rfl | rfl | rfl | rfl | rfl | rfl | rfl | rfl | rfl | rfl | rfl | rfl | rfl | rfl | rfl | rfl | rfl | rfl | rfl
  · obtain ⟨i, hi, rfl⟩ := hn0 rfl
    have hii : (nI i).toNatClampNeg = i := nI_clamp (by omega)
    have hin3 : vp_in (nI i) 3 := vp_in_nI hi (by decide)
    refine aw_aload_n (n := 1) dX6_comeTo_0 rfl rfl ?_
    refine aw_getr (n := 4) dX6_comeTo_1 fX6_12 (by assumption) rfl rfl ?_
    refine aw_getr (n := 7) dX6_comeTo_4 fX6_66 (by assumption) rfl rfl ?_
    refine aw_iload_n (n := 8) dX6_comeTo_7 rfl rfl ?_
    refine aw_iald (n := 9) dX6_comeTo_8 (by assumption) (by assumption) rfl ?_
    rw [htt, hM]
    refine aw_istore (n := 11) (L' := [_, _, _, _, _, _, _]) dX6_comeTo_9 (Nat.le_of_ble_eq_true rfl) rfl rfl ?_
    refine aw_iload (n := 13) dX6_comeTo_11 rfl rfl ?_
    refine aw_tswIn (n := 104) (off := 91) dX6_comeTo_13 (by decide) (by decide) (by decide) (by decide) ?_
    refine aw_aload_n (n := 105) dX6_comeTo_104 rfl rfl ?_
    refine aw_aload_n (n := 106) dX6_comeTo_105 rfl rfl ?_
    refine aw_getr (n := 109) dX6_comeTo_106 fX6_22 (by assumption) rfl rfl ?_
    refine aw_aload_n (n := 110) dX6_comeTo_109 rfl rfl ?_
    refine aw_getr (n := 113) dX6_comeTo_110 fX6_12 (by assumption) rfl rfl ?_
    refine aw_getr (n := 116) dX6_comeTo_113 fX6_110 (by assumption) rfl rfl ?_
    refine aw_iload_n (n := 117) dX6_comeTo_116 rfl rfl ?_
    refine aw_iald (n := 118) dX6_comeTo_117 (by assumption) (by assumption) rfl ?_
    rw [htt, hN]
    refine aw_aald (n := 119) dX6_comeTo_118 (by assumption) (by decide) (by assumption) (by rw [hii]; exact rIn_at i hi) rfl ?_
    refine aw_v1 (d1 := d - 1) (n := 122) (Z := mX5_copy) (ci := 3) (L0 := [_, _, .null]) dX6_comeTo_119 kX5_copy gX6_113 iyX5_copy eyX5_copy rfl rfl (by assumption) rfl (Nat.le_of_ble_eq_true rfl) rfl rfl (by omega) (Nat.le_of_ble_eq_true rfl) (t_copy ho' (iV_in i hi) (hoi i hi) (hinp i hi) (fun M' h5 h6 => ?_))
    dsimp only [aPush]
    refine aw_iconst (n := 123) (v := 0) dX6_comeTo_122 (by decide) rfl ?_
    refine aw_iret dX6_comeTo_123 rfl ?_
    exact h2 (inp i) (by show Sum.inr (inp (nI i).toNatClampNeg) = _; rw [hii]) _ h5 h6
  · skip
    refine aw_aload_n (n := 1) dX6_comeTo_0 rfl rfl ?_
    refine aw_getr (n := 4) dX6_comeTo_1 fX6_12 (by assumption) rfl rfl ?_
    refine aw_getr (n := 7) dX6_comeTo_4 fX6_66 (by assumption) rfl rfl ?_
    refine aw_iload_n (n := 8) dX6_comeTo_7 rfl rfl ?_
    refine aw_iald (n := 9) dX6_comeTo_8 (by assumption) (by assumption) rfl ?_
    rw [htt, hM]
    refine aw_istore (n := 11) (L' := [_, _, _, _, _, _, _]) dX6_comeTo_9 (Nat.le_of_ble_eq_true rfl) rfl rfl ?_
    refine aw_iload (n := 13) dX6_comeTo_11 rfl rfl ?_
    refine aw_tswIn (n := 124) (off := 111) dX6_comeTo_13 (by decide) (by decide) (by decide) (by decide) ?_
    refine aw_aload_n (n := 125) dX6_comeTo_124 rfl rfl ?_
    refine aw_aload_n (n := 126) dX6_comeTo_125 rfl rfl ?_
    refine aw_getr (n := 129) dX6_comeTo_126 fX6_12 (by assumption) rfl rfl ?_
    refine aw_getr (n := 132) dX6_comeTo_129 fX6_110 (by assumption) rfl rfl ?_
    refine aw_iload_n (n := 133) dX6_comeTo_132 rfl rfl ?_
    refine aw_iald (n := 134) dX6_comeTo_133 (by assumption) (by assumption) rfl ?_
    rw [htt, hN]
    refine aw_v1 (d1 := d - 1) (n := 137) (Z := mX5_setWhole) (ci := 3) (L0 := [_, _]) dX6_comeTo_134 kX5_setWhole gX6_117 iyX5_setWhole eyX5_setWhole rfl rfl (by assumption) rfl (Nat.le_of_ble_eq_true rfl) rfl rfl (by omega) (Nat.le_of_ble_eq_true rfl) (t_setWhole ho' (fun M' h5 h6 => ?_))
    dsimp only [aPush]
    refine aw_iconst (n := 138) (v := 0) dX6_comeTo_137 (by decide) rfl ?_
    refine aw_iret dX6_comeTo_138 rfl ?_
    exact h2 _ rfl _ h5 (fun q q1 q2 => h6 q q1)
  · skip
    refine aw_aload_n (n := 1) dX6_comeTo_0 rfl rfl ?_
    refine aw_getr (n := 4) dX6_comeTo_1 fX6_12 (by assumption) rfl rfl ?_
    refine aw_getr (n := 7) dX6_comeTo_4 fX6_66 (by assumption) rfl rfl ?_
    refine aw_iload_n (n := 8) dX6_comeTo_7 rfl rfl ?_
    refine aw_iald (n := 9) dX6_comeTo_8 (by assumption) (by assumption) rfl ?_
    rw [htt, hM]
    refine aw_istore (n := 11) (L' := [_, _, _, _, _, _, _]) dX6_comeTo_9 (Nat.le_of_ble_eq_true rfl) rfl rfl ?_
    refine aw_iload (n := 13) dX6_comeTo_11 rfl rfl ?_
    refine aw_tswIn (n := 139) (off := 126) dX6_comeTo_13 (by decide) (by decide) (by decide) (by decide) ?_
    refine aw_aload_n (n := 140) dX6_comeTo_139 rfl rfl ?_
    refine aw_v0 (d1 := d - 1) (n := 143) (Z := mX5_setNothing) (ci := 3) (L0 := [_]) dX6_comeTo_140 kX5_setNothing gX6_121 iyX5_setNothing eyX5_setNothing rfl rfl (by assumption) (Nat.le_of_ble_eq_true rfl) rfl rfl (by omega) (Nat.le_of_ble_eq_true rfl) (t_setNothing ho' (fun M' h5 h6 => ?_))
    dsimp only [aPush]
    refine aw_iconst (n := 144) (v := 0) dX6_comeTo_143 (by decide) rfl ?_
    refine aw_iret dX6_comeTo_144 rfl ?_
    exact h2 _ rfl _ h5 (fun q q1 q2 => h6 q q1)
  · obtain ⟨x, rfl⟩ : ∃ z, va = some (.inl z) := by
      rcases va with _ | z | z
      · exact absurd hlk (by simp [lkA, lk, lk0, nA, nB, nC, kd])
      · exact ⟨z, rfl⟩
      · exact absurd hlk (by simp [lkA, lk, lk0, nA, nB, nC, kd])
    obtain ⟨y, rfl⟩ : ∃ z, vb = some (.inl z) := by
      rcases vb with _ | z | z
      · exact absurd hlk (by simp [lkA, lk, lk0, nA, nB, nC, kd])
      · exact ⟨z, rfl⟩
      · exact absurd hlk (by simp [lkA, lk, lk0, nA, nB, nC, kd])
    obtain ⟨va1, va2⟩ := hva (by decide)
    obtain ⟨vb1, vb2⟩ := hvb (by decide)
    refine aw_aload_n (n := 1) dX6_comeTo_0 rfl rfl ?_
    refine aw_getr (n := 4) dX6_comeTo_1 fX6_12 (by assumption) rfl rfl ?_
    refine aw_getr (n := 7) dX6_comeTo_4 fX6_66 (by assumption) rfl rfl ?_
    refine aw_iload_n (n := 8) dX6_comeTo_7 rfl rfl ?_
    refine aw_iald (n := 9) dX6_comeTo_8 (by assumption) (by assumption) rfl ?_
    rw [htt, hM]
    refine aw_istore (n := 11) (L' := [_, _, _, _, _, _, _]) dX6_comeTo_9 (Nat.le_of_ble_eq_true rfl) rfl rfl ?_
    refine aw_iload (n := 13) dX6_comeTo_11 rfl rfl ?_
    refine aw_tswIn (n := 251) (off := 238) dX6_comeTo_13 (by decide) (by decide) (by decide) (by decide) ?_
    refine aw_aload_n (n := 252) dX6_comeTo_251 rfl rfl ?_
    refine aw_iload (n := 254) dX6_comeTo_252 rfl rfl ?_
    refine aw_aload_n (n := 255) dX6_comeTo_254 rfl rfl ?_
    refine aw_geti (n := 258) dX6_comeTo_255 fX6_48 (by assumption) rfl rfl ?_
    refine aw_aload (n := 260) dX6_comeTo_258 rfl rfl ?_
    refine aw_geti (n := 263) dX6_comeTo_260 fX6_48 (by assumption) rfl rfl ?_
    rw [va1.2.1, vb1.2.1]
    refine aw_s4 (d1 := d - 1) (n := 266) (Z := mX6_setOfWholes) (L0 := [_, _, _, _]) dX6_comeTo_263 kX6_setOfWholes gX6_160 syX6_setOfWholes rfl rfl rfl rfl (Nat.le_of_ble_eq_true rfl) rfl rfl (by omega) (Nat.le_of_ble_eq_true rfl) (t_ofWholes (w := 3) (by omega) ho' (by decide) (fun k hk => ?_) (fun v hv M' h5 h6 => ?_))
    · dsimp only [aPush]
      refine aw_iret dX6_comeTo_266 rfl ?_
      first | exact h1 _ hk | exact h2 _ hv _ h5 h6
    · dsimp only [aPush]
      refine aw_iret dX6_comeTo_266 rfl ?_
      first | exact h1 _ hk | exact h2 _ hv _ h5 h6
  · obtain ⟨x, rfl⟩ : ∃ z, va = some (.inl z) := by
      rcases va with _ | z | z
      · exact absurd hlk (by simp [lkA, lk, lk0, nA, nB, nC, kd])
      · exact ⟨z, rfl⟩
      · exact absurd hlk (by simp [lkA, lk, lk0, nA, nB, nC, kd])
    obtain ⟨y, rfl⟩ : ∃ z, vb = some (.inl z) := by
      rcases vb with _ | z | z
      · exact absurd hlk (by simp [lkA, lk, lk0, nA, nB, nC, kd])
      · exact ⟨z, rfl⟩
      · exact absurd hlk (by simp [lkA, lk, lk0, nA, nB, nC, kd])
    obtain ⟨va1, va2⟩ := hva (by decide)
    obtain ⟨vb1, vb2⟩ := hvb (by decide)
    refine aw_aload_n (n := 1) dX6_comeTo_0 rfl rfl ?_
    refine aw_getr (n := 4) dX6_comeTo_1 fX6_12 (by assumption) rfl rfl ?_
    refine aw_getr (n := 7) dX6_comeTo_4 fX6_66 (by assumption) rfl rfl ?_
    refine aw_iload_n (n := 8) dX6_comeTo_7 rfl rfl ?_
    refine aw_iald (n := 9) dX6_comeTo_8 (by assumption) (by assumption) rfl ?_
    rw [htt, hM]
    refine aw_istore (n := 11) (L' := [_, _, _, _, _, _, _]) dX6_comeTo_9 (Nat.le_of_ble_eq_true rfl) rfl rfl ?_
    refine aw_iload (n := 13) dX6_comeTo_11 rfl rfl ?_
    refine aw_tswIn (n := 251) (off := 238) dX6_comeTo_13 (by decide) (by decide) (by decide) (by decide) ?_
    refine aw_aload_n (n := 252) dX6_comeTo_251 rfl rfl ?_
    refine aw_iload (n := 254) dX6_comeTo_252 rfl rfl ?_
    refine aw_aload_n (n := 255) dX6_comeTo_254 rfl rfl ?_
    refine aw_geti (n := 258) dX6_comeTo_255 fX6_48 (by assumption) rfl rfl ?_
    refine aw_aload (n := 260) dX6_comeTo_258 rfl rfl ?_
    refine aw_geti (n := 263) dX6_comeTo_260 fX6_48 (by assumption) rfl rfl ?_
    rw [va1.2.1, vb1.2.1]
    refine aw_s4 (d1 := d - 1) (n := 266) (Z := mX6_setOfWholes) (L0 := [_, _, _, _]) dX6_comeTo_263 kX6_setOfWholes gX6_160 syX6_setOfWholes rfl rfl rfl rfl (Nat.le_of_ble_eq_true rfl) rfl rfl (by omega) (Nat.le_of_ble_eq_true rfl) (t_ofWholes (w := 4) (by omega) ho' (by decide) (fun k hk => ?_) (fun v hv M' h5 h6 => ?_))
    · dsimp only [aPush]
      refine aw_iret dX6_comeTo_266 rfl ?_
      first | exact h1 _ hk | exact h2 _ hv _ h5 h6
    · dsimp only [aPush]
      refine aw_iret dX6_comeTo_266 rfl ?_
      first | exact h1 _ hk | exact h2 _ hv _ h5 h6
  · obtain ⟨x, rfl⟩ : ∃ z, va = some (.inl z) := by
      rcases va with _ | z | z
      · exact absurd hlk (by simp [lkA, lk, lk0, nA, nB, nC, kd])
      · exact ⟨z, rfl⟩
      · exact absurd hlk (by simp [lkA, lk, lk0, nA, nB, nC, kd])
    obtain ⟨y, rfl⟩ : ∃ z, vb = some (.inl z) := by
      rcases vb with _ | z | z
      · exact absurd hlk (by simp [lkA, lk, lk0, nA, nB, nC, kd])
      · exact ⟨z, rfl⟩
      · exact absurd hlk (by simp [lkA, lk, lk0, nA, nB, nC, kd])
    obtain ⟨va1, va2⟩ := hva (by decide)
    obtain ⟨vb1, vb2⟩ := hvb (by decide)
    refine aw_aload_n (n := 1) dX6_comeTo_0 rfl rfl ?_
    refine aw_getr (n := 4) dX6_comeTo_1 fX6_12 (by assumption) rfl rfl ?_
    refine aw_getr (n := 7) dX6_comeTo_4 fX6_66 (by assumption) rfl rfl ?_
    refine aw_iload_n (n := 8) dX6_comeTo_7 rfl rfl ?_
    refine aw_iald (n := 9) dX6_comeTo_8 (by assumption) (by assumption) rfl ?_
    rw [htt, hM]
    refine aw_istore (n := 11) (L' := [_, _, _, _, _, _, _]) dX6_comeTo_9 (Nat.le_of_ble_eq_true rfl) rfl rfl ?_
    refine aw_iload (n := 13) dX6_comeTo_11 rfl rfl ?_
    refine aw_tswIn (n := 251) (off := 238) dX6_comeTo_13 (by decide) (by decide) (by decide) (by decide) ?_
    refine aw_aload_n (n := 252) dX6_comeTo_251 rfl rfl ?_
    refine aw_iload (n := 254) dX6_comeTo_252 rfl rfl ?_
    refine aw_aload_n (n := 255) dX6_comeTo_254 rfl rfl ?_
    refine aw_geti (n := 258) dX6_comeTo_255 fX6_48 (by assumption) rfl rfl ?_
    refine aw_aload (n := 260) dX6_comeTo_258 rfl rfl ?_
    refine aw_geti (n := 263) dX6_comeTo_260 fX6_48 (by assumption) rfl rfl ?_
    rw [va1.2.1, vb1.2.1]
    refine aw_s4 (d1 := d - 1) (n := 266) (Z := mX6_setOfWholes) (L0 := [_, _, _, _]) dX6_comeTo_263 kX6_setOfWholes gX6_160 syX6_setOfWholes rfl rfl rfl rfl (Nat.le_of_ble_eq_true rfl) rfl rfl (by omega) (Nat.le_of_ble_eq_true rfl) (t_ofWholes (w := 5) (by omega) ho' (by decide) (fun k hk => ?_) (fun v hv M' h5 h6 => ?_))
    · dsimp only [aPush]
      refine aw_iret dX6_comeTo_266 rfl ?_
      first | exact h1 _ hk | exact h2 _ hv _ h5 h6
    · dsimp only [aPush]
      refine aw_iret dX6_comeTo_266 rfl ?_
      first | exact h1 _ hk | exact h2 _ hv _ h5 h6
  · obtain ⟨x, rfl⟩ : ∃ z, va = some (.inl z) := by
      rcases va with _ | z | z
      · exact absurd hlk (by simp [lkA, lk, lk0, nA, nB, nC, kd])
      · exact ⟨z, rfl⟩
      · exact absurd hlk (by simp [lkA, lk, lk0, nA, nB, nC, kd])
    obtain ⟨y, rfl⟩ : ∃ z, vb = some (.inl z) := by
      rcases vb with _ | z | z
      · exact absurd hlk (by simp [lkA, lk, lk0, nA, nB, nC, kd])
      · exact ⟨z, rfl⟩
      · exact absurd hlk (by simp [lkA, lk, lk0, nA, nB, nC, kd])
    obtain ⟨va1, va2⟩ := hva (by decide)
    obtain ⟨vb1, vb2⟩ := hvb (by decide)
    refine aw_aload_n (n := 1) dX6_comeTo_0 rfl rfl ?_
    refine aw_getr (n := 4) dX6_comeTo_1 fX6_12 (by assumption) rfl rfl ?_
    refine aw_getr (n := 7) dX6_comeTo_4 fX6_66 (by assumption) rfl rfl ?_
    refine aw_iload_n (n := 8) dX6_comeTo_7 rfl rfl ?_
    refine aw_iald (n := 9) dX6_comeTo_8 (by assumption) (by assumption) rfl ?_
    rw [htt, hM]
    refine aw_istore (n := 11) (L' := [_, _, _, _, _, _, _]) dX6_comeTo_9 (Nat.le_of_ble_eq_true rfl) rfl rfl ?_
    refine aw_iload (n := 13) dX6_comeTo_11 rfl rfl ?_
    refine aw_tswIn (n := 251) (off := 238) dX6_comeTo_13 (by decide) (by decide) (by decide) (by decide) ?_
    refine aw_aload_n (n := 252) dX6_comeTo_251 rfl rfl ?_
    refine aw_iload (n := 254) dX6_comeTo_252 rfl rfl ?_
    refine aw_aload_n (n := 255) dX6_comeTo_254 rfl rfl ?_
    refine aw_geti (n := 258) dX6_comeTo_255 fX6_48 (by assumption) rfl rfl ?_
    refine aw_aload (n := 260) dX6_comeTo_258 rfl rfl ?_
    refine aw_geti (n := 263) dX6_comeTo_260 fX6_48 (by assumption) rfl rfl ?_
    rw [va1.2.1, vb1.2.1]
    refine aw_s4 (d1 := d - 1) (n := 266) (Z := mX6_setOfWholes) (L0 := [_, _, _, _]) dX6_comeTo_263 kX6_setOfWholes gX6_160 syX6_setOfWholes rfl rfl rfl rfl (Nat.le_of_ble_eq_true rfl) rfl rfl (by omega) (Nat.le_of_ble_eq_true rfl) (t_ofWholes (w := 6) (by omega) ho' (by decide) (fun k hk => ?_) (fun v hv M' h5 h6 => ?_))
    · dsimp only [aPush]
      refine aw_iret dX6_comeTo_266 rfl ?_
      first | exact h1 _ hk | exact h2 _ hv _ h5 h6
    · dsimp only [aPush]
      refine aw_iret dX6_comeTo_266 rfl ?_
      first | exact h1 _ hk | exact h2 _ hv _ h5 h6
  · obtain ⟨x, rfl⟩ : ∃ z, va = some (.inl z) := by
      rcases va with _ | z | z
      · exact absurd hlk (by simp [lkA, lk, lk0, nA, nB, nC, kd])
      · exact ⟨z, rfl⟩
      · exact absurd hlk (by simp [lkA, lk, lk0, nA, nB, nC, kd])
    obtain ⟨y, rfl⟩ : ∃ z, vb = some (.inl z) := by
      rcases vb with _ | z | z
      · exact absurd hlk (by simp [lkA, lk, lk0, nA, nB, nC, kd])
      · exact ⟨z, rfl⟩
      · exact absurd hlk (by simp [lkA, lk, lk0, nA, nB, nC, kd])
    obtain ⟨va1, va2⟩ := hva (by decide)
    obtain ⟨vb1, vb2⟩ := hvb (by decide)
    refine aw_aload_n (n := 1) dX6_comeTo_0 rfl rfl ?_
    refine aw_getr (n := 4) dX6_comeTo_1 fX6_12 (by assumption) rfl rfl ?_
    refine aw_getr (n := 7) dX6_comeTo_4 fX6_66 (by assumption) rfl rfl ?_
    refine aw_iload_n (n := 8) dX6_comeTo_7 rfl rfl ?_
    refine aw_iald (n := 9) dX6_comeTo_8 (by assumption) (by assumption) rfl ?_
    rw [htt, hM]
    refine aw_istore (n := 11) (L' := [_, _, _, _, _, _, _]) dX6_comeTo_9 (Nat.le_of_ble_eq_true rfl) rfl rfl ?_
    refine aw_iload (n := 13) dX6_comeTo_11 rfl rfl ?_
    refine aw_tswIn (n := 251) (off := 238) dX6_comeTo_13 (by decide) (by decide) (by decide) (by decide) ?_
    refine aw_aload_n (n := 252) dX6_comeTo_251 rfl rfl ?_
    refine aw_iload (n := 254) dX6_comeTo_252 rfl rfl ?_
    refine aw_aload_n (n := 255) dX6_comeTo_254 rfl rfl ?_
    refine aw_geti (n := 258) dX6_comeTo_255 fX6_48 (by assumption) rfl rfl ?_
    refine aw_aload (n := 260) dX6_comeTo_258 rfl rfl ?_
    refine aw_geti (n := 263) dX6_comeTo_260 fX6_48 (by assumption) rfl rfl ?_
    rw [va1.2.1, vb1.2.1]
    refine aw_s4 (d1 := d - 1) (n := 266) (Z := mX6_setOfWholes) (L0 := [_, _, _, _]) dX6_comeTo_263 kX6_setOfWholes gX6_160 syX6_setOfWholes rfl rfl rfl rfl (Nat.le_of_ble_eq_true rfl) rfl rfl (by omega) (Nat.le_of_ble_eq_true rfl) (t_ofWholes (w := 7) (by omega) ho' (by decide) (fun k hk => ?_) (fun v hv M' h5 h6 => ?_))
    · dsimp only [aPush]
      refine aw_iret dX6_comeTo_266 rfl ?_
      first | exact h1 _ hk | exact h2 _ hv _ h5 h6
    · dsimp only [aPush]
      refine aw_iret dX6_comeTo_266 rfl ?_
      first | exact h1 _ hk | exact h2 _ hv _ h5 h6
  · obtain ⟨x, rfl⟩ : ∃ z, va = some (.inl z) := by
      rcases va with _ | z | z
      · exact absurd hlk (by simp [lkA, lk, lk0, nA, nB, nC, kd])
      · exact ⟨z, rfl⟩
      · exact absurd hlk (by simp [lkA, lk, lk0, nA, nB, nC, kd])
    obtain ⟨y, rfl⟩ : ∃ z, vb = some (.inl z) := by
      rcases vb with _ | z | z
      · exact absurd hlk (by simp [lkA, lk, lk0, nA, nB, nC, kd])
      · exact ⟨z, rfl⟩
      · exact absurd hlk (by simp [lkA, lk, lk0, nA, nB, nC, kd])
    obtain ⟨va1, va2⟩ := hva (by decide)
    obtain ⟨vb1, vb2⟩ := hvb (by decide)
    refine aw_aload_n (n := 1) dX6_comeTo_0 rfl rfl ?_
    refine aw_getr (n := 4) dX6_comeTo_1 fX6_12 (by assumption) rfl rfl ?_
    refine aw_getr (n := 7) dX6_comeTo_4 fX6_66 (by assumption) rfl rfl ?_
    refine aw_iload_n (n := 8) dX6_comeTo_7 rfl rfl ?_
    refine aw_iald (n := 9) dX6_comeTo_8 (by assumption) (by assumption) rfl ?_
    rw [htt, hM]
    refine aw_istore (n := 11) (L' := [_, _, _, _, _, _, _]) dX6_comeTo_9 (Nat.le_of_ble_eq_true rfl) rfl rfl ?_
    refine aw_iload (n := 13) dX6_comeTo_11 rfl rfl ?_
    refine aw_tswIn (n := 251) (off := 238) dX6_comeTo_13 (by decide) (by decide) (by decide) (by decide) ?_
    refine aw_aload_n (n := 252) dX6_comeTo_251 rfl rfl ?_
    refine aw_iload (n := 254) dX6_comeTo_252 rfl rfl ?_
    refine aw_aload_n (n := 255) dX6_comeTo_254 rfl rfl ?_
    refine aw_geti (n := 258) dX6_comeTo_255 fX6_48 (by assumption) rfl rfl ?_
    refine aw_aload (n := 260) dX6_comeTo_258 rfl rfl ?_
    refine aw_geti (n := 263) dX6_comeTo_260 fX6_48 (by assumption) rfl rfl ?_
    rw [va1.2.1, vb1.2.1]
    refine aw_s4 (d1 := d - 1) (n := 266) (Z := mX6_setOfWholes) (L0 := [_, _, _, _]) dX6_comeTo_263 kX6_setOfWholes gX6_160 syX6_setOfWholes rfl rfl rfl rfl (Nat.le_of_ble_eq_true rfl) rfl rfl (by omega) (Nat.le_of_ble_eq_true rfl) (t_ofWholes (w := 8) (by omega) ho' (by decide) (fun k hk => ?_) (fun v hv M' h5 h6 => ?_))
    · dsimp only [aPush]
      refine aw_iret dX6_comeTo_266 rfl ?_
      first | exact h1 _ hk | exact h2 _ hv _ h5 h6
    · dsimp only [aPush]
      refine aw_iret dX6_comeTo_266 rfl ?_
      first | exact h1 _ hk | exact h2 _ hv _ h5 h6
  · obtain ⟨va1, va2⟩ := hva (by decide)
    obtain ⟨vb1, vb2⟩ := hvb (by decide)
    obtain ⟨bl, hbl⟩ : ∃ bl, opL va vb = tru bl := by
      rcases va with _ | x | r
      · exact absurd hlk (by simp [lkA, lk, lk0, nA, nB, nC, kd])
      · rcases vb with _ | y | s
        · exact absurd hlk (by simp [lkA, lk, lk0, nA, nB, nC, kd])
        · exact ⟨_, rfl⟩
        · exact absurd hlk (by simp [lkA, lk, lk0, nA, nB, nC, kd])
      · rcases vb with _ | y | s
        · exact absurd hlk (by simp [lkA, lk, lk0, nA, nB, nC, kd])
        · exact absurd hlk (by simp [lkA, lk, lk0, nA, nB, nC, kd])
        · exact ⟨_, rfl⟩
    refine aw_aload_n (n := 1) dX6_comeTo_0 rfl rfl ?_
    refine aw_getr (n := 4) dX6_comeTo_1 fX6_12 (by assumption) rfl rfl ?_
    refine aw_getr (n := 7) dX6_comeTo_4 fX6_66 (by assumption) rfl rfl ?_
    refine aw_iload_n (n := 8) dX6_comeTo_7 rfl rfl ?_
    refine aw_iald (n := 9) dX6_comeTo_8 (by assumption) (by assumption) rfl ?_
    rw [htt, hM]
    refine aw_istore (n := 11) (L' := [_, _, _, _, _, _, _]) dX6_comeTo_9 (Nat.le_of_ble_eq_true rfl) rfl rfl ?_
    refine aw_iload (n := 13) dX6_comeTo_11 rfl rfl ?_
    refine aw_tswIn (n := 145) (off := 132) dX6_comeTo_13 (by decide) (by decide) (by decide) (by decide) ?_
    refine aw_aload_n (n := 146) dX6_comeTo_145 rfl rfl ?_
    refine aw_aload_n (n := 147) dX6_comeTo_146 rfl rfl ?_
    refine aw_aload (n := 149) dX6_comeTo_147 rfl rfl ?_
    refine aw_s2 (d1 := d - 1) (n := 152) (Z := mX6_areLike) (L0 := [_, _, .null]) dX6_comeTo_149 kX6_areLike gX6_124 syX6_areLike rfl rfl (Nat.le_of_ble_eq_true rfl) rfl rfl (by omega) (Nat.le_of_ble_eq_true rfl) (t_like ha' hb' va1 vb1 hbl ?_)
    dsimp only [aPush]
    refine aw_s2 (d1 := d - 1) (n := 155) (Z := mX6_setTruth) (L0 := [_, _]) dX6_comeTo_152 kX6_setTruth gX6_94 syX6_setTruth rfl rfl (Nat.le_of_ble_eq_true rfl) rfl rfl (by omega) (Nat.le_of_ble_eq_true rfl) (t_truth (by omega) ho' (fun M' h5 h6 => ?_))
    dsimp only [aPush]
    refine aw_iconst (n := 156) (v := 0) dX6_comeTo_155 (by decide) rfl ?_
    refine aw_iret dX6_comeTo_156 rfl ?_
    refine h2 _ hbl _ ?_ (fun q q1 q2 => h6 q q1)
    cases bl <;> exact h5
  · obtain ⟨r, rfl⟩ : ∃ z, va = some (.inr z) := by
      rcases va with _ | z | z
      · exact absurd hlk (by simp [lkA, lk, lk0, nA, nB, nC, kd])
      · exact absurd hlk (by simp [lkA, lk, lk0, nA, nB, nC, kd])
      · exact ⟨z, rfl⟩
    obtain ⟨y, rfl⟩ : ∃ z, vb = some (.inl z) := by
      rcases vb with _ | z | z
      · exact absurd hlk (by simp [lkA, lk, lk0, nA, nB, nC, kd])
      · exact ⟨z, rfl⟩
      · exact absurd hlk (by simp [lkA, lk, lk0, nA, nB, nC, kd])
    obtain ⟨va1, va2⟩ := hva (by decide)
    obtain ⟨vb1, vb2⟩ := hvb (by decide)
    refine aw_aload_n (n := 1) dX6_comeTo_0 rfl rfl ?_
    refine aw_getr (n := 4) dX6_comeTo_1 fX6_12 (by assumption) rfl rfl ?_
    refine aw_getr (n := 7) dX6_comeTo_4 fX6_66 (by assumption) rfl rfl ?_
    refine aw_iload_n (n := 8) dX6_comeTo_7 rfl rfl ?_
    refine aw_iald (n := 9) dX6_comeTo_8 (by assumption) (by assumption) rfl ?_
    rw [htt, hM]
    refine aw_istore (n := 11) (L' := [_, _, _, _, _, _, _]) dX6_comeTo_9 (Nat.le_of_ble_eq_true rfl) rfl rfl ?_
    refine aw_iload (n := 13) dX6_comeTo_11 rfl rfl ?_
    refine aw_tswIn (n := 157) (off := 144) dX6_comeTo_13 (by decide) (by decide) (by decide) (by decide) ?_
    refine aw_aload_n (n := 158) dX6_comeTo_157 rfl rfl ?_
    refine aw_aload_n (n := 159) dX6_comeTo_158 rfl rfl ?_
    refine aw_aload (n := 161) dX6_comeTo_159 rfl rfl ?_
    refine aw_geti (n := 164) dX6_comeTo_161 fX6_48 (by assumption) rfl rfl ?_
    rw [vb1.2.1]
    refine aw_s3 (d1 := d - 1) (n := 167) (Z := mX6_setAt) (L0 := [_, _, _]) dX6_comeTo_164 kX6_setAt gX6_128 syX6_setAt rfl rfl rfl (Nat.le_of_ble_eq_true rfl) rfl rfl (by omega) (Nat.le_of_ble_eq_true rfl) (t_setAt (by omega) ho' ha' va1 (fun hk => ?_) (fun hk M' h5 h6 => ?_))
    · dsimp only [aPush]
      refine aw_iret dX6_comeTo_167 rfl ?_
      first | exact h1 2 (if_pos hk) | exact h2 _ (if_neg hk) _ h5 h6
    · dsimp only [aPush]
      refine aw_iret dX6_comeTo_167 rfl ?_
      first | exact h1 2 (if_pos hk) | exact h2 _ (if_neg hk) _ h5 h6
  · obtain ⟨r, rfl⟩ : ∃ z, va = some (.inr z) := by
      rcases va with _ | z | z
      · exact absurd hlk (by simp [lkA, lk, lk0, nA, nB, nC, kd])
      · exact absurd hlk (by simp [lkA, lk, lk0, nA, nB, nC, kd])
      · exact ⟨z, rfl⟩
    obtain ⟨va1, va2⟩ := hva (by decide)
    refine aw_aload_n (n := 1) dX6_comeTo_0 rfl rfl ?_
    refine aw_getr (n := 4) dX6_comeTo_1 fX6_12 (by assumption) rfl rfl ?_
    refine aw_getr (n := 7) dX6_comeTo_4 fX6_66 (by assumption) rfl rfl ?_
    refine aw_iload_n (n := 8) dX6_comeTo_7 rfl rfl ?_
    refine aw_iald (n := 9) dX6_comeTo_8 (by assumption) (by assumption) rfl ?_
    rw [htt, hM]
    refine aw_istore (n := 11) (L' := [_, _, _, _, _, _, _]) dX6_comeTo_9 (Nat.le_of_ble_eq_true rfl) rfl rfl ?_
    refine aw_iload (n := 13) dX6_comeTo_11 rfl rfl ?_
    refine aw_tswIn (n := 168) (off := 155) dX6_comeTo_13 (by decide) (by decide) (by decide) (by decide) ?_
    refine aw_aload_n (n := 169) dX6_comeTo_168 rfl rfl ?_
    refine aw_aload_n (n := 170) dX6_comeTo_169 rfl rfl ?_
    refine aw_geti (n := 173) dX6_comeTo_170 fX6_132 (by assumption) rfl rfl ?_
    rw [va1.2.2.1]
    refine aw_v1 (d1 := d - 1) (n := 176) (Z := mX5_setWhole) (ci := 3) (L0 := [_, _]) dX6_comeTo_173 kX5_setWhole gX6_117 iyX5_setWhole eyX5_setWhole rfl rfl (by assumption) rfl (Nat.le_of_ble_eq_true rfl) rfl rfl (by omega) (Nat.le_of_ble_eq_true rfl) (t_setWhole ho' (fun M' h5 h6 => ?_))
    dsimp only [aPush]
    refine aw_iconst (n := 177) (v := 0) dX6_comeTo_176 (by decide) rfl ?_
    refine aw_iret dX6_comeTo_177 rfl ?_
    exact h2 _ rfl _ h5 (fun q q1 q2 => h6 q q1)
  · obtain ⟨x, rfl⟩ : ∃ z, va = some (.inl z) := by
      rcases va with _ | z | z
      · exact absurd hlk (by simp [lkA, lk, lk0, nA, nB, nC, kd])
      · exact ⟨z, rfl⟩
      · exact absurd hlk (by simp [lkA, lk, lk0, nA, nB, nC, kd])
    obtain ⟨va1, va2⟩ := hva (by decide)
    refine aw_aload_n (n := 1) dX6_comeTo_0 rfl rfl ?_
    refine aw_getr (n := 4) dX6_comeTo_1 fX6_12 (by assumption) rfl rfl ?_
    refine aw_getr (n := 7) dX6_comeTo_4 fX6_66 (by assumption) rfl rfl ?_
    refine aw_iload_n (n := 8) dX6_comeTo_7 rfl rfl ?_
    refine aw_iald (n := 9) dX6_comeTo_8 (by assumption) (by assumption) rfl ?_
    rw [htt, hM]
    refine aw_istore (n := 11) (L' := [_, _, _, _, _, _, _]) dX6_comeTo_9 (Nat.le_of_ble_eq_true rfl) rfl rfl ?_
    refine aw_iload (n := 13) dX6_comeTo_11 rfl rfl ?_
    refine aw_tswIn (n := 178) (off := 165) dX6_comeTo_13 (by decide) (by decide) (by decide) (by decide) ?_
    refine aw_aload_n (n := 179) dX6_comeTo_178 rfl rfl ?_
    refine aw_aload_n (n := 180) dX6_comeTo_179 rfl rfl ?_
    refine aw_geti (n := 183) dX6_comeTo_180 fX6_48 (by assumption) rfl rfl ?_
    rw [va1.2.1]
    refine aw_s2 (d1 := d - 1) (n := 186) (Z := mX6_setZeros) (L0 := [_, _, .null]) dX6_comeTo_183 kX6_setZeros gX6_135 syX6_setZeros rfl rfl (Nat.le_of_ble_eq_true rfl) rfl rfl (by omega) (Nat.le_of_ble_eq_true rfl) (t_setZeros (by omega) ho' (fun g1 => ?_) (fun g1 g2 => ?_) (fun g1 g2 M' h5 h6 => ?_))
    · dsimp only [aPush]
      refine aw_iret dX6_comeTo_186 rfl ?_
      first | exact h2 _ ((if_neg g1).trans (if_neg g2)) _ h5 h6 | exact h1 6 ((if_neg g1).trans (if_pos g2)) | exact h1 3 (if_pos g1)
    · dsimp only [aPush]
      refine aw_iret dX6_comeTo_186 rfl ?_
      first | exact h2 _ ((if_neg g1).trans (if_neg g2)) _ h5 h6 | exact h1 6 ((if_neg g1).trans (if_pos g2)) | exact h1 3 (if_pos g1)
    · dsimp only [aPush]
      refine aw_iret dX6_comeTo_186 rfl ?_
      first | exact h2 _ ((if_neg g1).trans (if_neg g2)) _ h5 h6 | exact h1 6 ((if_neg g1).trans (if_pos g2)) | exact h1 3 (if_pos g1)
  · obtain ⟨r, rfl⟩ : ∃ z, va = some (.inr z) := by
      rcases va with _ | z | z
      · exact absurd hlk (by simp [lkA, lk, lk0, nA, nB, nC, kd])
      · exact absurd hlk (by simp [lkA, lk, lk0, nA, nB, nC, kd])
      · exact ⟨z, rfl⟩
    obtain ⟨y, rfl⟩ : ∃ z, vb = some (.inl z) := by
      rcases vb with _ | z | z
      · exact absurd hlk (by simp [lkA, lk, lk0, nA, nB, nC, kd])
      · exact ⟨z, rfl⟩
      · exact absurd hlk (by simp [lkA, lk, lk0, nA, nB, nC, kd])
    obtain ⟨z, rfl⟩ : ∃ z, vc = some (.inl z) := by
      rcases vc with _ | z | z
      · exact absurd hlk (by simp [lkA, lk, lk0, nA, nB, nC, kd])
      · exact ⟨z, rfl⟩
      · exact absurd hlk (by simp [lkA, lk, lk0, nA, nB, nC, kd])
    obtain ⟨va1, va2⟩ := hva (by decide)
    obtain ⟨vb1, vb2⟩ := hvb (by decide)
    obtain ⟨vc1, vc2⟩ := hvc (by decide)
    refine aw_aload_n (n := 1) dX6_comeTo_0 rfl rfl ?_
    refine aw_getr (n := 4) dX6_comeTo_1 fX6_12 (by assumption) rfl rfl ?_
    refine aw_getr (n := 7) dX6_comeTo_4 fX6_66 (by assumption) rfl rfl ?_
    refine aw_iload_n (n := 8) dX6_comeTo_7 rfl rfl ?_
    refine aw_iald (n := 9) dX6_comeTo_8 (by assumption) (by assumption) rfl ?_
    rw [htt, hM]
    refine aw_istore (n := 11) (L' := [_, _, _, _, _, _, _]) dX6_comeTo_9 (Nat.le_of_ble_eq_true rfl) rfl rfl ?_
    refine aw_iload (n := 13) dX6_comeTo_11 rfl rfl ?_
    refine aw_tswIn (n := 187) (off := 174) dX6_comeTo_13 (by decide) (by decide) (by decide) (by decide) ?_
    refine aw_aload_n (n := 188) dX6_comeTo_187 rfl rfl ?_
    refine aw_aload_n (n := 189) dX6_comeTo_188 rfl rfl ?_
    refine aw_aload (n := 191) dX6_comeTo_189 rfl rfl ?_
    refine aw_geti (n := 194) dX6_comeTo_191 fX6_48 (by assumption) rfl rfl ?_
    refine aw_aload (n := 196) dX6_comeTo_194 rfl rfl ?_
    refine aw_geti (n := 199) dX6_comeTo_196 fX6_48 (by assumption) rfl rfl ?_
    rw [vb1.2.1, vc1.2.1]
    refine aw_s4 (d1 := d - 1) (n := 202) (Z := mX6_setPut) (L0 := [_, _, _, _]) dX6_comeTo_199 kX6_setPut gX6_138 syX6_setPut rfl rfl rfl rfl (Nat.le_of_ble_eq_true rfl) rfl rfl (by omega) (Nat.le_of_ble_eq_true rfl) (t_setPut (by omega) ho' ha' va2 va1 (fun hk => ?_) (fun hk M' h5 h6 => ?_))
    · dsimp only [aPush]
      refine aw_iret dX6_comeTo_202 rfl ?_
      first | exact h1 2 (if_pos hk) | exact h2 _ (if_neg hk) _ h5 h6
    · dsimp only [aPush]
      refine aw_iret dX6_comeTo_202 rfl ?_
      first | exact h1 2 (if_pos hk) | exact h2 _ (if_neg hk) _ h5 h6
  · obtain ⟨r, rfl⟩ : ∃ z, va = some (.inr z) := by
      rcases va with _ | z | z
      · exact absurd hlk (by simp [lkA, lk, lk0, nA, nB, nC, kd])
      · exact absurd hlk (by simp [lkA, lk, lk0, nA, nB, nC, kd])
      · exact ⟨z, rfl⟩
    obtain ⟨s, rfl⟩ : ∃ z, vb = some (.inr z) := by
      rcases vb with _ | z | z
      · exact absurd hlk (by simp [lkA, lk, lk0, nA, nB, nC, kd])
      · exact absurd hlk (by simp [lkA, lk, lk0, nA, nB, nC, kd])
      · exact ⟨z, rfl⟩
    obtain ⟨va1, va2⟩ := hva (by decide)
    obtain ⟨vb1, vb2⟩ := hvb (by decide)
    refine aw_aload_n (n := 1) dX6_comeTo_0 rfl rfl ?_
    refine aw_getr (n := 4) dX6_comeTo_1 fX6_12 (by assumption) rfl rfl ?_
    refine aw_getr (n := 7) dX6_comeTo_4 fX6_66 (by assumption) rfl rfl ?_
    refine aw_iload_n (n := 8) dX6_comeTo_7 rfl rfl ?_
    refine aw_iald (n := 9) dX6_comeTo_8 (by assumption) (by assumption) rfl ?_
    rw [htt, hM]
    refine aw_istore (n := 11) (L' := [_, _, _, _, _, _, _]) dX6_comeTo_9 (Nat.le_of_ble_eq_true rfl) rfl rfl ?_
    refine aw_iload (n := 13) dX6_comeTo_11 rfl rfl ?_
    refine aw_tswIn (n := 203) (off := 190) dX6_comeTo_13 (by decide) (by decide) (by decide) (by decide) ?_
    refine aw_aload_n (n := 204) dX6_comeTo_203 rfl rfl ?_
    refine aw_aload_n (n := 205) dX6_comeTo_204 rfl rfl ?_
    refine aw_aload (n := 207) dX6_comeTo_205 rfl rfl ?_
    refine aw_s3 (d1 := d - 1) (n := 210) (Z := mX6_setJoined) (L0 := [_, _, _]) dX6_comeTo_207 kX6_setJoined gX6_142 syX6_setJoined rfl rfl rfl (Nat.le_of_ble_eq_true rfl) rfl rfl (by omega) (Nat.le_of_ble_eq_true rfl) (t_setJoined (by omega) ho' ha' hb' va2 vb2 va1 vb1 (fun hk => ?_) (fun hk M' h5 h6 => ?_))
    · dsimp only [aPush]
      refine aw_iret dX6_comeTo_210 rfl ?_
      first | exact h1 6 (if_pos hk) | exact h2 _ (if_neg hk) _ h5 h6
    · dsimp only [aPush]
      refine aw_iret dX6_comeTo_210 rfl ?_
      first | exact h1 6 (if_pos hk) | exact h2 _ (if_neg hk) _ h5 h6
  · obtain ⟨r, rfl⟩ : ∃ z, va = some (.inr z) := by
      rcases va with _ | z | z
      · exact absurd hlk (by simp [lkA, lk, lk0, nA, nB, nC, kd])
      · exact absurd hlk (by simp [lkA, lk, lk0, nA, nB, nC, kd])
      · exact ⟨z, rfl⟩
    obtain ⟨y, rfl⟩ : ∃ z, vb = some (.inl z) := by
      rcases vb with _ | z | z
      · exact absurd hlk (by simp [lkA, lk, lk0, nA, nB, nC, kd])
      · exact ⟨z, rfl⟩
      · exact absurd hlk (by simp [lkA, lk, lk0, nA, nB, nC, kd])
    obtain ⟨z, rfl⟩ : ∃ z, vc = some (.inl z) := by
      rcases vc with _ | z | z
      · exact absurd hlk (by simp [lkA, lk, lk0, nA, nB, nC, kd])
      · exact ⟨z, rfl⟩
      · exact absurd hlk (by simp [lkA, lk, lk0, nA, nB, nC, kd])
    obtain ⟨va1, va2⟩ := hva (by decide)
    obtain ⟨vb1, vb2⟩ := hvb (by decide)
    obtain ⟨vc1, vc2⟩ := hvc (by decide)
    refine aw_aload_n (n := 1) dX6_comeTo_0 rfl rfl ?_
    refine aw_getr (n := 4) dX6_comeTo_1 fX6_12 (by assumption) rfl rfl ?_
    refine aw_getr (n := 7) dX6_comeTo_4 fX6_66 (by assumption) rfl rfl ?_
    refine aw_iload_n (n := 8) dX6_comeTo_7 rfl rfl ?_
    refine aw_iald (n := 9) dX6_comeTo_8 (by assumption) (by assumption) rfl ?_
    rw [htt, hM]
    refine aw_istore (n := 11) (L' := [_, _, _, _, _, _, _]) dX6_comeTo_9 (Nat.le_of_ble_eq_true rfl) rfl rfl ?_
    refine aw_iload (n := 13) dX6_comeTo_11 rfl rfl ?_
    refine aw_tswIn (n := 211) (off := 198) dX6_comeTo_13 (by decide) (by decide) (by decide) (by decide) ?_
    refine aw_aload_n (n := 212) dX6_comeTo_211 rfl rfl ?_
    refine aw_aload_n (n := 213) dX6_comeTo_212 rfl rfl ?_
    refine aw_aload (n := 215) dX6_comeTo_213 rfl rfl ?_
    refine aw_geti (n := 218) dX6_comeTo_215 fX6_48 (by assumption) rfl rfl ?_
    refine aw_aload (n := 220) dX6_comeTo_218 rfl rfl ?_
    refine aw_geti (n := 223) dX6_comeTo_220 fX6_48 (by assumption) rfl rfl ?_
    rw [vb1.2.1, vc1.2.1]
    refine aw_s4 (d1 := d - 1) (n := 226) (Z := mX6_setPart) (L0 := [_, _, _, _]) dX6_comeTo_223 kX6_setPart gX6_146 syX6_setPart rfl rfl rfl rfl (Nat.le_of_ble_eq_true rfl) rfl rfl (by omega) (Nat.le_of_ble_eq_true rfl) (t_setPart (by omega) ho' ha' va2 va1 (fun g1 => ?_) (fun g1 g2 => ?_) (fun g1 g2 g3 => ?_) (fun g1 g2 g3 M' h5 h6 => ?_))
    · dsimp only [aPush]
      refine aw_iret dX6_comeTo_226 rfl ?_
      first | exact h2 _ ((if_neg g1).trans ((if_neg g2).trans (if_neg g3))) _ h5 h6 | exact h1 2 ((if_neg g1).trans ((if_neg g2).trans (if_pos g3))) | exact h1 6 ((if_neg g1).trans (if_pos g2)) | exact h1 3 (if_pos g1)
    · dsimp only [aPush]
      refine aw_iret dX6_comeTo_226 rfl ?_
      first | exact h2 _ ((if_neg g1).trans ((if_neg g2).trans (if_neg g3))) _ h5 h6 | exact h1 2 ((if_neg g1).trans ((if_neg g2).trans (if_pos g3))) | exact h1 6 ((if_neg g1).trans (if_pos g2)) | exact h1 3 (if_pos g1)
    · dsimp only [aPush]
      refine aw_iret dX6_comeTo_226 rfl ?_
      first | exact h2 _ ((if_neg g1).trans ((if_neg g2).trans (if_neg g3))) _ h5 h6 | exact h1 2 ((if_neg g1).trans ((if_neg g2).trans (if_pos g3))) | exact h1 6 ((if_neg g1).trans (if_pos g2)) | exact h1 3 (if_pos g1)
    · dsimp only [aPush]
      refine aw_iret dX6_comeTo_226 rfl ?_
      first | exact h2 _ ((if_neg g1).trans ((if_neg g2).trans (if_neg g3))) _ h5 h6 | exact h1 2 ((if_neg g1).trans ((if_neg g2).trans (if_pos g3))) | exact h1 6 ((if_neg g1).trans (if_pos g2)) | exact h1 3 (if_pos g1)
  · obtain ⟨r, rfl⟩ : ∃ z, va = some (.inr z) := by
      rcases va with _ | z | z
      · exact absurd hlk (by simp [lkA, lk, lk0, nA, nB, nC, kd])
      · exact absurd hlk (by simp [lkA, lk, lk0, nA, nB, nC, kd])
      · exact ⟨z, rfl⟩
    obtain ⟨va1, va2⟩ := hva (by decide)
    refine aw_aload_n (n := 1) dX6_comeTo_0 rfl rfl ?_
    refine aw_getr (n := 4) dX6_comeTo_1 fX6_12 (by assumption) rfl rfl ?_
    refine aw_getr (n := 7) dX6_comeTo_4 fX6_66 (by assumption) rfl rfl ?_
    refine aw_iload_n (n := 8) dX6_comeTo_7 rfl rfl ?_
    refine aw_iald (n := 9) dX6_comeTo_8 (by assumption) (by assumption) rfl ?_
    rw [htt, hM]
    refine aw_istore (n := 11) (L' := [_, _, _, _, _, _, _]) dX6_comeTo_9 (Nat.le_of_ble_eq_true rfl) rfl rfl ?_
    refine aw_iload (n := 13) dX6_comeTo_11 rfl rfl ?_
    refine aw_tswIn (n := 227) (off := 214) dX6_comeTo_13 (by decide) (by decide) (by decide) (by decide) ?_
    refine aw_aload_n (n := 228) dX6_comeTo_227 rfl rfl ?_
    refine aw_aload_n (n := 229) dX6_comeTo_228 rfl rfl ?_
    refine aw_s2 (d1 := d - 1) (n := 232) (Z := mX6_setSorted) (L0 := [_, _, .null, .null, .null]) dX6_comeTo_229 kX6_setSorted gX6_149 syX6_setSorted rfl rfl (Nat.le_of_ble_eq_true rfl) rfl rfl (by omega) (Nat.le_of_ble_eq_true rfl) (t_setSorted (by omega) ho' ha' va2 va1 (fun M' h5 h6 => ?_))
    dsimp only [aPush]
    refine aw_iconst (n := 233) (v := 0) dX6_comeTo_232 (by decide) rfl ?_
    refine aw_iret dX6_comeTo_233 rfl ?_
    exact h2 _ rfl _ h5 h6
  · obtain ⟨r, rfl⟩ : ∃ z, va = some (.inr z) := by
      rcases va with _ | z | z
      · exact absurd hlk (by simp [lkA, lk, lk0, nA, nB, nC, kd])
      · exact absurd hlk (by simp [lkA, lk, lk0, nA, nB, nC, kd])
      · exact ⟨z, rfl⟩
    obtain ⟨va1, va2⟩ := hva (by decide)
    refine aw_aload_n (n := 1) dX6_comeTo_0 rfl rfl ?_
    refine aw_getr (n := 4) dX6_comeTo_1 fX6_12 (by assumption) rfl rfl ?_
    refine aw_getr (n := 7) dX6_comeTo_4 fX6_66 (by assumption) rfl rfl ?_
    refine aw_iload_n (n := 8) dX6_comeTo_7 rfl rfl ?_
    refine aw_iald (n := 9) dX6_comeTo_8 (by assumption) (by assumption) rfl ?_
    rw [htt, hM]
    refine aw_istore (n := 11) (L' := [_, _, _, _, _, _, _]) dX6_comeTo_9 (Nat.le_of_ble_eq_true rfl) rfl rfl ?_
    refine aw_iload (n := 13) dX6_comeTo_11 rfl rfl ?_
    refine aw_tswIn (n := 234) (off := 221) dX6_comeTo_13 (by decide) (by decide) (by decide) (by decide) ?_
    refine aw_aload_n (n := 235) dX6_comeTo_234 rfl rfl ?_
    refine aw_aload_n (n := 236) dX6_comeTo_235 rfl rfl ?_
    refine aw_s2 (d1 := d - 1) (n := 239) (Z := mX6_setTurned) (L0 := [_, _, .null]) dX6_comeTo_236 kX6_setTurned gX6_153 syX6_setTurned rfl rfl (Nat.le_of_ble_eq_true rfl) rfl rfl (by omega) (Nat.le_of_ble_eq_true rfl) (t_setTurned (by omega) ho' ha' va2 va1 (fun M' h5 h6 => ?_))
    dsimp only [aPush]
    refine aw_iconst (n := 240) (v := 0) dX6_comeTo_239 (by decide) rfl ?_
    refine aw_iret dX6_comeTo_240 rfl ?_
    exact h2 _ rfl _ h5 h6
  · obtain ⟨r, rfl⟩ : ∃ z, va = some (.inr z) := by
      rcases va with _ | z | z
      · exact absurd hlk (by simp [lkA, lk, lk0, nA, nB, nC, kd])
      · exact absurd hlk (by simp [lkA, lk, lk0, nA, nB, nC, kd])
      · exact ⟨z, rfl⟩
    obtain ⟨va1, va2⟩ := hva (by decide)
    refine aw_aload_n (n := 1) dX6_comeTo_0 rfl rfl ?_
    refine aw_getr (n := 4) dX6_comeTo_1 fX6_12 (by assumption) rfl rfl ?_
    refine aw_getr (n := 7) dX6_comeTo_4 fX6_66 (by assumption) rfl rfl ?_
    refine aw_iload_n (n := 8) dX6_comeTo_7 rfl rfl ?_
    refine aw_iald (n := 9) dX6_comeTo_8 (by assumption) (by assumption) rfl ?_
    rw [htt, hM]
    refine aw_istore (n := 11) (L' := [_, _, _, _, _, _, _]) dX6_comeTo_9 (Nat.le_of_ble_eq_true rfl) rfl rfl ?_
    refine aw_iload (n := 13) dX6_comeTo_11 rfl rfl ?_
    refine aw_tswIn (n := 241) (off := 228) dX6_comeTo_13 (by decide) (by decide) (by decide) (by decide) ?_
    refine aw_aload_n (n := 242) dX6_comeTo_241 rfl rfl ?_
    refine aw_aload_n (n := 243) dX6_comeTo_242 rfl rfl ?_
    refine aw_s1 (d1 := d - 1) (n := 246) (Z := mX6_sum) (L0 := [_, .null, .null]) dX6_comeTo_243 kX6_sum gX6_156 syX6_sum rfl (Nat.le_of_ble_eq_true rfl) rfl rfl (by omega) (Nat.le_of_ble_eq_true rfl) (t_sum ha' va1 ?_)
    dsimp only [aPush]
    refine aw_v1 (d1 := d - 1) (n := 249) (Z := mX5_setWhole) (ci := 3) (L0 := [_, _]) dX6_comeTo_246 kX5_setWhole gX6_117 iyX5_setWhole eyX5_setWhole rfl rfl (by assumption) rfl (Nat.le_of_ble_eq_true rfl) rfl rfl (by omega) (Nat.le_of_ble_eq_true rfl) (t_setWhole ho' (fun M' h5 h6 => ?_))
    dsimp only [aPush]
    refine aw_iconst (n := 250) (v := 0) dX6_comeTo_249 (by decide) rfl ?_
    refine aw_iret dX6_comeTo_250 rfl ?_
    exact h2 _ rfl _ h5 (fun q q1 q2 => h6 q q1)
end COME2
