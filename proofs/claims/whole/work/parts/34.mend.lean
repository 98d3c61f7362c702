section MEND
variable {l : Launch} {K : aK} {d : Nat} {M : aM} {Q : Option Value → aE → aM → Prop}
theorem m_like {mk t : Nat} {va vb : vV} (hd : 2 ≤ d) (hmk : mk ≤ 60) (ht : t < 60) (h20 : M 164 20 = 0) (h22 : M 164 22 = nI mk) (ha : gV M mk (3 * t) va) (hb : gV M mk (3 * t + 1) vb) (hQ : eQ mk M (opL va vb) Q) : aw l K mX8_like d 0 0 0 [.ref 164, .int (nI (3 * t)), .null, .null] [] EE M Q := by
  have hina : vp_in (nI (3 * t)) 183 := vp_in_nI (by omega) (by decide)
  have hinb : vp_in (nI (3 * t + 1)) 183 := vp_in_nI (by omega) (by decide)
  have haa : (nI (3 * t)).toNatClampNeg = 3 * t := nI_clamp (by omega)
  have hbb : (nI (3 * t + 1)).toNatClampNeg = 3 * t + 1 := nI_clamp (by omega)
  rcases va with _ | x | r
  · have k0 : M 175 (3 * t) = 2 := ha
    have hQ : eQ mk M (.inl 1) Q := hQ
    refine aw_aload_n (n := 1) dX8_like_0 rfl rfl ?_
    refine aw_aload_n (n := 2) dX8_like_1 rfl rfl ?_
    refine aw_getr (n := 5) dX8_like_2 fX8_40 E_164 rfl rfl ?_
    refine aw_iload_n (n := 6) dX8_like_5 rfl rfl ?_
    refine aw_iald (n := 7) dX8_like_6 E_175 (by assumption) rfl ?_
    rw [haa, k0]
    refine aw_iconst (n := 8) (v := 2) dX8_like_7 (by decide) rfl ?_
    refine aw_icmp_ne (tg := 15) (n := 11) dX8_like_8 (by decide) rfl (fun c_8 => by exact absurd rfl c_8) (fun c_8 => ?_)
    refine aw_iconst (n := 12) (v := 1) dX8_like_11 (by decide) rfl ?_
    refine aw_goto (n := 28) dX8_like_12 (by decide) ?_
    refine aw_puti (n := 31) dX8_like_28 pX8_110 E_164 rfl rfl ?_
    refine aw_aload_n (n := 32) dX8_like_31 rfl rfl ?_
    refine aw_geti (n := 35) dX8_like_32 fX8_110 E_164 rfl rfl ?_
    rw [up2_s]
    refine aw_if_eq (tg := 39) (n := 38) dX8_like_35 (by decide) rfl (fun c_35 => by exact absurd c_35 (by decide)) (fun c_35 => ?_)
    refine aw_vret dX8_like_38 rfl ?_
    exact thr_e (k := 1) hQ
  · have k0 : M 175 (3 * t) = nI 0 := ha.1
    have gx : M 176 (3 * t) = x := ha.2
    by_cases kb : lk 0 vb = 0
    · obtain ⟨y, rfl⟩ : ∃ z, vb = some (.inl z) := by
        rcases vb with _ | z | z
        · exact absurd kb (by decide)
        · exact ⟨z, rfl⟩
        · exact absurd kb (by simp [lk, lk0])
      have gy : M 176 (3 * t + 1) = y := hb.2
      have hQ : eQ mk M (tru (decide (x = y))) Q := hQ
      refine aw_aload_n (n := 1) dX8_like_0 rfl rfl ?_
      refine aw_aload_n (n := 2) dX8_like_1 rfl rfl ?_
      refine aw_getr (n := 5) dX8_like_2 fX8_40 E_164 rfl rfl ?_
      refine aw_iload_n (n := 6) dX8_like_5 rfl rfl ?_
      refine aw_iald (n := 7) dX8_like_6 E_175 (by assumption) rfl ?_
      rw [haa, k0]
      refine aw_iconst (n := 8) (v := 2) dX8_like_7 (by decide) rfl ?_
      refine aw_icmp_ne (tg := 15) (n := 11) dX8_like_8 (by decide) rfl (fun c_8 => ?_) (fun c_8 => by exact absurd c_8 (by decide))
      refine aw_aload_n (n := 16) dX8_like_15 rfl rfl ?_
      refine aw_iload_n (n := 17) dX8_like_16 rfl rfl ?_
      refine aw_iconst (n := 18) (v := 1) dX8_like_17 (by decide) rfl ?_
      refine aw_iadd (n := 19) dX8_like_18 rfl ?_
      rw [nI_1]
      refine aw_aload_n (n := 20) dX8_like_19 rfl rfl ?_
      refine aw_getr (n := 23) dX8_like_20 fX8_40 E_164 rfl rfl ?_
      refine aw_iload_n (n := 24) dX8_like_23 rfl rfl ?_
      refine aw_iald (n := 25) dX8_like_24 E_175 (by assumption) rfl ?_
      rw [haa, k0]
      refine aw_v2 (d1 := d - 1) (n := 28) (Z := mX8_wrong) (ci := 6) (L0 := [_, _, _]) dX8_like_25 kX8_wrong gX8_141 iyX8_wrong eyX8_wrong rfl rfl E_164 rfl rfl (Nat.le_of_ble_eq_true rfl) rfl rfl (by omega) (Nat.le_of_ble_eq_true rfl) (m_wrong (need := 0) (by omega) (by decide) hb ?_)
      dsimp only [aPush]
      rw [kb]
      refine aw_puti (n := 31) dX8_like_28 pX8_110 E_164 rfl rfl ?_
      rw [up2_id (x := nI 0) h20]
      refine aw_aload_n (n := 32) dX8_like_31 rfl rfl ?_
      refine aw_geti (n := 35) dX8_like_32 fX8_110 E_164 rfl rfl ?_
      rw [h20]
      refine aw_if_eq (tg := 39) (n := 38) dX8_like_35 (by decide) rfl (fun c_35 => ?_) (fun c_35 => by exact absurd rfl c_35)
      refine aw_aload_n (n := 40) dX8_like_39 rfl rfl ?_
      refine aw_getr (n := 43) dX8_like_40 fX8_43 E_164 rfl rfl ?_
      refine aw_iload_n (n := 44) dX8_like_43 rfl rfl ?_
      refine aw_iald (n := 45) dX8_like_44 E_176 (by assumption) rfl ?_
      rw [haa, gx]
      refine aw_aload_n (n := 46) dX8_like_45 rfl rfl ?_
      refine aw_getr (n := 49) dX8_like_46 fX8_43 E_164 rfl rfl ?_
      refine aw_iload_n (n := 50) dX8_like_49 rfl rfl ?_
      refine aw_iconst (n := 51) (v := 1) dX8_like_50 (by decide) rfl ?_
      refine aw_iadd (n := 52) dX8_like_51 rfl ?_
      rw [nI_1]
      refine aw_iald (n := 53) dX8_like_52 E_176 (by assumption) rfl ?_
      rw [hbb, gy]
      refine aw_icmp_ne (tg := 60) (n := 56) dX8_like_53 (by decide) rfl (fun c_53 => ?_) (fun c_53 => ?_)
      · refine aw_iconst (n := 61) (v := 0) dX8_like_60 (by decide) rfl ?_
        refine aw_istore_n (n := 62) (L' := [_, _, _, _]) dX8_like_61 (Nat.le_of_ble_eq_true rfl) rfl rfl ?_
        refine aw_iconst (n := 63) (v := 0) dX8_like_62 (by decide) rfl ?_
        refine aw_istore_n (n := 64) (L' := [_, _, _, _]) dX8_like_63 (Nat.le_of_ble_eq_true rfl) rfl rfl ?_
        refine aw_aload_n (n := 65) dX8_like_64 rfl rfl ?_
        refine aw_getr (n := 68) dX8_like_65 fX8_40 E_164 rfl rfl ?_
        refine aw_iload_n (n := 69) dX8_like_68 rfl rfl ?_
        refine aw_iald (n := 70) dX8_like_69 E_175 (by assumption) rfl ?_
        rw [haa, k0]
        refine aw_iconst (n := 71) (v := 1) dX8_like_70 (by decide) rfl ?_
        refine aw_icmp_ne (tg := 137) (n := 74) dX8_like_71 (by decide) rfl (fun c_71 => ?_) (fun c_71 => by exact absurd c_71 (by decide))
        refine aw_aload_n (n := 138) dX8_like_137 rfl rfl ?_
        refine aw_iload_n (n := 139) dX8_like_138 rfl rfl ?_
        refine aw_if_eq (tg := 146) (n := 142) dX8_like_139 (by decide) rfl (fun _ => ?_) (fun c_139 => by first | exact absurd rfl c_139 | exact absurd c_139 (by decide))
        refine aw_iconst (n := 147) (v := 0) dX8_like_146 (by decide) rfl ?_
        refine aw_v1 (d1 := d - 1) (n := 150) (Z := mX8_whole) (ci := 6) (L0 := [_, _]) dX8_like_147 kX8_whole gX8_149 iyX8_whole eyX8_whole rfl rfl E_164 rfl (Nat.le_of_ble_eq_true rfl) rfl rfl (by omega) (Nat.le_of_ble_eq_true rfl) ?_
        refine aw_aload_n (n := 1) dX8_whole_0 rfl rfl ?_
        refine aw_iconst (n := 2) (v := 0) dX8_whole_1 (by decide) rfl ?_
        refine aw_puti (n := 5) dX8_whole_2 pX8_128 E_164 rfl rfl ?_
        refine aw_aload_n (n := 6) dX8_whole_5 rfl rfl ?_
        refine aw_iload_n (n := 7) dX8_whole_6 rfl rfl ?_
        refine aw_puti (n := 10) dX8_whole_7 pX8_131 E_164 rfl rfl ?_
        refine aw_vret dX8_whole_10 rfl ?_
        dsimp only [aPush]
        refine aw_vret dX8_like_150 rfl ?_
        rw [show decide (x = y) = false from decide_eq_false c_53] at hQ
        exact eQ_whole hQ (fE_refl _ _) h20 h22
      · refine aw_iconst (n := 57) (v := 1) dX8_like_56 (by decide) rfl ?_
        refine aw_goto (n := 61) dX8_like_57 (by decide) ?_
        refine aw_istore_n (n := 62) (L' := [_, _, _, _]) dX8_like_61 (Nat.le_of_ble_eq_true rfl) rfl rfl ?_
        refine aw_iconst (n := 63) (v := 0) dX8_like_62 (by decide) rfl ?_
        refine aw_istore_n (n := 64) (L' := [_, _, _, _]) dX8_like_63 (Nat.le_of_ble_eq_true rfl) rfl rfl ?_
        refine aw_aload_n (n := 65) dX8_like_64 rfl rfl ?_
        refine aw_getr (n := 68) dX8_like_65 fX8_40 E_164 rfl rfl ?_
        refine aw_iload_n (n := 69) dX8_like_68 rfl rfl ?_
        refine aw_iald (n := 70) dX8_like_69 E_175 (by assumption) rfl ?_
        rw [haa, k0]
        refine aw_iconst (n := 71) (v := 1) dX8_like_70 (by decide) rfl ?_
        refine aw_icmp_ne (tg := 137) (n := 74) dX8_like_71 (by decide) rfl (fun c_71 => ?_) (fun c_71 => by exact absurd c_71 (by decide))
        refine aw_aload_n (n := 138) dX8_like_137 rfl rfl ?_
        refine aw_iload_n (n := 139) dX8_like_138 rfl rfl ?_
        refine aw_if_eq (tg := 146) (n := 142) dX8_like_139 (by decide) rfl (fun c_139 => by first | exact absurd rfl c_139 | exact absurd c_139 (by decide)) (fun _ => ?_)
        refine aw_iconst (n := 143) (v := 1) dX8_like_142 (by decide) rfl ?_
        refine aw_goto (n := 147) dX8_like_143 (by decide) ?_
        refine aw_v1 (d1 := d - 1) (n := 150) (Z := mX8_whole) (ci := 6) (L0 := [_, _]) dX8_like_147 kX8_whole gX8_149 iyX8_whole eyX8_whole rfl rfl E_164 rfl (Nat.le_of_ble_eq_true rfl) rfl rfl (by omega) (Nat.le_of_ble_eq_true rfl) ?_
        refine aw_aload_n (n := 1) dX8_whole_0 rfl rfl ?_
        refine aw_iconst (n := 2) (v := 0) dX8_whole_1 (by decide) rfl ?_
        refine aw_puti (n := 5) dX8_whole_2 pX8_128 E_164 rfl rfl ?_
        refine aw_aload_n (n := 6) dX8_whole_5 rfl rfl ?_
        refine aw_iload_n (n := 7) dX8_whole_6 rfl rfl ?_
        refine aw_puti (n := 10) dX8_whole_7 pX8_131 E_164 rfl rfl ?_
        refine aw_vret dX8_whole_10 rfl ?_
        dsimp only [aPush]
        refine aw_vret dX8_like_150 rfl ?_
        rw [show decide (x = y) = true from decide_eq_true c_53] at hQ
        exact eQ_whole hQ (fE_refl _ _) h20 h22
    · have hr : opL (some (.inl x)) vb = .inl (lk 0 vb) := by
        rcases vb with _ | z | z
        · rfl
        · exact absurd rfl kb
        · rfl
      rw [hr] at hQ
      have hnb : ¬ nI (lk 0 vb) = 0 := nI_ne0 (by omega) (by have := lk_lt 0 vb; omega)
      refine aw_aload_n (n := 1) dX8_like_0 rfl rfl ?_
      refine aw_aload_n (n := 2) dX8_like_1 rfl rfl ?_
      refine aw_getr (n := 5) dX8_like_2 fX8_40 E_164 rfl rfl ?_
      refine aw_iload_n (n := 6) dX8_like_5 rfl rfl ?_
      refine aw_iald (n := 7) dX8_like_6 E_175 (by assumption) rfl ?_
      rw [haa, k0]
      refine aw_iconst (n := 8) (v := 2) dX8_like_7 (by decide) rfl ?_
      refine aw_icmp_ne (tg := 15) (n := 11) dX8_like_8 (by decide) rfl (fun c_8 => ?_) (fun c_8 => by exact absurd c_8 (by decide))
      refine aw_aload_n (n := 16) dX8_like_15 rfl rfl ?_
      refine aw_iload_n (n := 17) dX8_like_16 rfl rfl ?_
      refine aw_iconst (n := 18) (v := 1) dX8_like_17 (by decide) rfl ?_
      refine aw_iadd (n := 19) dX8_like_18 rfl ?_
      rw [nI_1]
      refine aw_aload_n (n := 20) dX8_like_19 rfl rfl ?_
      refine aw_getr (n := 23) dX8_like_20 fX8_40 E_164 rfl rfl ?_
      refine aw_iload_n (n := 24) dX8_like_23 rfl rfl ?_
      refine aw_iald (n := 25) dX8_like_24 E_175 (by assumption) rfl ?_
      rw [haa, k0]
      refine aw_v2 (d1 := d - 1) (n := 28) (Z := mX8_wrong) (ci := 6) (L0 := [_, _, _]) dX8_like_25 kX8_wrong gX8_141 iyX8_wrong eyX8_wrong rfl rfl E_164 rfl rfl (Nat.le_of_ble_eq_true rfl) rfl rfl (by omega) (Nat.le_of_ble_eq_true rfl) (m_wrong (need := 0) (by omega) (by decide) hb ?_)
      dsimp only [aPush]
      refine aw_puti (n := 31) dX8_like_28 pX8_110 E_164 rfl rfl ?_
      refine aw_aload_n (n := 32) dX8_like_31 rfl rfl ?_
      refine aw_geti (n := 35) dX8_like_32 fX8_110 E_164 rfl rfl ?_
      rw [up2_s]
      refine aw_if_eq (tg := 39) (n := 38) dX8_like_35 (by decide) rfl (fun c_35 => by exact absurd c_35 hnb) (fun c_35 => ?_)
      refine aw_vret dX8_like_38 rfl ?_
      exact thr_e hQ
  · obtain ⟨k0, hr, gx, pl, hpl, gp, hst⟩ := id ha
    have k0 : M 175 (3 * t) = nI 1 := k0
    by_cases kb : lk 1 vb = 0
    · obtain ⟨s, rfl⟩ : ∃ z, vb = some (.inr z) := by
        rcases vb with _ | z | z
        · exact absurd kb (by decide)
        · exact absurd kb (by simp [lk, lk0])
        · exact ⟨z, rfl⟩
      obtain ⟨k1, hs, gy, pm, hpm, gq, hsu⟩ := id hb
      have hQ : eQ mk M (tru (decide (r = s))) Q := hQ
      have no : ∀ kk, ¬ r = s → aw l K mX8_like d 0 0 64 [.ref 164, .int (nI (3 * t)), .int 0, .int kk] [] EE M Q := by
        intro kk hne
        refine aw_aload_n (n := 65) dX8_like_64 rfl rfl ?_
        refine aw_getr (n := 68) dX8_like_65 fX8_40 E_164 rfl rfl ?_
        refine aw_iload_n (n := 69) dX8_like_68 rfl rfl ?_
        refine aw_iald (n := 70) dX8_like_69 E_175 (by assumption) rfl ?_
        rw [haa, k0]
        refine aw_iconst (n := 71) (v := 1) dX8_like_70 (by decide) rfl ?_
        refine aw_icmp_ne (tg := 137) (n := 74) dX8_like_71 (by decide) rfl (fun c_71 => by exact absurd rfl c_71) (fun c_71 => ?_)
        refine aw_iload_n (n := 75) dX8_like_74 rfl rfl ?_
        refine aw_if_eq (tg := 137) (n := 78) dX8_like_75 (by decide) rfl (fun _ => ?_) (fun c_75 => by first | exact absurd rfl c_75 | exact absurd c_75 (by decide))
        refine aw_aload_n (n := 138) dX8_like_137 rfl rfl ?_
        refine aw_iload_n (n := 139) dX8_like_138 rfl rfl ?_
        refine aw_if_eq (tg := 146) (n := 142) dX8_like_139 (by decide) rfl (fun _ => ?_) (fun c_139 => by first | exact absurd rfl c_139 | exact absurd c_139 (by decide))
        refine aw_iconst (n := 147) (v := 0) dX8_like_146 (by decide) rfl ?_
        refine aw_v1 (d1 := d - 1) (n := 150) (Z := mX8_whole) (ci := 6) (L0 := [_, _]) dX8_like_147 kX8_whole gX8_149 iyX8_whole eyX8_whole rfl rfl E_164 rfl (Nat.le_of_ble_eq_true rfl) rfl rfl (by omega) (Nat.le_of_ble_eq_true rfl) ?_
        refine aw_aload_n (n := 1) dX8_whole_0 rfl rfl ?_
        refine aw_iconst (n := 2) (v := 0) dX8_whole_1 (by decide) rfl ?_
        refine aw_puti (n := 5) dX8_whole_2 pX8_128 E_164 rfl rfl ?_
        refine aw_aload_n (n := 6) dX8_whole_5 rfl rfl ?_
        refine aw_iload_n (n := 7) dX8_whole_6 rfl rfl ?_
        refine aw_puti (n := 10) dX8_whole_7 pX8_131 E_164 rfl rfl ?_
        refine aw_vret dX8_whole_10 rfl ?_
        dsimp only [aPush]
        refine aw_vret dX8_like_150 rfl ?_
        rw [show decide (r = s) = false from decide_eq_false hne] at hQ
        exact eQ_whole hQ (fE_refl _ _) h20 h22
      have loop : ∀ m k, m + k = r.length → r.length = s.length → (∀ j, j < k → r.getD j 0 = s.getD j 0) → aw l K mX8_like d 0 0 64 [.ref 164, .int (nI (3 * t)), .int 1, .int (nI k)] [] EE M Q := by
        intro m
        induction m with
        | zero =>
          intro k hk hl h4
          refine aw_aload_n (n := 65) dX8_like_64 rfl rfl ?_
          refine aw_getr (n := 68) dX8_like_65 fX8_40 E_164 rfl rfl ?_
          refine aw_iload_n (n := 69) dX8_like_68 rfl rfl ?_
          refine aw_iald (n := 70) dX8_like_69 E_175 (by assumption) rfl ?_
          rw [haa, k0]
          refine aw_iconst (n := 71) (v := 1) dX8_like_70 (by decide) rfl ?_
          refine aw_icmp_ne (tg := 137) (n := 74) dX8_like_71 (by decide) rfl (fun c_71 => by exact absurd rfl c_71) (fun c_71 => ?_)
          refine aw_iload_n (n := 75) dX8_like_74 rfl rfl ?_
          refine aw_if_eq (tg := 137) (n := 78) dX8_like_75 (by decide) rfl (fun c_75 => by first | exact absurd rfl c_75 | exact absurd c_75 (by decide)) (fun _ => ?_)
          refine aw_iload_n (n := 79) dX8_like_78 rfl rfl ?_
          refine aw_aload_n (n := 80) dX8_like_79 rfl rfl ?_
          refine aw_getr (n := 83) dX8_like_80 fX8_43 E_164 rfl rfl ?_
          refine aw_iload_n (n := 84) dX8_like_83 rfl rfl ?_
          refine aw_iald (n := 85) dX8_like_84 E_176 (by assumption) rfl ?_
          rw [haa, gx]
          refine aw_icmp_ge (tg := 137) (n := 88) dX8_like_85 (by decide) rfl (fun c_85 => ?_) (fun c_85 => by exact absurd (nI_le (by omega) (by omega)) c_85)
          refine aw_aload_n (n := 138) dX8_like_137 rfl rfl ?_
          refine aw_iload_n (n := 139) dX8_like_138 rfl rfl ?_
          refine aw_if_eq (tg := 146) (n := 142) dX8_like_139 (by decide) rfl (fun c_139 => by first | exact absurd rfl c_139 | exact absurd c_139 (by decide)) (fun _ => ?_)
          refine aw_iconst (n := 143) (v := 1) dX8_like_142 (by decide) rfl ?_
          refine aw_goto (n := 147) dX8_like_143 (by decide) ?_
          refine aw_v1 (d1 := d - 1) (n := 150) (Z := mX8_whole) (ci := 6) (L0 := [_, _]) dX8_like_147 kX8_whole gX8_149 iyX8_whole eyX8_whole rfl rfl E_164 rfl (Nat.le_of_ble_eq_true rfl) rfl rfl (by omega) (Nat.le_of_ble_eq_true rfl) ?_
          refine aw_aload_n (n := 1) dX8_whole_0 rfl rfl ?_
          refine aw_iconst (n := 2) (v := 0) dX8_whole_1 (by decide) rfl ?_
          refine aw_puti (n := 5) dX8_whole_2 pX8_128 E_164 rfl rfl ?_
          refine aw_aload_n (n := 6) dX8_whole_5 rfl rfl ?_
          refine aw_iload_n (n := 7) dX8_whole_6 rfl rfl ?_
          refine aw_puti (n := 10) dX8_whole_7 pX8_131 E_164 rfl rfl ?_
          refine aw_vret dX8_whole_10 rfl ?_
          dsimp only [aPush]
          refine aw_vret dX8_like_150 rfl ?_
          rw [show decide (r = s) = true from decide_eq_true (ext_getD hl (fun j hj => h4 j (by omega)))] at hQ
          exact eQ_whole hQ (fE_refl _ _) h20 h22
        | succ m ih =>
          intro k hk hl h4
          have hin1 : vp_in (nI (16 * pl + k)) 1024 := vp_in_nI (by omega) (by decide)
          have hin2 : vp_in (nI (16 * pm + k)) 1024 := vp_in_nI (by omega) (by decide)
          refine aw_aload_n (n := 65) dX8_like_64 rfl rfl ?_
          refine aw_getr (n := 68) dX8_like_65 fX8_40 E_164 rfl rfl ?_
          refine aw_iload_n (n := 69) dX8_like_68 rfl rfl ?_
          refine aw_iald (n := 70) dX8_like_69 E_175 (by assumption) rfl ?_
          rw [haa, k0]
          refine aw_iconst (n := 71) (v := 1) dX8_like_70 (by decide) rfl ?_
          refine aw_icmp_ne (tg := 137) (n := 74) dX8_like_71 (by decide) rfl (fun c_71 => by exact absurd rfl c_71) (fun c_71 => ?_)
          refine aw_iload_n (n := 75) dX8_like_74 rfl rfl ?_
          refine aw_if_eq (tg := 137) (n := 78) dX8_like_75 (by decide) rfl (fun c_75 => by first | exact absurd rfl c_75 | exact absurd c_75 (by decide)) (fun _ => ?_)
          refine aw_iload_n (n := 79) dX8_like_78 rfl rfl ?_
          refine aw_aload_n (n := 80) dX8_like_79 rfl rfl ?_
          refine aw_getr (n := 83) dX8_like_80 fX8_43 E_164 rfl rfl ?_
          refine aw_iload_n (n := 84) dX8_like_83 rfl rfl ?_
          refine aw_iald (n := 85) dX8_like_84 E_176 (by assumption) rfl ?_
          rw [haa, gx]
          refine aw_icmp_ge (tg := 137) (n := 88) dX8_like_85 (by decide) rfl (fun c_85 => by exact absurd c_85 (nI_ge (by omega) (by omega))) (fun c_85 => ?_)
          refine aw_aload_n (n := 89) dX8_like_88 rfl rfl ?_
          refine aw_getr (n := 92) dX8_like_89 fX8_49 E_164 rfl rfl ?_
          refine aw_bipush (n := 94) (v := 16) dX8_like_92 (by decide) rfl ?_
          refine aw_aload_n (n := 95) dX8_like_94 rfl rfl ?_
          refine aw_getr (n := 98) dX8_like_95 fX8_46 E_164 rfl rfl ?_
          refine aw_iload_n (n := 99) dX8_like_98 rfl rfl ?_
          refine aw_iald (n := 100) dX8_like_99 E_177 (by assumption) rfl ?_
          rw [haa, gp]
          refine aw_imul (n := 101) dX8_like_100 rfl ?_
          rw [show (16 : Int32) = nI 16 from rfl, pk_mul]
          refine aw_iload_n (n := 102) dX8_like_101 rfl rfl ?_
          refine aw_iadd (n := 103) dX8_like_102 rfl ?_
          rw [nI_add]
          refine aw_iald (n := 104) dX8_like_103 E_178 (by assumption) rfl ?_
          rw [nI_clamp (by omega), hst k (by omega)]
          refine aw_aload_n (n := 105) dX8_like_104 rfl rfl ?_
          refine aw_getr (n := 108) dX8_like_105 fX8_49 E_164 rfl rfl ?_
          refine aw_bipush (n := 110) (v := 16) dX8_like_108 (by decide) rfl ?_
          refine aw_aload_n (n := 111) dX8_like_110 rfl rfl ?_
          refine aw_getr (n := 114) dX8_like_111 fX8_46 E_164 rfl rfl ?_
          refine aw_iload_n (n := 115) dX8_like_114 rfl rfl ?_
          refine aw_iconst (n := 116) (v := 1) dX8_like_115 (by decide) rfl ?_
          refine aw_iadd (n := 117) dX8_like_116 rfl ?_
          rw [nI_1]
          refine aw_iald (n := 118) dX8_like_117 E_177 (by assumption) rfl ?_
          rw [hbb, gq]
          refine aw_imul (n := 119) dX8_like_118 rfl ?_
          rw [show (16 : Int32) = nI 16 from rfl, pk_mul]
          refine aw_iload_n (n := 120) dX8_like_119 rfl rfl ?_
          refine aw_iadd (n := 121) dX8_like_120 rfl ?_
          rw [nI_add]
          refine aw_iald (n := 122) dX8_like_121 E_178 (by assumption) rfl ?_
          rw [nI_clamp (by omega), hsu k (by omega)]
          refine aw_icmp_ne (tg := 129) (n := 125) dX8_like_122 (by decide) rfl (fun c_122 => ?_) (fun c_122 => ?_)
          · refine aw_iconst (n := 130) (v := 0) dX8_like_129 (by decide) rfl ?_
            refine aw_istore_n (n := 131) (L' := [_, _, _, _]) dX8_like_130 (Nat.le_of_ble_eq_true rfl) rfl rfl ?_
            refine aw_incp (n := 134) (L' := [_, _, _, _]) dX8_like_131 rfl rfl rfl ?_
            refine aw_goto (n := 64) dX8_like_134 (by decide) ?_
            exact no _ (fun q => c_122 (by rw [q]))
          · refine aw_iconst (n := 126) (v := 1) dX8_like_125 (by decide) rfl ?_
            refine aw_goto (n := 130) dX8_like_126 (by decide) ?_
            refine aw_istore_n (n := 131) (L' := [_, _, _, _]) dX8_like_130 (Nat.le_of_ble_eq_true rfl) rfl rfl ?_
            refine aw_incp (n := 134) (L' := [_, _, _, _]) dX8_like_131 rfl rfl rfl ?_
            refine aw_goto (n := 64) dX8_like_134 (by decide) ?_
            rw [nI_1]
            refine ih (k + 1) (by omega) hl (fun j hj => ?_)
            by_cases hjk : j = k
            · subst hjk; exact c_122
            · exact h4 j (by omega)
      refine aw_aload_n (n := 1) dX8_like_0 rfl rfl ?_
      refine aw_aload_n (n := 2) dX8_like_1 rfl rfl ?_
      refine aw_getr (n := 5) dX8_like_2 fX8_40 E_164 rfl rfl ?_
      refine aw_iload_n (n := 6) dX8_like_5 rfl rfl ?_
      refine aw_iald (n := 7) dX8_like_6 E_175 (by assumption) rfl ?_
      rw [haa, k0]
      refine aw_iconst (n := 8) (v := 2) dX8_like_7 (by decide) rfl ?_
      refine aw_icmp_ne (tg := 15) (n := 11) dX8_like_8 (by decide) rfl (fun c_8 => ?_) (fun c_8 => by exact absurd c_8 (by decide))
      refine aw_aload_n (n := 16) dX8_like_15 rfl rfl ?_
      refine aw_iload_n (n := 17) dX8_like_16 rfl rfl ?_
      refine aw_iconst (n := 18) (v := 1) dX8_like_17 (by decide) rfl ?_
      refine aw_iadd (n := 19) dX8_like_18 rfl ?_
      rw [nI_1]
      refine aw_aload_n (n := 20) dX8_like_19 rfl rfl ?_
      refine aw_getr (n := 23) dX8_like_20 fX8_40 E_164 rfl rfl ?_
      refine aw_iload_n (n := 24) dX8_like_23 rfl rfl ?_
      refine aw_iald (n := 25) dX8_like_24 E_175 (by assumption) rfl ?_
      rw [haa, k0]
      refine aw_v2 (d1 := d - 1) (n := 28) (Z := mX8_wrong) (ci := 6) (L0 := [_, _, _]) dX8_like_25 kX8_wrong gX8_141 iyX8_wrong eyX8_wrong rfl rfl E_164 rfl rfl (Nat.le_of_ble_eq_true rfl) rfl rfl (by omega) (Nat.le_of_ble_eq_true rfl) (m_wrong (need := 1) (by omega) (by decide) hb ?_)
      dsimp only [aPush]
      rw [kb]
      refine aw_puti (n := 31) dX8_like_28 pX8_110 E_164 rfl rfl ?_
      rw [up2_id (x := nI 0) h20]
      refine aw_aload_n (n := 32) dX8_like_31 rfl rfl ?_
      refine aw_geti (n := 35) dX8_like_32 fX8_110 E_164 rfl rfl ?_
      rw [h20]
      refine aw_if_eq (tg := 39) (n := 38) dX8_like_35 (by decide) rfl (fun c_35 => ?_) (fun c_35 => by exact absurd rfl c_35)
      refine aw_aload_n (n := 40) dX8_like_39 rfl rfl ?_
      refine aw_getr (n := 43) dX8_like_40 fX8_43 E_164 rfl rfl ?_
      refine aw_iload_n (n := 44) dX8_like_43 rfl rfl ?_
      refine aw_iald (n := 45) dX8_like_44 E_176 (by assumption) rfl ?_
      rw [haa, gx]
      refine aw_aload_n (n := 46) dX8_like_45 rfl rfl ?_
      refine aw_getr (n := 49) dX8_like_46 fX8_43 E_164 rfl rfl ?_
      refine aw_iload_n (n := 50) dX8_like_49 rfl rfl ?_
      refine aw_iconst (n := 51) (v := 1) dX8_like_50 (by decide) rfl ?_
      refine aw_iadd (n := 52) dX8_like_51 rfl ?_
      rw [nI_1]
      refine aw_iald (n := 53) dX8_like_52 E_176 (by assumption) rfl ?_
      rw [hbb, gy]
      refine aw_icmp_ne (tg := 60) (n := 56) dX8_like_53 (by decide) rfl (fun c_53 => ?_) (fun c_53 => ?_)
      · refine aw_iconst (n := 61) (v := 0) dX8_like_60 (by decide) rfl ?_
        refine aw_istore_n (n := 62) (L' := [_, _, _, _]) dX8_like_61 (Nat.le_of_ble_eq_true rfl) rfl rfl ?_
        refine aw_iconst (n := 63) (v := 0) dX8_like_62 (by decide) rfl ?_
        refine aw_istore_n (n := 64) (L' := [_, _, _, _]) dX8_like_63 (Nat.le_of_ble_eq_true rfl) rfl rfl ?_
        exact no 0 (fun q => c_53 (by rw [q]))
      · refine aw_iconst (n := 57) (v := 1) dX8_like_56 (by decide) rfl ?_
        refine aw_goto (n := 61) dX8_like_57 (by decide) ?_
        refine aw_istore_n (n := 62) (L' := [_, _, _, _]) dX8_like_61 (Nat.le_of_ble_eq_true rfl) rfl rfl ?_
        refine aw_iconst (n := 63) (v := 0) dX8_like_62 (by decide) rfl ?_
        refine aw_istore_n (n := 64) (L' := [_, _, _, _]) dX8_like_63 (Nat.le_of_ble_eq_true rfl) rfl rfl ?_
        exact loop r.length 0 (by omega) ((nI_eq (by omega) (by omega)).mp c_53) (fun j hj => by omega)
    · have hr : opL (some (.inr r)) vb = .inl (lk 1 vb) := by
        rcases vb with _ | z | z
        · rfl
        · rfl
        · exact absurd rfl kb
      rw [hr] at hQ
      have hnb : ¬ nI (lk 1 vb) = 0 := nI_ne0 (by omega) (by have := lk_lt 1 vb; omega)
      refine aw_aload_n (n := 1) dX8_like_0 rfl rfl ?_
      refine aw_aload_n (n := 2) dX8_like_1 rfl rfl ?_
      refine aw_getr (n := 5) dX8_like_2 fX8_40 E_164 rfl rfl ?_
      refine aw_iload_n (n := 6) dX8_like_5 rfl rfl ?_
      refine aw_iald (n := 7) dX8_like_6 E_175 (by assumption) rfl ?_
      rw [haa, k0]
      refine aw_iconst (n := 8) (v := 2) dX8_like_7 (by decide) rfl ?_
      refine aw_icmp_ne (tg := 15) (n := 11) dX8_like_8 (by decide) rfl (fun c_8 => ?_) (fun c_8 => by exact absurd c_8 (by decide))
      refine aw_aload_n (n := 16) dX8_like_15 rfl rfl ?_
      refine aw_iload_n (n := 17) dX8_like_16 rfl rfl ?_
      refine aw_iconst (n := 18) (v := 1) dX8_like_17 (by decide) rfl ?_
      refine aw_iadd (n := 19) dX8_like_18 rfl ?_
      rw [nI_1]
      refine aw_aload_n (n := 20) dX8_like_19 rfl rfl ?_
      refine aw_getr (n := 23) dX8_like_20 fX8_40 E_164 rfl rfl ?_
      refine aw_iload_n (n := 24) dX8_like_23 rfl rfl ?_
      refine aw_iald (n := 25) dX8_like_24 E_175 (by assumption) rfl ?_
      rw [haa, k0]
      refine aw_v2 (d1 := d - 1) (n := 28) (Z := mX8_wrong) (ci := 6) (L0 := [_, _, _]) dX8_like_25 kX8_wrong gX8_141 iyX8_wrong eyX8_wrong rfl rfl E_164 rfl rfl (Nat.le_of_ble_eq_true rfl) rfl rfl (by omega) (Nat.le_of_ble_eq_true rfl) (m_wrong (need := 1) (by omega) (by decide) hb ?_)
      dsimp only [aPush]
      refine aw_puti (n := 31) dX8_like_28 pX8_110 E_164 rfl rfl ?_
      refine aw_aload_n (n := 32) dX8_like_31 rfl rfl ?_
      refine aw_geti (n := 35) dX8_like_32 fX8_110 E_164 rfl rfl ?_
      rw [up2_s]
      refine aw_if_eq (tg := 39) (n := 38) dX8_like_35 (by decide) rfl (fun c_35 => by exact absurd c_35 hnb) (fun c_35 => ?_)
      refine aw_vret dX8_like_38 rfl ?_
      exact thr_e hQ
theorem m_both1 {mk t : Nat} (hd : 1 ≤ d) (h20 : M 164 20 = 0) (h22 : M 164 22 = nI mk) (hQ : eQ mk M (.inr (some (.inl 0))) Q) : aw l K mX8_both d 0 0 0 [.ref 164, .int (nI (3 * t)), .int (nI 1)] [] EE M Q := by
  refine aw_iload_n (n := 1) dX8_both_0 rfl rfl ?_
  refine aw_iconst (n := 2) (v := 2) dX8_both_1 (by decide) rfl ?_
  refine aw_icmp_ge (tg := 11) (n := 5) dX8_both_2 (by decide) rfl (fun c_2 => by first | exact absurd rfl c_2 | exact absurd c_2 (by decide)) (fun _ => ?_)
  refine aw_aload_n (n := 6) dX8_both_5 rfl rfl ?_
  refine aw_iconst (n := 7) (v := 0) dX8_both_6 (by decide) rfl ?_
  refine aw_v1 (d1 := d - 1) (n := 10) (Z := mX8_whole) (ci := 6) (L0 := [_, _]) dX8_both_7 kX8_whole gX8_149 iyX8_whole eyX8_whole rfl rfl E_164 rfl (Nat.le_of_ble_eq_true rfl) rfl rfl (by omega) (Nat.le_of_ble_eq_true rfl) ?_
  refine aw_aload_n (n := 1) dX8_whole_0 rfl rfl ?_
  refine aw_iconst (n := 2) (v := 0) dX8_whole_1 (by decide) rfl ?_
  refine aw_puti (n := 5) dX8_whole_2 pX8_128 E_164 rfl rfl ?_
  refine aw_aload_n (n := 6) dX8_whole_5 rfl rfl ?_
  refine aw_iload_n (n := 7) dX8_whole_6 rfl rfl ?_
  refine aw_puti (n := 10) dX8_whole_7 pX8_131 E_164 rfl rfl ?_
  refine aw_vret dX8_whole_10 rfl ?_
  dsimp only [aPush]
  refine aw_vret dX8_both_10 rfl ?_
  exact eQ_whole hQ (fE_refl _ _) h20 h22
theorem m_both2 {mk t : Nat} {vb : vV} (hd : 1 ≤ d) (ht : t < 60) (h20 : M 164 20 = 0) (h22 : M 164 22 = nI mk) (hb : gV M mk (3 * t + 1) vb) (hQ : eQ mk M (bW vb fun y => .inr (some (.inl (if y = 0 then 0 else 1)))) Q) : aw l K mX8_both d 0 0 0 [.ref 164, .int (nI (3 * t)), .int (nI 2)] [] EE M Q := by
  have hinb : vp_in (nI (3 * t + 1)) 183 := vp_in_nI (by omega) (by decide)
  have hbb : (nI (3 * t + 1)).toNatClampNeg = 3 * t + 1 := nI_clamp (by omega)
  by_cases kb : lk 0 vb = 0
  · obtain ⟨y, rfl⟩ : ∃ z, vb = some (.inl z) := by
      rcases vb with _ | z | z
      · exact absurd kb (by decide)
      · exact ⟨z, rfl⟩
      · exact absurd kb (by simp [lk, lk0])
    have gy : M 176 (3 * t + 1) = y := hb.2
    have hQ : eQ mk M (.inr (some (.inl (if y = 0 then 0 else 1)))) Q := hQ
    refine aw_iload_n (n := 1) dX8_both_0 rfl rfl ?_
    refine aw_iconst (n := 2) (v := 2) dX8_both_1 (by decide) rfl ?_
    refine aw_icmp_ge (tg := 11) (n := 5) dX8_both_2 (by decide) rfl (fun _ => ?_) (fun c_2 => by first | exact absurd rfl c_2 | exact absurd c_2 (by decide))
    refine aw_aload_n (n := 12) dX8_both_11 rfl rfl ?_
    refine aw_aload_n (n := 13) dX8_both_12 rfl rfl ?_
    refine aw_iload_n (n := 14) dX8_both_13 rfl rfl ?_
    refine aw_iconst (n := 15) (v := 1) dX8_both_14 (by decide) rfl ?_
    refine aw_iadd (n := 16) dX8_both_15 rfl ?_
    rw [nI_1]
    refine aw_iconst (n := 17) (v := 0) dX8_both_16 (by decide) rfl ?_
    refine aw_v2 (d1 := d - 1) (n := 20) (Z := mX8_wrong) (ci := 6) (L0 := [_, _, _]) dX8_both_17 kX8_wrong gX8_141 iyX8_wrong eyX8_wrong rfl rfl E_164 rfl rfl (Nat.le_of_ble_eq_true rfl) rfl rfl (by omega) (Nat.le_of_ble_eq_true rfl) (m_wrong (need := 0) (by omega) (by decide) hb ?_)
    dsimp only [aPush]
    rw [kb]
    refine aw_puti (n := 23) dX8_both_20 pX8_110 E_164 rfl rfl ?_
    rw [up2_id (x := nI 0) h20]
    refine aw_aload_n (n := 24) dX8_both_23 rfl rfl ?_
    refine aw_aload_n (n := 25) dX8_both_24 rfl rfl ?_
    refine aw_getr (n := 28) dX8_both_25 fX8_43 E_164 rfl rfl ?_
    refine aw_iload_n (n := 29) dX8_both_28 rfl rfl ?_
    refine aw_iconst (n := 30) (v := 1) dX8_both_29 (by decide) rfl ?_
    refine aw_iadd (n := 31) dX8_both_30 rfl ?_
    rw [nI_1]
    refine aw_iald (n := 32) dX8_both_31 E_176 (by assumption) rfl ?_
    rw [hbb, gy]
    refine aw_if_eq (tg := 39) (n := 35) dX8_both_32 (by decide) rfl (fun c_32 => ?_) (fun c_32 => ?_)
    · refine aw_iconst (n := 40) (v := 0) dX8_both_39 (by decide) rfl ?_
      refine aw_v1 (d1 := d - 1) (n := 43) (Z := mX8_whole) (ci := 6) (L0 := [_, _]) dX8_both_40 kX8_whole gX8_149 iyX8_whole eyX8_whole rfl rfl E_164 rfl (Nat.le_of_ble_eq_true rfl) rfl rfl (by omega) (Nat.le_of_ble_eq_true rfl) ?_
      refine aw_aload_n (n := 1) dX8_whole_0 rfl rfl ?_
      refine aw_iconst (n := 2) (v := 0) dX8_whole_1 (by decide) rfl ?_
      refine aw_puti (n := 5) dX8_whole_2 pX8_128 E_164 rfl rfl ?_
      refine aw_aload_n (n := 6) dX8_whole_5 rfl rfl ?_
      refine aw_iload_n (n := 7) dX8_whole_6 rfl rfl ?_
      refine aw_puti (n := 10) dX8_whole_7 pX8_131 E_164 rfl rfl ?_
      refine aw_vret dX8_whole_10 rfl ?_
      dsimp only [aPush]
      refine aw_vret dX8_both_43 rfl ?_
      rw [if_pos c_32] at hQ; exact eQ_whole hQ (fE_refl _ _) h20 h22
    · refine aw_iconst (n := 36) (v := 1) dX8_both_35 (by decide) rfl ?_
      refine aw_goto (n := 40) dX8_both_36 (by decide) ?_
      refine aw_v1 (d1 := d - 1) (n := 43) (Z := mX8_whole) (ci := 6) (L0 := [_, _]) dX8_both_40 kX8_whole gX8_149 iyX8_whole eyX8_whole rfl rfl E_164 rfl (Nat.le_of_ble_eq_true rfl) rfl rfl (by omega) (Nat.le_of_ble_eq_true rfl) ?_
      refine aw_aload_n (n := 1) dX8_whole_0 rfl rfl ?_
      refine aw_iconst (n := 2) (v := 0) dX8_whole_1 (by decide) rfl ?_
      refine aw_puti (n := 5) dX8_whole_2 pX8_128 E_164 rfl rfl ?_
      refine aw_aload_n (n := 6) dX8_whole_5 rfl rfl ?_
      refine aw_iload_n (n := 7) dX8_whole_6 rfl rfl ?_
      refine aw_puti (n := 10) dX8_whole_7 pX8_131 E_164 rfl rfl ?_
      refine aw_vret dX8_whole_10 rfl ?_
      dsimp only [aPush]
      refine aw_vret dX8_both_43 rfl ?_
      rw [if_neg c_32] at hQ; exact eQ_whole hQ (fE_refl _ _) h20 h22
  · have hr : (bW vb fun y => .inr (some (.inl (if y = 0 then (0 : Int32) else 1)))) = .inl (lk 0 vb) := by
      rcases vb with _ | z | z
      · rfl
      · exact absurd rfl kb
      · rfl
    rw [hr] at hQ
    refine aw_iload_n (n := 1) dX8_both_0 rfl rfl ?_
    refine aw_iconst (n := 2) (v := 2) dX8_both_1 (by decide) rfl ?_
    refine aw_icmp_ge (tg := 11) (n := 5) dX8_both_2 (by decide) rfl (fun _ => ?_) (fun c_2 => by first | exact absurd rfl c_2 | exact absurd c_2 (by decide))
    refine aw_aload_n (n := 12) dX8_both_11 rfl rfl ?_
    refine aw_aload_n (n := 13) dX8_both_12 rfl rfl ?_
    refine aw_iload_n (n := 14) dX8_both_13 rfl rfl ?_
    refine aw_iconst (n := 15) (v := 1) dX8_both_14 (by decide) rfl ?_
    refine aw_iadd (n := 16) dX8_both_15 rfl ?_
    rw [nI_1]
    refine aw_iconst (n := 17) (v := 0) dX8_both_16 (by decide) rfl ?_
    refine aw_v2 (d1 := d - 1) (n := 20) (Z := mX8_wrong) (ci := 6) (L0 := [_, _, _]) dX8_both_17 kX8_wrong gX8_141 iyX8_wrong eyX8_wrong rfl rfl E_164 rfl rfl (Nat.le_of_ble_eq_true rfl) rfl rfl (by omega) (Nat.le_of_ble_eq_true rfl) (m_wrong (need := 0) (by omega) (by decide) hb ?_)
    dsimp only [aPush]
    refine aw_puti (n := 23) dX8_both_20 pX8_110 E_164 rfl rfl ?_
    refine aw_aload_n (n := 24) dX8_both_23 rfl rfl ?_
    refine aw_aload_n (n := 25) dX8_both_24 rfl rfl ?_
    refine aw_getr (n := 28) dX8_both_25 fX8_43 E_164 rfl rfl ?_
    refine aw_iload_n (n := 29) dX8_both_28 rfl rfl ?_
    refine aw_iconst (n := 30) (v := 1) dX8_both_29 (by decide) rfl ?_
    refine aw_iadd (n := 31) dX8_both_30 rfl ?_
    rw [nI_1]
    refine aw_iald (n := 32) dX8_both_31 E_176 (by assumption) rfl ?_
    refine aw_if_eq (tg := 39) (n := 35) dX8_both_32 (by decide) rfl (fun c_32 => ?_) (fun c_32 => ?_)
    · refine aw_iconst (n := 40) (v := 0) dX8_both_39 (by decide) rfl ?_
      refine aw_v1 (d1 := d - 1) (n := 43) (Z := mX8_whole) (ci := 6) (L0 := [_, _]) dX8_both_40 kX8_whole gX8_149 iyX8_whole eyX8_whole rfl rfl E_164 rfl (Nat.le_of_ble_eq_true rfl) rfl rfl (by omega) (Nat.le_of_ble_eq_true rfl) ?_
      refine aw_aload_n (n := 1) dX8_whole_0 rfl rfl ?_
      refine aw_iconst (n := 2) (v := 0) dX8_whole_1 (by decide) rfl ?_
      refine aw_puti (n := 5) dX8_whole_2 pX8_128 E_164 rfl rfl ?_
      refine aw_aload_n (n := 6) dX8_whole_5 rfl rfl ?_
      refine aw_iload_n (n := 7) dX8_whole_6 rfl rfl ?_
      refine aw_puti (n := 10) dX8_whole_7 pX8_131 E_164 rfl rfl ?_
      refine aw_vret dX8_whole_10 rfl ?_
      dsimp only [aPush]
      refine aw_vret dX8_both_43 rfl ?_
      refine hQ.1 _ _ rfl ?_ (by repeat rw [up2_k _ _ (by decide)]) (fE_up (fE_up (fE_up (fE_refl _ _) (by omega)) (by omega)) (by omega))
      rw [up2_k _ _ (by decide), up2_k _ _ (by decide), up2_s]
    · refine aw_iconst (n := 36) (v := 1) dX8_both_35 (by decide) rfl ?_
      refine aw_goto (n := 40) dX8_both_36 (by decide) ?_
      refine aw_v1 (d1 := d - 1) (n := 43) (Z := mX8_whole) (ci := 6) (L0 := [_, _]) dX8_both_40 kX8_whole gX8_149 iyX8_whole eyX8_whole rfl rfl E_164 rfl (Nat.le_of_ble_eq_true rfl) rfl rfl (by omega) (Nat.le_of_ble_eq_true rfl) ?_
      refine aw_aload_n (n := 1) dX8_whole_0 rfl rfl ?_
      refine aw_iconst (n := 2) (v := 0) dX8_whole_1 (by decide) rfl ?_
      refine aw_puti (n := 5) dX8_whole_2 pX8_128 E_164 rfl rfl ?_
      refine aw_aload_n (n := 6) dX8_whole_5 rfl rfl ?_
      refine aw_iload_n (n := 7) dX8_whole_6 rfl rfl ?_
      refine aw_puti (n := 10) dX8_whole_7 pX8_131 E_164 rfl rfl ?_
      refine aw_vret dX8_whole_10 rfl ?_
      dsimp only [aPush]
      refine aw_vret dX8_both_43 rfl ?_
      refine hQ.1 _ _ rfl ?_ (by repeat rw [up2_k _ _ (by decide)]) (fE_up (fE_up (fE_up (fE_refl _ _) (by omega)) (by omega)) (by omega))
      rw [up2_k _ _ (by decide), up2_k _ _ (by decide), up2_s]
/-- the inputs of the reference: their types, numbers, rows -/
def mI (inp : Nat → vV) (M : aM) : Prop := ∀ i, i < 3 → match inp i with
  | none => M 170 i < 0
  | some (.inl x) => M 170 i = 0 ∧ M 171 i = x
  | some (.inr r) => M 170 i = 1 ∧ r.length ≤ 16 ∧ M 171 i = nI r.length ∧ ∀ j, j < r.length → M 178 (16 * i + j) = r.getD j 0
theorem m_input {mk i : Nat} {inp : Nat → vV} (hi : i < 3) (h20 : M 164 20 = 0) (h22 : M 164 22 = nI mk) (hI : mI inp M) (hQ : eQ mk M (.inr (inp i)) Q) : aw l K mX8_input d 0 0 0 [.ref 164, .int (nI i)] [] EE M Q := by
  have hin : vp_in (nI i) 3 := vp_in_nI hi (by decide)
  have hii : (nI i).toNatClampNeg = i := nI_clamp (by omega)
  have h := hI i hi
  rcases hv : inp i with _ | x | r
  · rw [hv] at h hQ
    have h : M 170 i < 0 := h
    refine aw_aload_n (n := 1) dX8_input_0 rfl rfl ?_
    refine aw_getr (n := 4) dX8_input_1 fX8_25 E_164 rfl rfl ?_
    refine aw_iload_n (n := 5) dX8_input_4 rfl rfl ?_
    refine aw_iald (n := 6) dX8_input_5 E_170 (by assumption) rfl ?_
    rw [hii]
    refine aw_if_ge (tg := 15) (n := 9) dX8_input_6 (by decide) rfl (fun c_6 => by exact absurd h (i_nlt.mpr c_6)) (fun c_6 => ?_)
    refine aw_aload_n (n := 10) dX8_input_9 rfl rfl ?_
    refine aw_iconst (n := 11) (v := 2) dX8_input_10 (by decide) rfl ?_
    refine aw_puti (n := 14) dX8_input_11 pX8_128 E_164 rfl rfl ?_
    refine aw_vret dX8_input_14 rfl ?_
    refine hQ.2 _ mk _ rfl ?_ ?_ (Nat.le_refl _) (by omega) ?_ (fE_up (fE_refl _ _) (by omega))
    · rw [up2_k _ _ (by decide)]; exact h20
    · rw [up2_k _ _ (by decide)]; exact h22
    · exact up2_s _ _ _ _
  · rw [hv] at h hQ
    obtain ⟨h1, h2⟩ : M 170 i = 0 ∧ M 171 i = x := h
    refine aw_aload_n (n := 1) dX8_input_0 rfl rfl ?_
    refine aw_getr (n := 4) dX8_input_1 fX8_25 E_164 rfl rfl ?_
    refine aw_iload_n (n := 5) dX8_input_4 rfl rfl ?_
    refine aw_iald (n := 6) dX8_input_5 E_170 (by assumption) rfl ?_
    rw [hii, h1]
    refine aw_if_ge (tg := 15) (n := 9) dX8_input_6 (by decide) rfl (fun c_6 => ?_) (fun c_6 => by exact absurd (by decide) c_6)
    refine aw_aload_n (n := 16) dX8_input_15 rfl rfl ?_
    refine aw_aload_n (n := 17) dX8_input_16 rfl rfl ?_
    refine aw_getr (n := 20) dX8_input_17 fX8_25 E_164 rfl rfl ?_
    refine aw_iload_n (n := 21) dX8_input_20 rfl rfl ?_
    refine aw_iald (n := 22) dX8_input_21 E_170 (by assumption) rfl ?_
    rw [hii, h1]
    refine aw_puti (n := 25) dX8_input_22 pX8_128 E_164 rfl rfl ?_
    refine aw_aload_n (n := 26) dX8_input_25 rfl rfl ?_
    refine aw_aload_n (n := 27) dX8_input_26 rfl rfl ?_
    refine aw_getr (n := 30) dX8_input_27 fX8_28 E_164 rfl rfl ?_
    refine aw_iload_n (n := 31) dX8_input_30 rfl rfl ?_
    refine aw_iald (n := 32) dX8_input_31 E_171 (by assumption) rfl ?_
    rw [hii, up2_a _ _ (by decide), h2]
    refine aw_puti (n := 35) dX8_input_32 pX8_131 E_164 rfl rfl ?_
    refine aw_aload_n (n := 36) dX8_input_35 rfl rfl ?_
    refine aw_iload_n (n := 37) dX8_input_36 rfl rfl ?_
    refine aw_puti (n := 40) dX8_input_37 pX8_134 E_164 rfl rfl ?_
    refine aw_vret dX8_input_40 rfl ?_
    refine hQ.2 _ mk _ rfl ?_ ?_ (Nat.le_refl _) (by omega) ⟨?_, ?_⟩ (fE_up (fE_up (fE_up (fE_refl _ _) (by omega)) (by omega)) (by omega))
    · rw [up2_k _ _ (by decide), up2_k _ _ (by decide), up2_k _ _ (by decide)]; exact h20
    · rw [up2_k _ _ (by decide), up2_k _ _ (by decide), up2_k _ _ (by decide)]; exact h22
    · rw [up2_k _ _ (by decide), up2_k _ _ (by decide), up2_s]
    · rw [up2_k _ _ (by decide), up2_s]
  · rw [hv] at h hQ
    obtain ⟨h1, h16, h2, h3⟩ : M 170 i = 1 ∧ r.length ≤ 16 ∧ M 171 i = nI r.length ∧ ∀ j, j < r.length → M 178 (16 * i + j) = r.getD j 0 := h
    refine aw_aload_n (n := 1) dX8_input_0 rfl rfl ?_
    refine aw_getr (n := 4) dX8_input_1 fX8_25 E_164 rfl rfl ?_
    refine aw_iload_n (n := 5) dX8_input_4 rfl rfl ?_
    refine aw_iald (n := 6) dX8_input_5 E_170 (by assumption) rfl ?_
    rw [hii, h1]
    refine aw_if_ge (tg := 15) (n := 9) dX8_input_6 (by decide) rfl (fun c_6 => ?_) (fun c_6 => by exact absurd (by decide) c_6)
    refine aw_aload_n (n := 16) dX8_input_15 rfl rfl ?_
    refine aw_aload_n (n := 17) dX8_input_16 rfl rfl ?_
    refine aw_getr (n := 20) dX8_input_17 fX8_25 E_164 rfl rfl ?_
    refine aw_iload_n (n := 21) dX8_input_20 rfl rfl ?_
    refine aw_iald (n := 22) dX8_input_21 E_170 (by assumption) rfl ?_
    rw [hii, h1]
    refine aw_puti (n := 25) dX8_input_22 pX8_128 E_164 rfl rfl ?_
    refine aw_aload_n (n := 26) dX8_input_25 rfl rfl ?_
    refine aw_aload_n (n := 27) dX8_input_26 rfl rfl ?_
    refine aw_getr (n := 30) dX8_input_27 fX8_28 E_164 rfl rfl ?_
    refine aw_iload_n (n := 31) dX8_input_30 rfl rfl ?_
    refine aw_iald (n := 32) dX8_input_31 E_171 (by assumption) rfl ?_
    rw [hii, up2_a _ _ (by decide), h2]
    refine aw_puti (n := 35) dX8_input_32 pX8_131 E_164 rfl rfl ?_
    refine aw_aload_n (n := 36) dX8_input_35 rfl rfl ?_
    refine aw_iload_n (n := 37) dX8_input_36 rfl rfl ?_
    refine aw_puti (n := 40) dX8_input_37 pX8_134 E_164 rfl rfl ?_
    refine aw_vret dX8_input_40 rfl ?_
    refine hQ.2 _ mk _ rfl ?_ ?_ (Nat.le_refl _) (by omega) ⟨?_, h16, ?_, i, by omega, ?_, fun j hj => ?_⟩ (fE_up (fE_up (fE_up (fE_refl _ _) (by omega)) (by omega)) (by omega))
    · rw [up2_k _ _ (by decide), up2_k _ _ (by decide), up2_k _ _ (by decide)]; exact h20
    · rw [up2_k _ _ (by decide), up2_k _ _ (by decide), up2_k _ _ (by decide)]; exact h22
    · rw [up2_k _ _ (by decide), up2_k _ _ (by decide), up2_s]
    · rw [up2_k _ _ (by decide), up2_s]
    · rw [up2_s]
    · rw [up2_a _ _ (by decide), up2_a _ _ (by decide), up2_a _ _ (by decide)]; exact h3 j hj
end MEND
