theorem thr_e {mk : Nat} {M : aM} {k : Nat} {Q : Option Value → aE → aM → Prop} (h : eQ mk M (.inl k) Q) : Q none EE (up2 M 164 20 (nI k)) := h.1 k _ rfl (up2_s _ _ _ _) (by repeat rw [up2_k _ _ (by decide)]) (fE_up (fE_refl _ _) (by omega))
theorem eQ_inr {mk : Nat} {M : aM} {v : vV} {Q : Option Value → aE → aM → Prop} (h : ∀ mk' M', M' 164 20 = 0 → M' 164 22 = nI mk' → mk ≤ mk' → mk' ≤ mk + 1 → rV M' mk' v → fE mk M M' → Q none EE M') : eQ mk M (.inr v) Q := by
  unfold eQ
  refine ⟨?_, ?_⟩
  · intro k M' e
    cases e
  · intro v' mk' M' e
    obtain rfl : v = v' := Sum.inr.inj e
    exact h mk' M'
section MROWS
variable {l : Launch} {K : aK} {d : Nat} {M : aM} {Q : Option Value → aE → aM → Prop}
theorem m_rows10 {mk t : Nat} {n0 : Int32} {inp : Nat → vV} {va vb : vV} (hd : 3 ≤ d) (hmk : mk < 60) (ht : t < 60) (h20 : M 164 20 = 0) (h22 : M 164 22 = nI mk) (ha : gV M mk (3 * t) va) (hb : gV M mk (3 * t + 1) vb) (hQ : eQ mk M (op 10 n0 inp va vb none) Q) : aw l K mX8_rows d 0 0 0 [.ref 164, .int (nI 10), .int (nI (3 * t)), .null, .null, .null, .null, .null] [] EE M Q := by
  have e164 := E_164
  have e176 := E_176
  have e177 := E_177
  have e178 := E_178
  have hina : vp_in (nI (3 * t)) 183 := vp_in_nI (by omega) (by decide)
  have hinb : vp_in (nI (3 * t + 1)) 183 := vp_in_nI (by omega) (by decide)
  have hinc : vp_in (nI (3 * t + 2)) 183 := vp_in_nI (by omega) (by decide)
  have haa : (nI (3 * t)).toNatClampNeg = 3 * t := nI_clamp (by omega)
  have hbb : (nI (3 * t + 1)).toNatClampNeg = 3 * t + 1 := nI_clamp (by omega)
  have hcc : (nI (3 * t + 2)).toNatClampNeg = 3 * t + 2 := nI_clamp (by omega)
  by_cases ka : lk 1 va = 0
  rotate_left
  · have hna : ¬ nI (lk 1 va) = 0 := nI_ne0 (by omega) (by have := lk_lt 1 va; omega)
    have hr : op 10 n0 inp va vb none = .inl (lk 1 va) := by
      rcases va with _ | z | z
      · rfl
      · rfl
      · exact absurd rfl ka
    rw [hr] at hQ
    refine aw_iload_n (n := 1) dX8_rows_0 rfl rfl ?_
    refine aw_s1 (d1 := d - 1) (n := 4) (Z := mX8_parts) (L0 := [_]) dX8_rows_1 kX8_parts gX8_99 syX8_parts rfl (Nat.le_of_ble_eq_true rfl) rfl rfl (by omega) (Nat.le_of_ble_eq_true rfl) ?_
    refine aw_iload_n (n := 1) dX8_parts_0 rfl rfl ?_
    refine aw_iconst (n := 2) (v := 3) dX8_parts_1 (by decide) rfl ?_
    refine aw_icmp_ge (tg := 7) (n := 5) dX8_parts_2 (by decide) rfl (fun _ => ?_) (fun c_2 => by first | exact absurd rfl c_2 | exact absurd c_2 (by decide))
    refine aw_iload_n (n := 8) dX8_parts_7 rfl rfl ?_
    refine aw_bipush (n := 10) (v := 11) dX8_parts_8 (by decide) rfl ?_
    refine aw_icmp_eq (tg := 37) (n := 13) dX8_parts_10 (by decide) rfl (fun c_10 => by first | exact absurd rfl c_10 | exact absurd c_10 (by decide)) (fun _ => ?_)
    refine aw_iload_n (n := 14) dX8_parts_13 rfl rfl ?_
    refine aw_bipush (n := 16) (v := 12) dX8_parts_14 (by decide) rfl ?_
    refine aw_icmp_eq (tg := 37) (n := 19) dX8_parts_16 (by decide) rfl (fun c_16 => by first | exact absurd rfl c_16 | exact absurd c_16 (by decide)) (fun _ => ?_)
    refine aw_iload_n (n := 20) dX8_parts_19 rfl rfl ?_
    refine aw_bipush (n := 22) (v := 16) dX8_parts_20 (by decide) rfl ?_
    refine aw_icmp_eq (tg := 37) (n := 25) dX8_parts_22 (by decide) rfl (fun c_22 => by first | exact absurd rfl c_22 | exact absurd c_22 (by decide)) (fun _ => ?_)
    refine aw_iload_n (n := 26) dX8_parts_25 rfl rfl ?_
    refine aw_bipush (n := 28) (v := 17) dX8_parts_26 (by decide) rfl ?_
    refine aw_icmp_eq (tg := 37) (n := 31) dX8_parts_28 (by decide) rfl (fun c_28 => by first | exact absurd rfl c_28 | exact absurd c_28 (by decide)) (fun _ => ?_)
    refine aw_iload_n (n := 32) dX8_parts_31 rfl rfl ?_
    refine aw_bipush (n := 34) (v := 18) dX8_parts_32 (by decide) rfl ?_
    refine aw_icmp_ne (tg := 39) (n := 37) dX8_parts_34 (by decide) rfl (fun _ => ?_) (fun c_34 => by first | exact absurd rfl c_34 | exact absurd c_34 (by decide))
    refine aw_iload_n (n := 40) dX8_parts_39 rfl rfl ?_
    refine aw_bipush (n := 42) (v := 13) dX8_parts_40 (by decide) rfl ?_
    refine aw_icmp_eq (tg := 57) (n := 45) dX8_parts_42 (by decide) rfl (fun c_42 => by first | exact absurd rfl c_42 | exact absurd c_42 (by decide)) (fun _ => ?_)
    refine aw_iload_n (n := 46) dX8_parts_45 rfl rfl ?_
    refine aw_bipush (n := 48) (v := 15) dX8_parts_46 (by decide) rfl ?_
    refine aw_icmp_eq (tg := 57) (n := 51) dX8_parts_48 (by decide) rfl (fun c_48 => by first | exact absurd rfl c_48 | exact absurd c_48 (by decide)) (fun _ => ?_)
    refine aw_iload_n (n := 52) dX8_parts_51 rfl rfl ?_
    refine aw_bipush (n := 54) (v := 19) dX8_parts_52 (by decide) rfl ?_
    refine aw_icmp_ne (tg := 61) (n := 57) dX8_parts_54 (by decide) rfl (fun _ => ?_) (fun c_54 => by first | exact absurd rfl c_54 | exact absurd c_54 (by decide))
    refine aw_iconst (n := 62) (v := 2) dX8_parts_61 (by decide) rfl ?_
    refine aw_iret dX8_parts_62 rfl ?_
    dsimp only [aPush]
    refine aw_istore_n (n := 5) (L' := [_, _, _, _, _, _, _, _]) dX8_rows_4 (Nat.le_of_ble_eq_true rfl) rfl rfl ?_
    refine aw_aload_n (n := 6) dX8_rows_5 rfl rfl ?_
    refine aw_aload_n (n := 7) dX8_rows_6 rfl rfl ?_
    refine aw_iload_n (n := 8) dX8_rows_7 rfl rfl ?_
    refine aw_iload_n (n := 9) dX8_rows_8 rfl rfl ?_
    refine aw_bipush (n := 11) (v := 12) dX8_rows_9 (by decide) rfl ?_
    refine aw_icmp_ne (tg := 18) (n := 14) dX8_rows_11 (by decide) rfl (fun _ => ?_) (fun c_11 => by first | exact absurd rfl c_11 | exact absurd c_11 (by decide))
    refine aw_iconst (n := 19) (v := 1) dX8_rows_18 (by decide) rfl ?_
    refine aw_v2 (d1 := d - 1) (n := 22) (Z := mX8_wrong) (ci := 6) (L0 := [_, _, _]) dX8_rows_19 kX8_wrong gX8_141 iyX8_wrong eyX8_wrong rfl rfl E_164 rfl rfl (Nat.le_of_ble_eq_true rfl) rfl rfl (by omega) (Nat.le_of_ble_eq_true rfl) (m_wrong (need := 1) (by omega) (by decide) ha ?_)
    dsimp only [aPush]
    refine aw_puti (n := 25) dX8_rows_22 pX8_110 E_164 rfl rfl ?_
    refine aw_aload_n (n := 26) dX8_rows_25 rfl rfl ?_
    refine aw_aload_n (n := 27) dX8_rows_26 rfl rfl ?_
    refine aw_geti (n := 30) dX8_rows_27 fX8_110 E_164 rfl rfl ?_
    rw [up2_s]
    refine aw_if_ne (tg := 38) (n := 33) dX8_rows_30 (by decide) rfl (fun c_30 => ?_) (fun c_30 => by exact absurd c_30 hna)
    refine aw_aload_n (n := 39) dX8_rows_38 rfl rfl ?_
    refine aw_geti (n := 42) dX8_rows_39 fX8_110 E_164 rfl rfl ?_
    rw [up2_s]
    refine aw_goto (n := 63) dX8_rows_42 (by decide) ?_
    refine aw_puti (n := 66) dX8_rows_63 pX8_110 E_164 rfl rfl ?_
    rw [up2_up2]
    refine aw_aload_n (n := 67) dX8_rows_66 rfl rfl ?_
    refine aw_aload_n (n := 68) dX8_rows_67 rfl rfl ?_
    refine aw_geti (n := 71) dX8_rows_68 fX8_110 E_164 rfl rfl ?_
    rw [up2_s]
    refine aw_if_ne (tg := 79) (n := 74) dX8_rows_71 (by decide) rfl (fun c_71 => ?_) (fun c_71 => by exact absurd c_71 hna)
    refine aw_aload_n (n := 80) dX8_rows_79 rfl rfl ?_
    refine aw_geti (n := 83) dX8_rows_80 fX8_110 E_164 rfl rfl ?_
    rw [up2_s]
    refine aw_goto (n := 94) dX8_rows_83 (by decide) ?_
    refine aw_puti (n := 97) dX8_rows_94 pX8_110 E_164 rfl rfl ?_
    rw [up2_up2]
    refine aw_aload_n (n := 98) dX8_rows_97 rfl rfl ?_
    refine aw_aload_n (n := 99) dX8_rows_98 rfl rfl ?_
    refine aw_geti (n := 102) dX8_rows_99 fX8_110 E_164 rfl rfl ?_
    rw [up2_s]
    refine aw_if_eq (tg := 112) (n := 105) dX8_rows_102 (by decide) rfl (fun c_102 => by exact absurd c_102 hna) (fun c_102 => ?_)
    refine aw_aload_n (n := 106) dX8_rows_105 rfl rfl ?_
    refine aw_geti (n := 109) dX8_rows_106 fX8_110 E_164 rfl rfl ?_
    rw [up2_s]
    refine aw_goto (n := 138) dX8_rows_109 (by decide) ?_
    refine aw_puti (n := 141) dX8_rows_138 pX8_110 E_164 rfl rfl ?_
    rw [up2_up2]
    refine aw_aload_n (n := 142) dX8_rows_141 rfl rfl ?_
    refine aw_geti (n := 145) dX8_rows_142 fX8_110 E_164 rfl rfl ?_
    rw [up2_s]
    refine aw_if_eq (tg := 149) (n := 148) dX8_rows_145 (by decide) rfl (fun c_145 => by exact absurd c_145 hna) (fun c_145 => ?_)
    refine aw_vret dX8_rows_148 rfl ?_
    exact thr_e hQ
  obtain ⟨r, rfl⟩ : ∃ z, va = some (.inr z) := by
    rcases va with _ | x9 | z
    · exact absurd ka (by decide)
    · exact absurd ka (by simp [lk, lk0])
    · exact ⟨z, rfl⟩
  by_cases kb : lk 0 vb = 0
  rotate_left
  · have hnb : ¬ nI (lk 0 vb) = 0 := nI_ne0 (by omega) (by have := lk_lt 0 vb; omega)
    have hr : op 10 n0 inp (some (.inr r)) vb none = .inl (lk 0 vb) := by
      rcases vb with _ | z | z
      · rfl
      · exact absurd rfl kb
      · rfl
    rw [hr] at hQ
    refine aw_iload_n (n := 1) dX8_rows_0 rfl rfl ?_
    refine aw_s1 (d1 := d - 1) (n := 4) (Z := mX8_parts) (L0 := [_]) dX8_rows_1 kX8_parts gX8_99 syX8_parts rfl (Nat.le_of_ble_eq_true rfl) rfl rfl (by omega) (Nat.le_of_ble_eq_true rfl) ?_
    refine aw_iload_n (n := 1) dX8_parts_0 rfl rfl ?_
    refine aw_iconst (n := 2) (v := 3) dX8_parts_1 (by decide) rfl ?_
    refine aw_icmp_ge (tg := 7) (n := 5) dX8_parts_2 (by decide) rfl (fun _ => ?_) (fun c_2 => by first | exact absurd rfl c_2 | exact absurd c_2 (by decide))
    refine aw_iload_n (n := 8) dX8_parts_7 rfl rfl ?_
    refine aw_bipush (n := 10) (v := 11) dX8_parts_8 (by decide) rfl ?_
    refine aw_icmp_eq (tg := 37) (n := 13) dX8_parts_10 (by decide) rfl (fun c_10 => by first | exact absurd rfl c_10 | exact absurd c_10 (by decide)) (fun _ => ?_)
    refine aw_iload_n (n := 14) dX8_parts_13 rfl rfl ?_
    refine aw_bipush (n := 16) (v := 12) dX8_parts_14 (by decide) rfl ?_
    refine aw_icmp_eq (tg := 37) (n := 19) dX8_parts_16 (by decide) rfl (fun c_16 => by first | exact absurd rfl c_16 | exact absurd c_16 (by decide)) (fun _ => ?_)
    refine aw_iload_n (n := 20) dX8_parts_19 rfl rfl ?_
    refine aw_bipush (n := 22) (v := 16) dX8_parts_20 (by decide) rfl ?_
    refine aw_icmp_eq (tg := 37) (n := 25) dX8_parts_22 (by decide) rfl (fun c_22 => by first | exact absurd rfl c_22 | exact absurd c_22 (by decide)) (fun _ => ?_)
    refine aw_iload_n (n := 26) dX8_parts_25 rfl rfl ?_
    refine aw_bipush (n := 28) (v := 17) dX8_parts_26 (by decide) rfl ?_
    refine aw_icmp_eq (tg := 37) (n := 31) dX8_parts_28 (by decide) rfl (fun c_28 => by first | exact absurd rfl c_28 | exact absurd c_28 (by decide)) (fun _ => ?_)
    refine aw_iload_n (n := 32) dX8_parts_31 rfl rfl ?_
    refine aw_bipush (n := 34) (v := 18) dX8_parts_32 (by decide) rfl ?_
    refine aw_icmp_ne (tg := 39) (n := 37) dX8_parts_34 (by decide) rfl (fun _ => ?_) (fun c_34 => by first | exact absurd rfl c_34 | exact absurd c_34 (by decide))
    refine aw_iload_n (n := 40) dX8_parts_39 rfl rfl ?_
    refine aw_bipush (n := 42) (v := 13) dX8_parts_40 (by decide) rfl ?_
    refine aw_icmp_eq (tg := 57) (n := 45) dX8_parts_42 (by decide) rfl (fun c_42 => by first | exact absurd rfl c_42 | exact absurd c_42 (by decide)) (fun _ => ?_)
    refine aw_iload_n (n := 46) dX8_parts_45 rfl rfl ?_
    refine aw_bipush (n := 48) (v := 15) dX8_parts_46 (by decide) rfl ?_
    refine aw_icmp_eq (tg := 57) (n := 51) dX8_parts_48 (by decide) rfl (fun c_48 => by first | exact absurd rfl c_48 | exact absurd c_48 (by decide)) (fun _ => ?_)
    refine aw_iload_n (n := 52) dX8_parts_51 rfl rfl ?_
    refine aw_bipush (n := 54) (v := 19) dX8_parts_52 (by decide) rfl ?_
    refine aw_icmp_ne (tg := 61) (n := 57) dX8_parts_54 (by decide) rfl (fun _ => ?_) (fun c_54 => by first | exact absurd rfl c_54 | exact absurd c_54 (by decide))
    refine aw_iconst (n := 62) (v := 2) dX8_parts_61 (by decide) rfl ?_
    refine aw_iret dX8_parts_62 rfl ?_
    dsimp only [aPush]
    refine aw_istore_n (n := 5) (L' := [_, _, _, _, _, _, _, _]) dX8_rows_4 (Nat.le_of_ble_eq_true rfl) rfl rfl ?_
    refine aw_aload_n (n := 6) dX8_rows_5 rfl rfl ?_
    refine aw_aload_n (n := 7) dX8_rows_6 rfl rfl ?_
    refine aw_iload_n (n := 8) dX8_rows_7 rfl rfl ?_
    refine aw_iload_n (n := 9) dX8_rows_8 rfl rfl ?_
    refine aw_bipush (n := 11) (v := 12) dX8_rows_9 (by decide) rfl ?_
    refine aw_icmp_ne (tg := 18) (n := 14) dX8_rows_11 (by decide) rfl (fun _ => ?_) (fun c_11 => by first | exact absurd rfl c_11 | exact absurd c_11 (by decide))
    refine aw_iconst (n := 19) (v := 1) dX8_rows_18 (by decide) rfl ?_
    refine aw_v2 (d1 := d - 1) (n := 22) (Z := mX8_wrong) (ci := 6) (L0 := [_, _, _]) dX8_rows_19 kX8_wrong gX8_141 iyX8_wrong eyX8_wrong rfl rfl E_164 rfl rfl (Nat.le_of_ble_eq_true rfl) rfl rfl (by omega) (Nat.le_of_ble_eq_true rfl) (m_wrong (need := 1) (by omega) (by decide) ha ?_)
    dsimp only [aPush]
    rw [ka]
    refine aw_puti (n := 25) dX8_rows_22 pX8_110 E_164 rfl rfl ?_
    rw [up2_id (x := nI 0) h20]
    refine aw_aload_n (n := 26) dX8_rows_25 rfl rfl ?_
    refine aw_aload_n (n := 27) dX8_rows_26 rfl rfl ?_
    refine aw_geti (n := 30) dX8_rows_27 fX8_110 E_164 rfl rfl ?_
    rw [h20]
    refine aw_if_ne (tg := 38) (n := 33) dX8_rows_30 (by decide) rfl (fun c_30 => by exact absurd rfl c_30) (fun c_30 => ?_)
    refine aw_iload_n (n := 34) dX8_rows_33 rfl rfl ?_
    refine aw_iconst (n := 35) (v := 2) dX8_rows_34 (by decide) rfl ?_
    refine aw_icmp_ge (tg := 45) (n := 38) dX8_rows_35 (by decide) rfl (fun _ => ?_) (fun c_35 => by first | exact absurd rfl c_35 | exact absurd c_35 (by decide))
    refine aw_aload_n (n := 46) dX8_rows_45 rfl rfl ?_
    refine aw_iload_n (n := 47) dX8_rows_46 rfl rfl ?_
    refine aw_iconst (n := 48) (v := 1) dX8_rows_47 (by decide) rfl ?_
    refine aw_iadd (n := 49) dX8_rows_48 rfl ?_
    rw [nI_1]
    refine aw_iload_n (n := 50) dX8_rows_49 rfl rfl ?_
    refine aw_bipush (n := 52) (v := 14) dX8_rows_50 (by decide) rfl ?_
    refine aw_icmp_ne (tg := 59) (n := 55) dX8_rows_52 (by decide) rfl (fun _ => ?_) (fun c_52 => by first | exact absurd rfl c_52 | exact absurd c_52 (by decide))
    refine aw_iconst (n := 60) (v := 0) dX8_rows_59 (by decide) rfl ?_
    refine aw_v2 (d1 := d - 1) (n := 63) (Z := mX8_wrong) (ci := 6) (L0 := [_, _, _]) dX8_rows_60 kX8_wrong gX8_141 iyX8_wrong eyX8_wrong rfl rfl E_164 rfl rfl (Nat.le_of_ble_eq_true rfl) rfl rfl (by omega) (Nat.le_of_ble_eq_true rfl) (m_wrong (need := 0) (by omega) (by decide) hb ?_)
    dsimp only [aPush]
    refine aw_puti (n := 66) dX8_rows_63 pX8_110 E_164 rfl rfl ?_
    refine aw_aload_n (n := 67) dX8_rows_66 rfl rfl ?_
    refine aw_aload_n (n := 68) dX8_rows_67 rfl rfl ?_
    refine aw_geti (n := 71) dX8_rows_68 fX8_110 E_164 rfl rfl ?_
    rw [up2_s]
    refine aw_if_ne (tg := 79) (n := 74) dX8_rows_71 (by decide) rfl (fun c_71 => ?_) (fun c_71 => by exact absurd c_71 hnb)
    refine aw_aload_n (n := 80) dX8_rows_79 rfl rfl ?_
    refine aw_geti (n := 83) dX8_rows_80 fX8_110 E_164 rfl rfl ?_
    rw [up2_s]
    refine aw_goto (n := 94) dX8_rows_83 (by decide) ?_
    refine aw_puti (n := 97) dX8_rows_94 pX8_110 E_164 rfl rfl ?_
    rw [up2_up2]
    refine aw_aload_n (n := 98) dX8_rows_97 rfl rfl ?_
    refine aw_aload_n (n := 99) dX8_rows_98 rfl rfl ?_
    refine aw_geti (n := 102) dX8_rows_99 fX8_110 E_164 rfl rfl ?_
    rw [up2_s]
    refine aw_if_eq (tg := 112) (n := 105) dX8_rows_102 (by decide) rfl (fun c_102 => by exact absurd c_102 hnb) (fun c_102 => ?_)
    refine aw_aload_n (n := 106) dX8_rows_105 rfl rfl ?_
    refine aw_geti (n := 109) dX8_rows_106 fX8_110 E_164 rfl rfl ?_
    rw [up2_s]
    refine aw_goto (n := 138) dX8_rows_109 (by decide) ?_
    refine aw_puti (n := 141) dX8_rows_138 pX8_110 E_164 rfl rfl ?_
    rw [up2_up2]
    refine aw_aload_n (n := 142) dX8_rows_141 rfl rfl ?_
    refine aw_geti (n := 145) dX8_rows_142 fX8_110 E_164 rfl rfl ?_
    rw [up2_s]
    refine aw_if_eq (tg := 149) (n := 148) dX8_rows_145 (by decide) rfl (fun c_145 => by exact absurd c_145 hnb) (fun c_145 => ?_)
    refine aw_vret dX8_rows_148 rfl ?_
    exact thr_e hQ
  obtain ⟨y, rfl⟩ : ∃ z, vb = some (.inl z) := by
    rcases vb with _ | z | r9
    · exact absurd kb (by decide)
    · exact ⟨z, rfl⟩
    · exact absurd kb (by simp [lk, lk0])
  obtain ⟨a1, hr, gx, pl, hpl, gp, hst⟩ := id ha
  have gy : M 176 (3 * t + 1) = y := hb.2
  by_cases hbad : y < 0 ∨ nI r.length ≤ y
  · have hQ : eQ mk M (.inl 2) Q := by rw [← (if_pos hbad : (if y < 0 ∨ nI r.length ≤ y then (.inl 2 : Nat ⊕ vV) else .inr (some (.inl (r.getD y.toNatClampNeg 0)))) = .inl 2)]; exact hQ
    refine aw_iload_n (n := 1) dX8_rows_0 rfl rfl ?_
    refine aw_s1 (d1 := d - 1) (n := 4) (Z := mX8_parts) (L0 := [_]) dX8_rows_1 kX8_parts gX8_99 syX8_parts rfl (Nat.le_of_ble_eq_true rfl) rfl rfl (by omega) (Nat.le_of_ble_eq_true rfl) ?_
    refine aw_iload_n (n := 1) dX8_parts_0 rfl rfl ?_
    refine aw_iconst (n := 2) (v := 3) dX8_parts_1 (by decide) rfl ?_
    refine aw_icmp_ge (tg := 7) (n := 5) dX8_parts_2 (by decide) rfl (fun _ => ?_) (fun c_2 => by first | exact absurd rfl c_2 | exact absurd c_2 (by decide))
    refine aw_iload_n (n := 8) dX8_parts_7 rfl rfl ?_
    refine aw_bipush (n := 10) (v := 11) dX8_parts_8 (by decide) rfl ?_
    refine aw_icmp_eq (tg := 37) (n := 13) dX8_parts_10 (by decide) rfl (fun c_10 => by first | exact absurd rfl c_10 | exact absurd c_10 (by decide)) (fun _ => ?_)
    refine aw_iload_n (n := 14) dX8_parts_13 rfl rfl ?_
    refine aw_bipush (n := 16) (v := 12) dX8_parts_14 (by decide) rfl ?_
    refine aw_icmp_eq (tg := 37) (n := 19) dX8_parts_16 (by decide) rfl (fun c_16 => by first | exact absurd rfl c_16 | exact absurd c_16 (by decide)) (fun _ => ?_)
    refine aw_iload_n (n := 20) dX8_parts_19 rfl rfl ?_
    refine aw_bipush (n := 22) (v := 16) dX8_parts_20 (by decide) rfl ?_
    refine aw_icmp_eq (tg := 37) (n := 25) dX8_parts_22 (by decide) rfl (fun c_22 => by first | exact absurd rfl c_22 | exact absurd c_22 (by decide)) (fun _ => ?_)
    refine aw_iload_n (n := 26) dX8_parts_25 rfl rfl ?_
    refine aw_bipush (n := 28) (v := 17) dX8_parts_26 (by decide) rfl ?_
    refine aw_icmp_eq (tg := 37) (n := 31) dX8_parts_28 (by decide) rfl (fun c_28 => by first | exact absurd rfl c_28 | exact absurd c_28 (by decide)) (fun _ => ?_)
    refine aw_iload_n (n := 32) dX8_parts_31 rfl rfl ?_
    refine aw_bipush (n := 34) (v := 18) dX8_parts_32 (by decide) rfl ?_
    refine aw_icmp_ne (tg := 39) (n := 37) dX8_parts_34 (by decide) rfl (fun _ => ?_) (fun c_34 => by first | exact absurd rfl c_34 | exact absurd c_34 (by decide))
    refine aw_iload_n (n := 40) dX8_parts_39 rfl rfl ?_
    refine aw_bipush (n := 42) (v := 13) dX8_parts_40 (by decide) rfl ?_
    refine aw_icmp_eq (tg := 57) (n := 45) dX8_parts_42 (by decide) rfl (fun c_42 => by first | exact absurd rfl c_42 | exact absurd c_42 (by decide)) (fun _ => ?_)
    refine aw_iload_n (n := 46) dX8_parts_45 rfl rfl ?_
    refine aw_bipush (n := 48) (v := 15) dX8_parts_46 (by decide) rfl ?_
    refine aw_icmp_eq (tg := 57) (n := 51) dX8_parts_48 (by decide) rfl (fun c_48 => by first | exact absurd rfl c_48 | exact absurd c_48 (by decide)) (fun _ => ?_)
    refine aw_iload_n (n := 52) dX8_parts_51 rfl rfl ?_
    refine aw_bipush (n := 54) (v := 19) dX8_parts_52 (by decide) rfl ?_
    refine aw_icmp_ne (tg := 61) (n := 57) dX8_parts_54 (by decide) rfl (fun _ => ?_) (fun c_54 => by first | exact absurd rfl c_54 | exact absurd c_54 (by decide))
    refine aw_iconst (n := 62) (v := 2) dX8_parts_61 (by decide) rfl ?_
    refine aw_iret dX8_parts_62 rfl ?_
    dsimp only [aPush]
    refine aw_istore_n (n := 5) (L' := [_, _, _, _, _, _, _, _]) dX8_rows_4 (Nat.le_of_ble_eq_true rfl) rfl rfl ?_
    refine aw_aload_n (n := 6) dX8_rows_5 rfl rfl ?_
    refine aw_aload_n (n := 7) dX8_rows_6 rfl rfl ?_
    refine aw_iload_n (n := 8) dX8_rows_7 rfl rfl ?_
    refine aw_iload_n (n := 9) dX8_rows_8 rfl rfl ?_
    refine aw_bipush (n := 11) (v := 12) dX8_rows_9 (by decide) rfl ?_
    refine aw_icmp_ne (tg := 18) (n := 14) dX8_rows_11 (by decide) rfl (fun _ => ?_) (fun c_11 => by first | exact absurd rfl c_11 | exact absurd c_11 (by decide))
    refine aw_iconst (n := 19) (v := 1) dX8_rows_18 (by decide) rfl ?_
    refine aw_v2 (d1 := d - 1) (n := 22) (Z := mX8_wrong) (ci := 6) (L0 := [_, _, _]) dX8_rows_19 kX8_wrong gX8_141 iyX8_wrong eyX8_wrong rfl rfl E_164 rfl rfl (Nat.le_of_ble_eq_true rfl) rfl rfl (by omega) (Nat.le_of_ble_eq_true rfl) (m_wrong (need := 1) (by omega) (by decide) ha ?_)
    dsimp only [aPush]
    rw [ka]
    refine aw_puti (n := 25) dX8_rows_22 pX8_110 E_164 rfl rfl ?_
    rw [up2_id (x := nI 0) h20]
    refine aw_aload_n (n := 26) dX8_rows_25 rfl rfl ?_
    refine aw_aload_n (n := 27) dX8_rows_26 rfl rfl ?_
    refine aw_geti (n := 30) dX8_rows_27 fX8_110 E_164 rfl rfl ?_
    rw [h20]
    refine aw_if_ne (tg := 38) (n := 33) dX8_rows_30 (by decide) rfl (fun c_30 => by exact absurd rfl c_30) (fun c_30 => ?_)
    refine aw_iload_n (n := 34) dX8_rows_33 rfl rfl ?_
    refine aw_iconst (n := 35) (v := 2) dX8_rows_34 (by decide) rfl ?_
    refine aw_icmp_ge (tg := 45) (n := 38) dX8_rows_35 (by decide) rfl (fun _ => ?_) (fun c_35 => by first | exact absurd rfl c_35 | exact absurd c_35 (by decide))
    refine aw_aload_n (n := 46) dX8_rows_45 rfl rfl ?_
    refine aw_iload_n (n := 47) dX8_rows_46 rfl rfl ?_
    refine aw_iconst (n := 48) (v := 1) dX8_rows_47 (by decide) rfl ?_
    refine aw_iadd (n := 49) dX8_rows_48 rfl ?_
    rw [nI_1]
    refine aw_iload_n (n := 50) dX8_rows_49 rfl rfl ?_
    refine aw_bipush (n := 52) (v := 14) dX8_rows_50 (by decide) rfl ?_
    refine aw_icmp_ne (tg := 59) (n := 55) dX8_rows_52 (by decide) rfl (fun _ => ?_) (fun c_52 => by first | exact absurd rfl c_52 | exact absurd c_52 (by decide))
    refine aw_iconst (n := 60) (v := 0) dX8_rows_59 (by decide) rfl ?_
    refine aw_v2 (d1 := d - 1) (n := 63) (Z := mX8_wrong) (ci := 6) (L0 := [_, _, _]) dX8_rows_60 kX8_wrong gX8_141 iyX8_wrong eyX8_wrong rfl rfl E_164 rfl rfl (Nat.le_of_ble_eq_true rfl) rfl rfl (by omega) (Nat.le_of_ble_eq_true rfl) (m_wrong (need := 0) (by omega) (by decide) hb ?_)
    dsimp only [aPush]
    rw [kb]
    refine aw_puti (n := 66) dX8_rows_63 pX8_110 E_164 rfl rfl ?_
    rw [up2_id (x := nI 0) h20]
    refine aw_aload_n (n := 67) dX8_rows_66 rfl rfl ?_
    refine aw_aload_n (n := 68) dX8_rows_67 rfl rfl ?_
    refine aw_geti (n := 71) dX8_rows_68 fX8_110 E_164 rfl rfl ?_
    rw [h20]
    refine aw_if_ne (tg := 79) (n := 74) dX8_rows_71 (by decide) rfl (fun c_71 => by exact absurd rfl c_71) (fun c_71 => ?_)
    refine aw_iload_n (n := 75) dX8_rows_74 rfl rfl ?_
    refine aw_iconst (n := 76) (v := 3) dX8_rows_75 (by decide) rfl ?_
    refine aw_icmp_ge (tg := 86) (n := 79) dX8_rows_76 (by decide) rfl (fun c_76 => by first | exact absurd rfl c_76 | exact absurd c_76 (by decide)) (fun _ => ?_)
    refine aw_aload_n (n := 80) dX8_rows_79 rfl rfl ?_
    refine aw_geti (n := 83) dX8_rows_80 fX8_110 E_164 rfl rfl ?_
    refine aw_goto (n := 94) dX8_rows_83 (by decide) ?_
    refine aw_puti (n := 97) dX8_rows_94 pX8_110 E_164 rfl rfl ?_
    rw [up2_self]
    refine aw_aload_n (n := 98) dX8_rows_97 rfl rfl ?_
    refine aw_aload_n (n := 99) dX8_rows_98 rfl rfl ?_
    refine aw_geti (n := 102) dX8_rows_99 fX8_110 E_164 rfl rfl ?_
    rw [h20]
    refine aw_if_eq (tg := 112) (n := 105) dX8_rows_102 (by decide) rfl (fun c_102 => ?_) (fun c_102 => by exact absurd rfl c_102)
    refine aw_iload_n (n := 113) dX8_rows_112 rfl rfl ?_
    refine aw_aload_n (n := 114) dX8_rows_113 rfl rfl ?_
    refine aw_getr (n := 117) dX8_rows_114 fX8_43 E_164 rfl rfl ?_
    refine aw_iload_n (n := 118) dX8_rows_117 rfl rfl ?_
    refine aw_iald (n := 119) dX8_rows_118 E_176 (by assumption) rfl ?_
    refine aw_aload_n (n := 120) dX8_rows_119 rfl rfl ?_
    refine aw_getr (n := 123) dX8_rows_120 fX8_43 E_164 rfl rfl ?_
    refine aw_iload_n (n := 124) dX8_rows_123 rfl rfl ?_
    refine aw_iconst (n := 125) (v := 1) dX8_rows_124 (by decide) rfl ?_
    refine aw_iadd (n := 126) dX8_rows_125 rfl ?_
    rw [nI_1]
    refine aw_iald (n := 127) dX8_rows_126 E_176 (by assumption) rfl ?_
    refine aw_aload_n (n := 128) dX8_rows_127 rfl rfl ?_
    refine aw_getr (n := 131) dX8_rows_128 fX8_43 E_164 rfl rfl ?_
    refine aw_iload_n (n := 132) dX8_rows_131 rfl rfl ?_
    refine aw_iconst (n := 133) (v := 2) dX8_rows_132 (by decide) rfl ?_
    refine aw_iadd (n := 134) dX8_rows_133 rfl ?_
    rw [show (2 : Int32) = nI 2 from rfl, nI_add]
    refine aw_iald (n := 135) dX8_rows_134 E_176 (by assumption) rfl ?_
    rw [haa, hbb, hcc, gx, gy]
    refine aw_s4 (d1 := d - 1) (n := 138) (Z := mX8_refused) (L0 := [_, _, _, _]) dX8_rows_135 kX8_refused gX8_164 syX8_refused rfl rfl rfl rfl (Nat.le_of_ble_eq_true rfl) rfl rfl (by omega) (Nat.le_of_ble_eq_true rfl) ?_
    refine aw_iload_n (n := 1) dX8_refused_0 rfl rfl ?_
    refine aw_tswIn (n := 40) (off := 39) dX8_refused_1 (by decide) (by decide) (by decide) (by decide) ?_
    refine aw_iload_n (n := 41) dX8_refused_40 rfl rfl ?_
    refine aw_if_lt (tg := 49) (n := 44) dX8_refused_41 (by decide) rfl (fun c_41 => ?_) (fun c_41 => ?_)
    · refine aw_iconst (n := 50) (v := 2) dX8_refused_49 (by decide) rfl ?_
      refine aw_goto (n := 54) dX8_refused_50 (by decide) ?_
      refine aw_iret dX8_refused_54 rfl ?_
      dsimp only [aPush]
      refine aw_puti (n := 141) dX8_rows_138 pX8_110 E_164 rfl rfl ?_
      refine aw_aload_n (n := 142) dX8_rows_141 rfl rfl ?_
      refine aw_geti (n := 145) dX8_rows_142 fX8_110 E_164 rfl rfl ?_
      rw [up2_s]
      refine aw_if_eq (tg := 149) (n := 148) dX8_rows_145 (by decide) rfl (fun c_145 => by exact absurd c_145 (by decide)) (fun c_145 => ?_)
      refine aw_vret dX8_rows_148 rfl ?_
      exact thr_e (k := 2) hQ
    · refine aw_iload_n (n := 45) dX8_refused_44 rfl rfl ?_
      refine aw_iload_n (n := 46) dX8_refused_45 rfl rfl ?_
      refine aw_icmp_lt (tg := 53) (n := 49) dX8_refused_46 (by decide) rfl (fun c_46 => by exact (hbad.elim c_41 (i_nle.mpr c_46)).elim) (fun c_46 => ?_)
      refine aw_iconst (n := 50) (v := 2) dX8_refused_49 (by decide) rfl ?_
      refine aw_goto (n := 54) dX8_refused_50 (by decide) ?_
      refine aw_iret dX8_refused_54 rfl ?_
      dsimp only [aPush]
      refine aw_puti (n := 141) dX8_rows_138 pX8_110 E_164 rfl rfl ?_
      refine aw_aload_n (n := 142) dX8_rows_141 rfl rfl ?_
      refine aw_geti (n := 145) dX8_rows_142 fX8_110 E_164 rfl rfl ?_
      rw [up2_s]
      refine aw_if_eq (tg := 149) (n := 148) dX8_rows_145 (by decide) rfl (fun c_145 => by exact absurd c_145 (by decide)) (fun c_145 => ?_)
      refine aw_vret dX8_rows_148 rfl ?_
      exact thr_e (k := 2) hQ
  have hQ : eQ mk M (.inr (some (.inl (r.getD y.toNatClampNeg 0)))) Q := by rw [← (if_neg hbad : (if y < 0 ∨ nI r.length ≤ y then (.inl 2 : Nat ⊕ vV) else .inr (some (.inl (r.getD y.toNatClampNeg 0)))) = _)]; exact hQ
  obtain ⟨i, hi, rfl⟩ := ix_in hr hbad
  rw [nI_clamp (by omega)] at hQ
  refine aw_iload_n (n := 1) dX8_rows_0 rfl rfl ?_
  refine aw_s1 (d1 := d - 1) (n := 4) (Z := mX8_parts) (L0 := [_]) dX8_rows_1 kX8_parts gX8_99 syX8_parts rfl (Nat.le_of_ble_eq_true rfl) rfl rfl (by omega) (Nat.le_of_ble_eq_true rfl) ?_
  refine aw_iload_n (n := 1) dX8_parts_0 rfl rfl ?_
  refine aw_iconst (n := 2) (v := 3) dX8_parts_1 (by decide) rfl ?_
  refine aw_icmp_ge (tg := 7) (n := 5) dX8_parts_2 (by decide) rfl (fun _ => ?_) (fun c_2 => by first | exact absurd rfl c_2 | exact absurd c_2 (by decide))
  refine aw_iload_n (n := 8) dX8_parts_7 rfl rfl ?_
  refine aw_bipush (n := 10) (v := 11) dX8_parts_8 (by decide) rfl ?_
  refine aw_icmp_eq (tg := 37) (n := 13) dX8_parts_10 (by decide) rfl (fun c_10 => by first | exact absurd rfl c_10 | exact absurd c_10 (by decide)) (fun _ => ?_)
  refine aw_iload_n (n := 14) dX8_parts_13 rfl rfl ?_
  refine aw_bipush (n := 16) (v := 12) dX8_parts_14 (by decide) rfl ?_
  refine aw_icmp_eq (tg := 37) (n := 19) dX8_parts_16 (by decide) rfl (fun c_16 => by first | exact absurd rfl c_16 | exact absurd c_16 (by decide)) (fun _ => ?_)
  refine aw_iload_n (n := 20) dX8_parts_19 rfl rfl ?_
  refine aw_bipush (n := 22) (v := 16) dX8_parts_20 (by decide) rfl ?_
  refine aw_icmp_eq (tg := 37) (n := 25) dX8_parts_22 (by decide) rfl (fun c_22 => by first | exact absurd rfl c_22 | exact absurd c_22 (by decide)) (fun _ => ?_)
  refine aw_iload_n (n := 26) dX8_parts_25 rfl rfl ?_
  refine aw_bipush (n := 28) (v := 17) dX8_parts_26 (by decide) rfl ?_
  refine aw_icmp_eq (tg := 37) (n := 31) dX8_parts_28 (by decide) rfl (fun c_28 => by first | exact absurd rfl c_28 | exact absurd c_28 (by decide)) (fun _ => ?_)
  refine aw_iload_n (n := 32) dX8_parts_31 rfl rfl ?_
  refine aw_bipush (n := 34) (v := 18) dX8_parts_32 (by decide) rfl ?_
  refine aw_icmp_ne (tg := 39) (n := 37) dX8_parts_34 (by decide) rfl (fun _ => ?_) (fun c_34 => by first | exact absurd rfl c_34 | exact absurd c_34 (by decide))
  refine aw_iload_n (n := 40) dX8_parts_39 rfl rfl ?_
  refine aw_bipush (n := 42) (v := 13) dX8_parts_40 (by decide) rfl ?_
  refine aw_icmp_eq (tg := 57) (n := 45) dX8_parts_42 (by decide) rfl (fun c_42 => by first | exact absurd rfl c_42 | exact absurd c_42 (by decide)) (fun _ => ?_)
  refine aw_iload_n (n := 46) dX8_parts_45 rfl rfl ?_
  refine aw_bipush (n := 48) (v := 15) dX8_parts_46 (by decide) rfl ?_
  refine aw_icmp_eq (tg := 57) (n := 51) dX8_parts_48 (by decide) rfl (fun c_48 => by first | exact absurd rfl c_48 | exact absurd c_48 (by decide)) (fun _ => ?_)
  refine aw_iload_n (n := 52) dX8_parts_51 rfl rfl ?_
  refine aw_bipush (n := 54) (v := 19) dX8_parts_52 (by decide) rfl ?_
  refine aw_icmp_ne (tg := 61) (n := 57) dX8_parts_54 (by decide) rfl (fun _ => ?_) (fun c_54 => by first | exact absurd rfl c_54 | exact absurd c_54 (by decide))
  refine aw_iconst (n := 62) (v := 2) dX8_parts_61 (by decide) rfl ?_
  refine aw_iret dX8_parts_62 rfl ?_
  dsimp only [aPush]
  refine aw_istore_n (n := 5) (L' := [_, _, _, _, _, _, _, _]) dX8_rows_4 (Nat.le_of_ble_eq_true rfl) rfl rfl ?_
  refine aw_aload_n (n := 6) dX8_rows_5 rfl rfl ?_
  refine aw_aload_n (n := 7) dX8_rows_6 rfl rfl ?_
  refine aw_iload_n (n := 8) dX8_rows_7 rfl rfl ?_
  refine aw_iload_n (n := 9) dX8_rows_8 rfl rfl ?_
  refine aw_bipush (n := 11) (v := 12) dX8_rows_9 (by decide) rfl ?_
  refine aw_icmp_ne (tg := 18) (n := 14) dX8_rows_11 (by decide) rfl (fun _ => ?_) (fun c_11 => by first | exact absurd rfl c_11 | exact absurd c_11 (by decide))
  refine aw_iconst (n := 19) (v := 1) dX8_rows_18 (by decide) rfl ?_
  refine aw_v2 (d1 := d - 1) (n := 22) (Z := mX8_wrong) (ci := 6) (L0 := [_, _, _]) dX8_rows_19 kX8_wrong gX8_141 iyX8_wrong eyX8_wrong rfl rfl E_164 rfl rfl (Nat.le_of_ble_eq_true rfl) rfl rfl (by omega) (Nat.le_of_ble_eq_true rfl) (m_wrong (need := 1) (by omega) (by decide) ha ?_)
  dsimp only [aPush]
  rw [ka]
  refine aw_puti (n := 25) dX8_rows_22 pX8_110 E_164 rfl rfl ?_
  rw [up2_id (x := nI 0) h20]
  refine aw_aload_n (n := 26) dX8_rows_25 rfl rfl ?_
  refine aw_aload_n (n := 27) dX8_rows_26 rfl rfl ?_
  refine aw_geti (n := 30) dX8_rows_27 fX8_110 E_164 rfl rfl ?_
  rw [h20]
  refine aw_if_ne (tg := 38) (n := 33) dX8_rows_30 (by decide) rfl (fun c_30 => by exact absurd rfl c_30) (fun c_30 => ?_)
  refine aw_iload_n (n := 34) dX8_rows_33 rfl rfl ?_
  refine aw_iconst (n := 35) (v := 2) dX8_rows_34 (by decide) rfl ?_
  refine aw_icmp_ge (tg := 45) (n := 38) dX8_rows_35 (by decide) rfl (fun _ => ?_) (fun c_35 => by first | exact absurd rfl c_35 | exact absurd c_35 (by decide))
  refine aw_aload_n (n := 46) dX8_rows_45 rfl rfl ?_
  refine aw_iload_n (n := 47) dX8_rows_46 rfl rfl ?_
  refine aw_iconst (n := 48) (v := 1) dX8_rows_47 (by decide) rfl ?_
  refine aw_iadd (n := 49) dX8_rows_48 rfl ?_
  rw [nI_1]
  refine aw_iload_n (n := 50) dX8_rows_49 rfl rfl ?_
  refine aw_bipush (n := 52) (v := 14) dX8_rows_50 (by decide) rfl ?_
  refine aw_icmp_ne (tg := 59) (n := 55) dX8_rows_52 (by decide) rfl (fun _ => ?_) (fun c_52 => by first | exact absurd rfl c_52 | exact absurd c_52 (by decide))
  refine aw_iconst (n := 60) (v := 0) dX8_rows_59 (by decide) rfl ?_
  refine aw_v2 (d1 := d - 1) (n := 63) (Z := mX8_wrong) (ci := 6) (L0 := [_, _, _]) dX8_rows_60 kX8_wrong gX8_141 iyX8_wrong eyX8_wrong rfl rfl E_164 rfl rfl (Nat.le_of_ble_eq_true rfl) rfl rfl (by omega) (Nat.le_of_ble_eq_true rfl) (m_wrong (need := 0) (by omega) (by decide) hb ?_)
  dsimp only [aPush]
  rw [kb]
  refine aw_puti (n := 66) dX8_rows_63 pX8_110 E_164 rfl rfl ?_
  rw [up2_id (x := nI 0) h20]
  refine aw_aload_n (n := 67) dX8_rows_66 rfl rfl ?_
  refine aw_aload_n (n := 68) dX8_rows_67 rfl rfl ?_
  refine aw_geti (n := 71) dX8_rows_68 fX8_110 E_164 rfl rfl ?_
  rw [h20]
  refine aw_if_ne (tg := 79) (n := 74) dX8_rows_71 (by decide) rfl (fun c_71 => by exact absurd rfl c_71) (fun c_71 => ?_)
  refine aw_iload_n (n := 75) dX8_rows_74 rfl rfl ?_
  refine aw_iconst (n := 76) (v := 3) dX8_rows_75 (by decide) rfl ?_
  refine aw_icmp_ge (tg := 86) (n := 79) dX8_rows_76 (by decide) rfl (fun c_76 => by first | exact absurd rfl c_76 | exact absurd c_76 (by decide)) (fun _ => ?_)
  refine aw_aload_n (n := 80) dX8_rows_79 rfl rfl ?_
  refine aw_geti (n := 83) dX8_rows_80 fX8_110 E_164 rfl rfl ?_
  refine aw_goto (n := 94) dX8_rows_83 (by decide) ?_
  refine aw_puti (n := 97) dX8_rows_94 pX8_110 E_164 rfl rfl ?_
  rw [up2_self]
  refine aw_aload_n (n := 98) dX8_rows_97 rfl rfl ?_
  refine aw_aload_n (n := 99) dX8_rows_98 rfl rfl ?_
  refine aw_geti (n := 102) dX8_rows_99 fX8_110 E_164 rfl rfl ?_
  rw [h20]
  refine aw_if_eq (tg := 112) (n := 105) dX8_rows_102 (by decide) rfl (fun c_102 => ?_) (fun c_102 => by exact absurd rfl c_102)
  refine aw_iload_n (n := 113) dX8_rows_112 rfl rfl ?_
  refine aw_aload_n (n := 114) dX8_rows_113 rfl rfl ?_
  refine aw_getr (n := 117) dX8_rows_114 fX8_43 E_164 rfl rfl ?_
  refine aw_iload_n (n := 118) dX8_rows_117 rfl rfl ?_
  refine aw_iald (n := 119) dX8_rows_118 E_176 (by assumption) rfl ?_
  refine aw_aload_n (n := 120) dX8_rows_119 rfl rfl ?_
  refine aw_getr (n := 123) dX8_rows_120 fX8_43 E_164 rfl rfl ?_
  refine aw_iload_n (n := 124) dX8_rows_123 rfl rfl ?_
  refine aw_iconst (n := 125) (v := 1) dX8_rows_124 (by decide) rfl ?_
  refine aw_iadd (n := 126) dX8_rows_125 rfl ?_
  rw [nI_1]
  refine aw_iald (n := 127) dX8_rows_126 E_176 (by assumption) rfl ?_
  refine aw_aload_n (n := 128) dX8_rows_127 rfl rfl ?_
  refine aw_getr (n := 131) dX8_rows_128 fX8_43 E_164 rfl rfl ?_
  refine aw_iload_n (n := 132) dX8_rows_131 rfl rfl ?_
  refine aw_iconst (n := 133) (v := 2) dX8_rows_132 (by decide) rfl ?_
  refine aw_iadd (n := 134) dX8_rows_133 rfl ?_
  rw [show (2 : Int32) = nI 2 from rfl, nI_add]
  refine aw_iald (n := 135) dX8_rows_134 E_176 (by assumption) rfl ?_
  rw [haa, hbb, hcc, gx, gy]
  refine aw_s4 (d1 := d - 1) (n := 138) (Z := mX8_refused) (L0 := [_, _, _, _]) dX8_rows_135 kX8_refused gX8_164 syX8_refused rfl rfl rfl rfl (Nat.le_of_ble_eq_true rfl) rfl rfl (by omega) (Nat.le_of_ble_eq_true rfl) ?_
  refine aw_iload_n (n := 1) dX8_refused_0 rfl rfl ?_
  refine aw_tswIn (n := 40) (off := 39) dX8_refused_1 (by decide) (by decide) (by decide) (by decide) ?_
  refine aw_iload_n (n := 41) dX8_refused_40 rfl rfl ?_
  refine aw_if_lt (tg := 49) (n := 44) dX8_refused_41 (by decide) rfl (fun c_41 => by exact absurd c_41 (nI_pos (by omega))) (fun c_41 => ?_)
  refine aw_iload_n (n := 45) dX8_refused_44 rfl rfl ?_
  refine aw_iload_n (n := 46) dX8_refused_45 rfl rfl ?_
  refine aw_icmp_lt (tg := 53) (n := 49) dX8_refused_46 (by decide) rfl (fun c_46 => ?_) (fun c_46 => by exact absurd ((nI_ltI (by omega) (by omega)).mpr hi) c_46)
  refine aw_iconst (n := 54) (v := 0) dX8_refused_53 (by decide) rfl ?_
  refine aw_iret dX8_refused_54 rfl ?_
  dsimp only [aPush]
  refine aw_puti (n := 141) dX8_rows_138 pX8_110 E_164 rfl rfl ?_
  rw [up2_id (x := 0) h20]
  refine aw_aload_n (n := 142) dX8_rows_141 rfl rfl ?_
  refine aw_geti (n := 145) dX8_rows_142 fX8_110 E_164 rfl rfl ?_
  rw [h20]
  refine aw_if_eq (tg := 149) (n := 148) dX8_rows_145 (by decide) rfl (fun c_145 => ?_) (fun c_145 => by exact absurd rfl c_145)
  refine aw_bipush (n := 151) (v := 16) dX8_rows_149 (by decide) rfl ?_
  refine aw_aload_n (n := 152) dX8_rows_151 rfl rfl ?_
  refine aw_getr (n := 155) dX8_rows_152 fX8_46 E_164 rfl rfl ?_
  refine aw_iload_n (n := 156) dX8_rows_155 rfl rfl ?_
  refine aw_iald (n := 157) dX8_rows_156 E_177 (by assumption) rfl ?_
  rw [haa, gp]
  refine aw_imul (n := 158) dX8_rows_157 rfl ?_
  rw [show (16 : Int32) = nI 16 from rfl, pk_mul]
  refine aw_istore (n := 160) (L' := [_, _, _, _, _, _, _, _]) dX8_rows_158 (Nat.le_of_ble_eq_true rfl) rfl rfl ?_
  refine aw_aload_n (n := 161) dX8_rows_160 rfl rfl ?_
  refine aw_getr (n := 164) dX8_rows_161 fX8_43 E_164 rfl rfl ?_
  refine aw_iload_n (n := 165) dX8_rows_164 rfl rfl ?_
  refine aw_iald (n := 166) dX8_rows_165 E_176 (by assumption) rfl ?_
  rw [haa, gx]
  refine aw_istore (n := 168) (L' := [_, _, _, _, _, _, _, _]) dX8_rows_166 (Nat.le_of_ble_eq_true rfl) rfl rfl ?_
  refine aw_iload_n (n := 169) dX8_rows_168 rfl rfl ?_
  refine aw_lsw (n := 204) (off := 35) dX8_rows_169 (by decide) (by decide) (by decide) ?_
  refine aw_aload_n (n := 205) dX8_rows_204 rfl rfl ?_
  refine aw_aload_n (n := 206) dX8_rows_205 rfl rfl ?_
  refine aw_getr (n := 209) dX8_rows_206 fX8_49 E_164 rfl rfl ?_
  refine aw_iload (n := 211) dX8_rows_209 rfl rfl ?_
  refine aw_aload_n (n := 212) dX8_rows_211 rfl rfl ?_
  refine aw_getr (n := 215) dX8_rows_212 fX8_43 E_164 rfl rfl ?_
  refine aw_iload_n (n := 216) dX8_rows_215 rfl rfl ?_
  refine aw_iconst (n := 217) (v := 1) dX8_rows_216 (by decide) rfl ?_
  refine aw_iadd (n := 218) dX8_rows_217 rfl ?_
  rw [nI_1]
  refine aw_iald (n := 219) dX8_rows_218 E_176 (by assumption) rfl ?_
  rw [hbb, gy]
  refine aw_iadd (n := 220) dX8_rows_219 rfl ?_
  rw [nI_add]
  refine aw_iald (n := 221) dX8_rows_220 E_178 (vp_in_nI (show 16 * pl + i < 1024 by omega) (by decide)) rfl ?_
  rw [nI_clamp (by omega), hst i hi]
  refine aw_v1 (d1 := d - 1) (n := 224) (Z := mX8_whole) (ci := 6) (L0 := [_, _]) dX8_rows_221 kX8_whole gX8_149 iyX8_whole eyX8_whole rfl rfl E_164 rfl (Nat.le_of_ble_eq_true rfl) rfl rfl (by omega) (Nat.le_of_ble_eq_true rfl) ?_
  refine aw_aload_n (n := 1) dX8_whole_0 rfl rfl ?_
  refine aw_iconst (n := 2) (v := 0) dX8_whole_1 (by decide) rfl ?_
  refine aw_puti (n := 5) dX8_whole_2 pX8_128 E_164 rfl rfl ?_
  refine aw_aload_n (n := 6) dX8_whole_5 rfl rfl ?_
  refine aw_iload_n (n := 7) dX8_whole_6 rfl rfl ?_
  refine aw_puti (n := 10) dX8_whole_7 pX8_131 E_164 rfl rfl ?_
  refine aw_vret dX8_whole_10 rfl ?_
  dsimp only [aPush]
  refine aw_vret dX8_rows_224 rfl ?_
  exact eQ_whole hQ (fE_refl _ _) h20 h22
theorem m_rows11 {mk t : Nat} {n0 : Int32} {inp : Nat → vV} {va : vV} (hd : 3 ≤ d) (hmk : mk < 60) (ht : t < 60) (h20 : M 164 20 = 0) (h22 : M 164 22 = nI mk) (ha : gV M mk (3 * t) va) (hQ : eQ mk M (op 11 n0 inp va none none) Q) : aw l K mX8_rows d 0 0 0 [.ref 164, .int (nI 11), .int (nI (3 * t)), .null, .null, .null, .null, .null] [] EE M Q := by
  have e164 := E_164
  have e176 := E_176
  have e177 := E_177
  have e178 := E_178
  have hina : vp_in (nI (3 * t)) 183 := vp_in_nI (by omega) (by decide)
  have hinb : vp_in (nI (3 * t + 1)) 183 := vp_in_nI (by omega) (by decide)
  have hinc : vp_in (nI (3 * t + 2)) 183 := vp_in_nI (by omega) (by decide)
  have haa : (nI (3 * t)).toNatClampNeg = 3 * t := nI_clamp (by omega)
  have hbb : (nI (3 * t + 1)).toNatClampNeg = 3 * t + 1 := nI_clamp (by omega)
  have hcc : (nI (3 * t + 2)).toNatClampNeg = 3 * t + 2 := nI_clamp (by omega)
  by_cases ka : lk 1 va = 0
  rotate_left
  · have hna : ¬ nI (lk 1 va) = 0 := nI_ne0 (by omega) (by have := lk_lt 1 va; omega)
    have hr : op 11 n0 inp va none none = .inl (lk 1 va) := by
      rcases va with _ | z | z
      · rfl
      · rfl
      · exact absurd rfl ka
    rw [hr] at hQ
    refine aw_iload_n (n := 1) dX8_rows_0 rfl rfl ?_
    refine aw_s1 (d1 := d - 1) (n := 4) (Z := mX8_parts) (L0 := [_]) dX8_rows_1 kX8_parts gX8_99 syX8_parts rfl (Nat.le_of_ble_eq_true rfl) rfl rfl (by omega) (Nat.le_of_ble_eq_true rfl) ?_
    refine aw_iload_n (n := 1) dX8_parts_0 rfl rfl ?_
    refine aw_iconst (n := 2) (v := 3) dX8_parts_1 (by decide) rfl ?_
    refine aw_icmp_ge (tg := 7) (n := 5) dX8_parts_2 (by decide) rfl (fun _ => ?_) (fun c_2 => by first | exact absurd rfl c_2 | exact absurd c_2 (by decide))
    refine aw_iload_n (n := 8) dX8_parts_7 rfl rfl ?_
    refine aw_bipush (n := 10) (v := 11) dX8_parts_8 (by decide) rfl ?_
    refine aw_icmp_eq (tg := 37) (n := 13) dX8_parts_10 (by decide) rfl (fun _ => ?_) (fun c_10 => by first | exact absurd rfl c_10 | exact absurd c_10 (by decide))
    refine aw_iconst (n := 38) (v := 1) dX8_parts_37 (by decide) rfl ?_
    refine aw_iret dX8_parts_38 rfl ?_
    dsimp only [aPush]
    refine aw_istore_n (n := 5) (L' := [_, _, _, _, _, _, _, _]) dX8_rows_4 (Nat.le_of_ble_eq_true rfl) rfl rfl ?_
    refine aw_aload_n (n := 6) dX8_rows_5 rfl rfl ?_
    refine aw_aload_n (n := 7) dX8_rows_6 rfl rfl ?_
    refine aw_iload_n (n := 8) dX8_rows_7 rfl rfl ?_
    refine aw_iload_n (n := 9) dX8_rows_8 rfl rfl ?_
    refine aw_bipush (n := 11) (v := 12) dX8_rows_9 (by decide) rfl ?_
    refine aw_icmp_ne (tg := 18) (n := 14) dX8_rows_11 (by decide) rfl (fun _ => ?_) (fun c_11 => by first | exact absurd rfl c_11 | exact absurd c_11 (by decide))
    refine aw_iconst (n := 19) (v := 1) dX8_rows_18 (by decide) rfl ?_
    refine aw_v2 (d1 := d - 1) (n := 22) (Z := mX8_wrong) (ci := 6) (L0 := [_, _, _]) dX8_rows_19 kX8_wrong gX8_141 iyX8_wrong eyX8_wrong rfl rfl E_164 rfl rfl (Nat.le_of_ble_eq_true rfl) rfl rfl (by omega) (Nat.le_of_ble_eq_true rfl) (m_wrong (need := 1) (by omega) (by decide) ha ?_)
    dsimp only [aPush]
    refine aw_puti (n := 25) dX8_rows_22 pX8_110 E_164 rfl rfl ?_
    refine aw_aload_n (n := 26) dX8_rows_25 rfl rfl ?_
    refine aw_aload_n (n := 27) dX8_rows_26 rfl rfl ?_
    refine aw_geti (n := 30) dX8_rows_27 fX8_110 E_164 rfl rfl ?_
    rw [up2_s]
    refine aw_if_ne (tg := 38) (n := 33) dX8_rows_30 (by decide) rfl (fun c_30 => ?_) (fun c_30 => by exact absurd c_30 hna)
    refine aw_aload_n (n := 39) dX8_rows_38 rfl rfl ?_
    refine aw_geti (n := 42) dX8_rows_39 fX8_110 E_164 rfl rfl ?_
    rw [up2_s]
    refine aw_goto (n := 63) dX8_rows_42 (by decide) ?_
    refine aw_puti (n := 66) dX8_rows_63 pX8_110 E_164 rfl rfl ?_
    rw [up2_up2]
    refine aw_aload_n (n := 67) dX8_rows_66 rfl rfl ?_
    refine aw_aload_n (n := 68) dX8_rows_67 rfl rfl ?_
    refine aw_geti (n := 71) dX8_rows_68 fX8_110 E_164 rfl rfl ?_
    rw [up2_s]
    refine aw_if_ne (tg := 79) (n := 74) dX8_rows_71 (by decide) rfl (fun c_71 => ?_) (fun c_71 => by exact absurd c_71 hna)
    refine aw_aload_n (n := 80) dX8_rows_79 rfl rfl ?_
    refine aw_geti (n := 83) dX8_rows_80 fX8_110 E_164 rfl rfl ?_
    rw [up2_s]
    refine aw_goto (n := 94) dX8_rows_83 (by decide) ?_
    refine aw_puti (n := 97) dX8_rows_94 pX8_110 E_164 rfl rfl ?_
    rw [up2_up2]
    refine aw_aload_n (n := 98) dX8_rows_97 rfl rfl ?_
    refine aw_aload_n (n := 99) dX8_rows_98 rfl rfl ?_
    refine aw_geti (n := 102) dX8_rows_99 fX8_110 E_164 rfl rfl ?_
    rw [up2_s]
    refine aw_if_eq (tg := 112) (n := 105) dX8_rows_102 (by decide) rfl (fun c_102 => by exact absurd c_102 hna) (fun c_102 => ?_)
    refine aw_aload_n (n := 106) dX8_rows_105 rfl rfl ?_
    refine aw_geti (n := 109) dX8_rows_106 fX8_110 E_164 rfl rfl ?_
    rw [up2_s]
    refine aw_goto (n := 138) dX8_rows_109 (by decide) ?_
    refine aw_puti (n := 141) dX8_rows_138 pX8_110 E_164 rfl rfl ?_
    rw [up2_up2]
    refine aw_aload_n (n := 142) dX8_rows_141 rfl rfl ?_
    refine aw_geti (n := 145) dX8_rows_142 fX8_110 E_164 rfl rfl ?_
    rw [up2_s]
    refine aw_if_eq (tg := 149) (n := 148) dX8_rows_145 (by decide) rfl (fun c_145 => by exact absurd c_145 hna) (fun c_145 => ?_)
    refine aw_vret dX8_rows_148 rfl ?_
    exact thr_e hQ
  obtain ⟨r, rfl⟩ : ∃ z, va = some (.inr z) := by
    rcases va with _ | x9 | z
    · exact absurd ka (by decide)
    · exact absurd ka (by simp [lk, lk0])
    · exact ⟨z, rfl⟩
  obtain ⟨a1, hr, gx, pl, hpl, gp, hst⟩ := id ha
  have hQ : eQ mk M (.inr (some (.inl (nI r.length)))) Q := hQ
  refine aw_iload_n (n := 1) dX8_rows_0 rfl rfl ?_
  refine aw_s1 (d1 := d - 1) (n := 4) (Z := mX8_parts) (L0 := [_]) dX8_rows_1 kX8_parts gX8_99 syX8_parts rfl (Nat.le_of_ble_eq_true rfl) rfl rfl (by omega) (Nat.le_of_ble_eq_true rfl) ?_
  refine aw_iload_n (n := 1) dX8_parts_0 rfl rfl ?_
  refine aw_iconst (n := 2) (v := 3) dX8_parts_1 (by decide) rfl ?_
  refine aw_icmp_ge (tg := 7) (n := 5) dX8_parts_2 (by decide) rfl (fun _ => ?_) (fun c_2 => by first | exact absurd rfl c_2 | exact absurd c_2 (by decide))
  refine aw_iload_n (n := 8) dX8_parts_7 rfl rfl ?_
  refine aw_bipush (n := 10) (v := 11) dX8_parts_8 (by decide) rfl ?_
  refine aw_icmp_eq (tg := 37) (n := 13) dX8_parts_10 (by decide) rfl (fun _ => ?_) (fun c_10 => by first | exact absurd rfl c_10 | exact absurd c_10 (by decide))
  refine aw_iconst (n := 38) (v := 1) dX8_parts_37 (by decide) rfl ?_
  refine aw_iret dX8_parts_38 rfl ?_
  dsimp only [aPush]
  refine aw_istore_n (n := 5) (L' := [_, _, _, _, _, _, _, _]) dX8_rows_4 (Nat.le_of_ble_eq_true rfl) rfl rfl ?_
  refine aw_aload_n (n := 6) dX8_rows_5 rfl rfl ?_
  refine aw_aload_n (n := 7) dX8_rows_6 rfl rfl ?_
  refine aw_iload_n (n := 8) dX8_rows_7 rfl rfl ?_
  refine aw_iload_n (n := 9) dX8_rows_8 rfl rfl ?_
  refine aw_bipush (n := 11) (v := 12) dX8_rows_9 (by decide) rfl ?_
  refine aw_icmp_ne (tg := 18) (n := 14) dX8_rows_11 (by decide) rfl (fun _ => ?_) (fun c_11 => by first | exact absurd rfl c_11 | exact absurd c_11 (by decide))
  refine aw_iconst (n := 19) (v := 1) dX8_rows_18 (by decide) rfl ?_
  refine aw_v2 (d1 := d - 1) (n := 22) (Z := mX8_wrong) (ci := 6) (L0 := [_, _, _]) dX8_rows_19 kX8_wrong gX8_141 iyX8_wrong eyX8_wrong rfl rfl E_164 rfl rfl (Nat.le_of_ble_eq_true rfl) rfl rfl (by omega) (Nat.le_of_ble_eq_true rfl) (m_wrong (need := 1) (by omega) (by decide) ha ?_)
  dsimp only [aPush]
  rw [ka]
  refine aw_puti (n := 25) dX8_rows_22 pX8_110 E_164 rfl rfl ?_
  rw [up2_id (x := nI 0) h20]
  refine aw_aload_n (n := 26) dX8_rows_25 rfl rfl ?_
  refine aw_aload_n (n := 27) dX8_rows_26 rfl rfl ?_
  refine aw_geti (n := 30) dX8_rows_27 fX8_110 E_164 rfl rfl ?_
  rw [h20]
  refine aw_if_ne (tg := 38) (n := 33) dX8_rows_30 (by decide) rfl (fun c_30 => by exact absurd rfl c_30) (fun c_30 => ?_)
  refine aw_iload_n (n := 34) dX8_rows_33 rfl rfl ?_
  refine aw_iconst (n := 35) (v := 2) dX8_rows_34 (by decide) rfl ?_
  refine aw_icmp_ge (tg := 45) (n := 38) dX8_rows_35 (by decide) rfl (fun c_35 => by first | exact absurd rfl c_35 | exact absurd c_35 (by decide)) (fun _ => ?_)
  refine aw_aload_n (n := 39) dX8_rows_38 rfl rfl ?_
  refine aw_geti (n := 42) dX8_rows_39 fX8_110 E_164 rfl rfl ?_
  refine aw_goto (n := 63) dX8_rows_42 (by decide) ?_
  refine aw_puti (n := 66) dX8_rows_63 pX8_110 E_164 rfl rfl ?_
  rw [up2_self]
  refine aw_aload_n (n := 67) dX8_rows_66 rfl rfl ?_
  refine aw_aload_n (n := 68) dX8_rows_67 rfl rfl ?_
  refine aw_geti (n := 71) dX8_rows_68 fX8_110 E_164 rfl rfl ?_
  rw [h20]
  refine aw_if_ne (tg := 79) (n := 74) dX8_rows_71 (by decide) rfl (fun c_71 => by exact absurd rfl c_71) (fun c_71 => ?_)
  refine aw_iload_n (n := 75) dX8_rows_74 rfl rfl ?_
  refine aw_iconst (n := 76) (v := 3) dX8_rows_75 (by decide) rfl ?_
  refine aw_icmp_ge (tg := 86) (n := 79) dX8_rows_76 (by decide) rfl (fun c_76 => by first | exact absurd rfl c_76 | exact absurd c_76 (by decide)) (fun _ => ?_)
  refine aw_aload_n (n := 80) dX8_rows_79 rfl rfl ?_
  refine aw_geti (n := 83) dX8_rows_80 fX8_110 E_164 rfl rfl ?_
  refine aw_goto (n := 94) dX8_rows_83 (by decide) ?_
  refine aw_puti (n := 97) dX8_rows_94 pX8_110 E_164 rfl rfl ?_
  rw [up2_self]
  refine aw_aload_n (n := 98) dX8_rows_97 rfl rfl ?_
  refine aw_aload_n (n := 99) dX8_rows_98 rfl rfl ?_
  refine aw_geti (n := 102) dX8_rows_99 fX8_110 E_164 rfl rfl ?_
  rw [h20]
  refine aw_if_eq (tg := 112) (n := 105) dX8_rows_102 (by decide) rfl (fun c_102 => ?_) (fun c_102 => by exact absurd rfl c_102)
  refine aw_iload_n (n := 113) dX8_rows_112 rfl rfl ?_
  refine aw_aload_n (n := 114) dX8_rows_113 rfl rfl ?_
  refine aw_getr (n := 117) dX8_rows_114 fX8_43 E_164 rfl rfl ?_
  refine aw_iload_n (n := 118) dX8_rows_117 rfl rfl ?_
  refine aw_iald (n := 119) dX8_rows_118 E_176 (by assumption) rfl ?_
  refine aw_aload_n (n := 120) dX8_rows_119 rfl rfl ?_
  refine aw_getr (n := 123) dX8_rows_120 fX8_43 E_164 rfl rfl ?_
  refine aw_iload_n (n := 124) dX8_rows_123 rfl rfl ?_
  refine aw_iconst (n := 125) (v := 1) dX8_rows_124 (by decide) rfl ?_
  refine aw_iadd (n := 126) dX8_rows_125 rfl ?_
  rw [nI_1]
  refine aw_iald (n := 127) dX8_rows_126 E_176 (by assumption) rfl ?_
  refine aw_aload_n (n := 128) dX8_rows_127 rfl rfl ?_
  refine aw_getr (n := 131) dX8_rows_128 fX8_43 E_164 rfl rfl ?_
  refine aw_iload_n (n := 132) dX8_rows_131 rfl rfl ?_
  refine aw_iconst (n := 133) (v := 2) dX8_rows_132 (by decide) rfl ?_
  refine aw_iadd (n := 134) dX8_rows_133 rfl ?_
  rw [show (2 : Int32) = nI 2 from rfl, nI_add]
  refine aw_iald (n := 135) dX8_rows_134 E_176 (by assumption) rfl ?_
  rw [haa, hbb, hcc, gx]
  refine aw_s4 (d1 := d - 1) (n := 138) (Z := mX8_refused) (L0 := [_, _, _, _]) dX8_rows_135 kX8_refused gX8_164 syX8_refused rfl rfl rfl rfl (Nat.le_of_ble_eq_true rfl) rfl rfl (by omega) (Nat.le_of_ble_eq_true rfl) ?_
  refine aw_iload_n (n := 1) dX8_refused_0 rfl rfl ?_
  refine aw_tswIn (n := 127) (off := 126) dX8_refused_1 (by decide) (by decide) (by decide) (by decide) ?_
  refine aw_iconst (n := 128) (v := 0) dX8_refused_127 (by decide) rfl ?_
  refine aw_iret dX8_refused_128 rfl ?_
  dsimp only [aPush]
  refine aw_puti (n := 141) dX8_rows_138 pX8_110 E_164 rfl rfl ?_
  rw [up2_id (x := 0) h20]
  refine aw_aload_n (n := 142) dX8_rows_141 rfl rfl ?_
  refine aw_geti (n := 145) dX8_rows_142 fX8_110 E_164 rfl rfl ?_
  rw [h20]
  refine aw_if_eq (tg := 149) (n := 148) dX8_rows_145 (by decide) rfl (fun c_145 => ?_) (fun c_145 => by exact absurd rfl c_145)
  refine aw_bipush (n := 151) (v := 16) dX8_rows_149 (by decide) rfl ?_
  refine aw_aload_n (n := 152) dX8_rows_151 rfl rfl ?_
  refine aw_getr (n := 155) dX8_rows_152 fX8_46 E_164 rfl rfl ?_
  refine aw_iload_n (n := 156) dX8_rows_155 rfl rfl ?_
  refine aw_iald (n := 157) dX8_rows_156 E_177 (by assumption) rfl ?_
  rw [haa, gp]
  refine aw_imul (n := 158) dX8_rows_157 rfl ?_
  rw [show (16 : Int32) = nI 16 from rfl, pk_mul]
  refine aw_istore (n := 160) (L' := [_, _, _, _, _, _, _, _]) dX8_rows_158 (Nat.le_of_ble_eq_true rfl) rfl rfl ?_
  refine aw_aload_n (n := 161) dX8_rows_160 rfl rfl ?_
  refine aw_getr (n := 164) dX8_rows_161 fX8_43 E_164 rfl rfl ?_
  refine aw_iload_n (n := 165) dX8_rows_164 rfl rfl ?_
  refine aw_iald (n := 166) dX8_rows_165 E_176 (by assumption) rfl ?_
  rw [haa, gx]
  refine aw_istore (n := 168) (L' := [_, _, _, _, _, _, _, _]) dX8_rows_166 (Nat.le_of_ble_eq_true rfl) rfl rfl ?_
  refine aw_iload_n (n := 169) dX8_rows_168 rfl rfl ?_
  refine aw_lsw (n := 225) (off := 56) dX8_rows_169 (by decide) (by decide) (by decide) ?_
  refine aw_aload_n (n := 226) dX8_rows_225 rfl rfl ?_
  refine aw_iload (n := 228) dX8_rows_226 rfl rfl ?_
  refine aw_v1 (d1 := d - 1) (n := 231) (Z := mX8_whole) (ci := 6) (L0 := [_, _]) dX8_rows_228 kX8_whole gX8_149 iyX8_whole eyX8_whole rfl rfl E_164 rfl (Nat.le_of_ble_eq_true rfl) rfl rfl (by omega) (Nat.le_of_ble_eq_true rfl) ?_
  refine aw_aload_n (n := 1) dX8_whole_0 rfl rfl ?_
  refine aw_iconst (n := 2) (v := 0) dX8_whole_1 (by decide) rfl ?_
  refine aw_puti (n := 5) dX8_whole_2 pX8_128 E_164 rfl rfl ?_
  refine aw_aload_n (n := 6) dX8_whole_5 rfl rfl ?_
  refine aw_iload_n (n := 7) dX8_whole_6 rfl rfl ?_
  refine aw_puti (n := 10) dX8_whole_7 pX8_131 E_164 rfl rfl ?_
  refine aw_vret dX8_whole_10 rfl ?_
  dsimp only [aPush]
  refine aw_vret dX8_rows_231 rfl ?_
  exact eQ_whole hQ (fE_refl _ _) h20 h22
theorem m_rows12 {mk t : Nat} {n0 : Int32} {inp : Nat → vV} {va : vV} (hd : 3 ≤ d) (hmk : mk < 60) (ht : t < 60) (h20 : M 164 20 = 0) (h22 : M 164 22 = nI mk) (ha : gV M mk (3 * t) va) (hQ : eQ mk M (op 12 n0 inp va none none) Q) : aw l K mX8_rows d 0 0 0 [.ref 164, .int (nI 12), .int (nI (3 * t)), .null, .null, .null, .null, .null] [] EE M Q := by
  have e164 := E_164
  have e176 := E_176
  have e177 := E_177
  have e178 := E_178
  have hina : vp_in (nI (3 * t)) 183 := vp_in_nI (by omega) (by decide)
  have hinb : vp_in (nI (3 * t + 1)) 183 := vp_in_nI (by omega) (by decide)
  have hinc : vp_in (nI (3 * t + 2)) 183 := vp_in_nI (by omega) (by decide)
  have haa : (nI (3 * t)).toNatClampNeg = 3 * t := nI_clamp (by omega)
  have hbb : (nI (3 * t + 1)).toNatClampNeg = 3 * t + 1 := nI_clamp (by omega)
  have hcc : (nI (3 * t + 2)).toNatClampNeg = 3 * t + 2 := nI_clamp (by omega)
  by_cases ka : lk 0 va = 0
  rotate_left
  · have hna : ¬ nI (lk 0 va) = 0 := nI_ne0 (by omega) (by have := lk_lt 0 va; omega)
    have hr : op 12 n0 inp va none none = .inl (lk 0 va) := by
      rcases va with _ | z | z
      · rfl
      · exact absurd rfl ka
      · rfl
    rw [hr] at hQ
    refine aw_iload_n (n := 1) dX8_rows_0 rfl rfl ?_
    refine aw_s1 (d1 := d - 1) (n := 4) (Z := mX8_parts) (L0 := [_]) dX8_rows_1 kX8_parts gX8_99 syX8_parts rfl (Nat.le_of_ble_eq_true rfl) rfl rfl (by omega) (Nat.le_of_ble_eq_true rfl) ?_
    refine aw_iload_n (n := 1) dX8_parts_0 rfl rfl ?_
    refine aw_iconst (n := 2) (v := 3) dX8_parts_1 (by decide) rfl ?_
    refine aw_icmp_ge (tg := 7) (n := 5) dX8_parts_2 (by decide) rfl (fun _ => ?_) (fun c_2 => by first | exact absurd rfl c_2 | exact absurd c_2 (by decide))
    refine aw_iload_n (n := 8) dX8_parts_7 rfl rfl ?_
    refine aw_bipush (n := 10) (v := 11) dX8_parts_8 (by decide) rfl ?_
    refine aw_icmp_eq (tg := 37) (n := 13) dX8_parts_10 (by decide) rfl (fun c_10 => by first | exact absurd rfl c_10 | exact absurd c_10 (by decide)) (fun _ => ?_)
    refine aw_iload_n (n := 14) dX8_parts_13 rfl rfl ?_
    refine aw_bipush (n := 16) (v := 12) dX8_parts_14 (by decide) rfl ?_
    refine aw_icmp_eq (tg := 37) (n := 19) dX8_parts_16 (by decide) rfl (fun _ => ?_) (fun c_16 => by first | exact absurd rfl c_16 | exact absurd c_16 (by decide))
    refine aw_iconst (n := 38) (v := 1) dX8_parts_37 (by decide) rfl ?_
    refine aw_iret dX8_parts_38 rfl ?_
    dsimp only [aPush]
    refine aw_istore_n (n := 5) (L' := [_, _, _, _, _, _, _, _]) dX8_rows_4 (Nat.le_of_ble_eq_true rfl) rfl rfl ?_
    refine aw_aload_n (n := 6) dX8_rows_5 rfl rfl ?_
    refine aw_aload_n (n := 7) dX8_rows_6 rfl rfl ?_
    refine aw_iload_n (n := 8) dX8_rows_7 rfl rfl ?_
    refine aw_iload_n (n := 9) dX8_rows_8 rfl rfl ?_
    refine aw_bipush (n := 11) (v := 12) dX8_rows_9 (by decide) rfl ?_
    refine aw_icmp_ne (tg := 18) (n := 14) dX8_rows_11 (by decide) rfl (fun c_11 => by first | exact absurd rfl c_11 | exact absurd c_11 (by decide)) (fun _ => ?_)
    refine aw_iconst (n := 15) (v := 0) dX8_rows_14 (by decide) rfl ?_
    refine aw_goto (n := 19) dX8_rows_15 (by decide) ?_
    refine aw_v2 (d1 := d - 1) (n := 22) (Z := mX8_wrong) (ci := 6) (L0 := [_, _, _]) dX8_rows_19 kX8_wrong gX8_141 iyX8_wrong eyX8_wrong rfl rfl E_164 rfl rfl (Nat.le_of_ble_eq_true rfl) rfl rfl (by omega) (Nat.le_of_ble_eq_true rfl) (m_wrong (need := 0) (by omega) (by decide) ha ?_)
    dsimp only [aPush]
    refine aw_puti (n := 25) dX8_rows_22 pX8_110 E_164 rfl rfl ?_
    refine aw_aload_n (n := 26) dX8_rows_25 rfl rfl ?_
    refine aw_aload_n (n := 27) dX8_rows_26 rfl rfl ?_
    refine aw_geti (n := 30) dX8_rows_27 fX8_110 E_164 rfl rfl ?_
    rw [up2_s]
    refine aw_if_ne (tg := 38) (n := 33) dX8_rows_30 (by decide) rfl (fun c_30 => ?_) (fun c_30 => by exact absurd c_30 hna)
    refine aw_aload_n (n := 39) dX8_rows_38 rfl rfl ?_
    refine aw_geti (n := 42) dX8_rows_39 fX8_110 E_164 rfl rfl ?_
    rw [up2_s]
    refine aw_goto (n := 63) dX8_rows_42 (by decide) ?_
    refine aw_puti (n := 66) dX8_rows_63 pX8_110 E_164 rfl rfl ?_
    rw [up2_up2]
    refine aw_aload_n (n := 67) dX8_rows_66 rfl rfl ?_
    refine aw_aload_n (n := 68) dX8_rows_67 rfl rfl ?_
    refine aw_geti (n := 71) dX8_rows_68 fX8_110 E_164 rfl rfl ?_
    rw [up2_s]
    refine aw_if_ne (tg := 79) (n := 74) dX8_rows_71 (by decide) rfl (fun c_71 => ?_) (fun c_71 => by exact absurd c_71 hna)
    refine aw_aload_n (n := 80) dX8_rows_79 rfl rfl ?_
    refine aw_geti (n := 83) dX8_rows_80 fX8_110 E_164 rfl rfl ?_
    rw [up2_s]
    refine aw_goto (n := 94) dX8_rows_83 (by decide) ?_
    refine aw_puti (n := 97) dX8_rows_94 pX8_110 E_164 rfl rfl ?_
    rw [up2_up2]
    refine aw_aload_n (n := 98) dX8_rows_97 rfl rfl ?_
    refine aw_aload_n (n := 99) dX8_rows_98 rfl rfl ?_
    refine aw_geti (n := 102) dX8_rows_99 fX8_110 E_164 rfl rfl ?_
    rw [up2_s]
    refine aw_if_eq (tg := 112) (n := 105) dX8_rows_102 (by decide) rfl (fun c_102 => by exact absurd c_102 hna) (fun c_102 => ?_)
    refine aw_aload_n (n := 106) dX8_rows_105 rfl rfl ?_
    refine aw_geti (n := 109) dX8_rows_106 fX8_110 E_164 rfl rfl ?_
    rw [up2_s]
    refine aw_goto (n := 138) dX8_rows_109 (by decide) ?_
    refine aw_puti (n := 141) dX8_rows_138 pX8_110 E_164 rfl rfl ?_
    rw [up2_up2]
    refine aw_aload_n (n := 142) dX8_rows_141 rfl rfl ?_
    refine aw_geti (n := 145) dX8_rows_142 fX8_110 E_164 rfl rfl ?_
    rw [up2_s]
    refine aw_if_eq (tg := 149) (n := 148) dX8_rows_145 (by decide) rfl (fun c_145 => by exact absurd c_145 hna) (fun c_145 => ?_)
    refine aw_vret dX8_rows_148 rfl ?_
    exact thr_e hQ
  obtain ⟨x, rfl⟩ : ∃ z, va = some (.inl z) := by
    rcases va with _ | z | r9
    · exact absurd ka (by decide)
    · exact ⟨z, rfl⟩
    · exact absurd ka (by simp [lk, lk0])
  have gx : M 176 (3 * t) = x := ha.2
  have hQ : eQ mk M (if x < 0 then .inl 3 else if 16 < x then .inl 6 else .inr (some (.inr (List.replicate x.toNatClampNeg 0)))) Q := hQ
  by_cases h1 : x < 0
  · rw [if_pos h1] at hQ
    refine aw_iload_n (n := 1) dX8_rows_0 rfl rfl ?_
    refine aw_s1 (d1 := d - 1) (n := 4) (Z := mX8_parts) (L0 := [_]) dX8_rows_1 kX8_parts gX8_99 syX8_parts rfl (Nat.le_of_ble_eq_true rfl) rfl rfl (by omega) (Nat.le_of_ble_eq_true rfl) ?_
    refine aw_iload_n (n := 1) dX8_parts_0 rfl rfl ?_
    refine aw_iconst (n := 2) (v := 3) dX8_parts_1 (by decide) rfl ?_
    refine aw_icmp_ge (tg := 7) (n := 5) dX8_parts_2 (by decide) rfl (fun _ => ?_) (fun c_2 => by first | exact absurd rfl c_2 | exact absurd c_2 (by decide))
    refine aw_iload_n (n := 8) dX8_parts_7 rfl rfl ?_
    refine aw_bipush (n := 10) (v := 11) dX8_parts_8 (by decide) rfl ?_
    refine aw_icmp_eq (tg := 37) (n := 13) dX8_parts_10 (by decide) rfl (fun c_10 => by first | exact absurd rfl c_10 | exact absurd c_10 (by decide)) (fun _ => ?_)
    refine aw_iload_n (n := 14) dX8_parts_13 rfl rfl ?_
    refine aw_bipush (n := 16) (v := 12) dX8_parts_14 (by decide) rfl ?_
    refine aw_icmp_eq (tg := 37) (n := 19) dX8_parts_16 (by decide) rfl (fun _ => ?_) (fun c_16 => by first | exact absurd rfl c_16 | exact absurd c_16 (by decide))
    refine aw_iconst (n := 38) (v := 1) dX8_parts_37 (by decide) rfl ?_
    refine aw_iret dX8_parts_38 rfl ?_
    dsimp only [aPush]
    refine aw_istore_n (n := 5) (L' := [_, _, _, _, _, _, _, _]) dX8_rows_4 (Nat.le_of_ble_eq_true rfl) rfl rfl ?_
    refine aw_aload_n (n := 6) dX8_rows_5 rfl rfl ?_
    refine aw_aload_n (n := 7) dX8_rows_6 rfl rfl ?_
    refine aw_iload_n (n := 8) dX8_rows_7 rfl rfl ?_
    refine aw_iload_n (n := 9) dX8_rows_8 rfl rfl ?_
    refine aw_bipush (n := 11) (v := 12) dX8_rows_9 (by decide) rfl ?_
    refine aw_icmp_ne (tg := 18) (n := 14) dX8_rows_11 (by decide) rfl (fun c_11 => by first | exact absurd rfl c_11 | exact absurd c_11 (by decide)) (fun _ => ?_)
    refine aw_iconst (n := 15) (v := 0) dX8_rows_14 (by decide) rfl ?_
    refine aw_goto (n := 19) dX8_rows_15 (by decide) ?_
    refine aw_v2 (d1 := d - 1) (n := 22) (Z := mX8_wrong) (ci := 6) (L0 := [_, _, _]) dX8_rows_19 kX8_wrong gX8_141 iyX8_wrong eyX8_wrong rfl rfl E_164 rfl rfl (Nat.le_of_ble_eq_true rfl) rfl rfl (by omega) (Nat.le_of_ble_eq_true rfl) (m_wrong (need := 0) (by omega) (by decide) ha ?_)
    dsimp only [aPush]
    rw [ka]
    refine aw_puti (n := 25) dX8_rows_22 pX8_110 E_164 rfl rfl ?_
    rw [up2_id (x := nI 0) h20]
    refine aw_aload_n (n := 26) dX8_rows_25 rfl rfl ?_
    refine aw_aload_n (n := 27) dX8_rows_26 rfl rfl ?_
    refine aw_geti (n := 30) dX8_rows_27 fX8_110 E_164 rfl rfl ?_
    rw [h20]
    refine aw_if_ne (tg := 38) (n := 33) dX8_rows_30 (by decide) rfl (fun c_30 => by exact absurd rfl c_30) (fun c_30 => ?_)
    refine aw_iload_n (n := 34) dX8_rows_33 rfl rfl ?_
    refine aw_iconst (n := 35) (v := 2) dX8_rows_34 (by decide) rfl ?_
    refine aw_icmp_ge (tg := 45) (n := 38) dX8_rows_35 (by decide) rfl (fun c_35 => by first | exact absurd rfl c_35 | exact absurd c_35 (by decide)) (fun _ => ?_)
    refine aw_aload_n (n := 39) dX8_rows_38 rfl rfl ?_
    refine aw_geti (n := 42) dX8_rows_39 fX8_110 E_164 rfl rfl ?_
    refine aw_goto (n := 63) dX8_rows_42 (by decide) ?_
    refine aw_puti (n := 66) dX8_rows_63 pX8_110 E_164 rfl rfl ?_
    rw [up2_self]
    refine aw_aload_n (n := 67) dX8_rows_66 rfl rfl ?_
    refine aw_aload_n (n := 68) dX8_rows_67 rfl rfl ?_
    refine aw_geti (n := 71) dX8_rows_68 fX8_110 E_164 rfl rfl ?_
    rw [h20]
    refine aw_if_ne (tg := 79) (n := 74) dX8_rows_71 (by decide) rfl (fun c_71 => by exact absurd rfl c_71) (fun c_71 => ?_)
    refine aw_iload_n (n := 75) dX8_rows_74 rfl rfl ?_
    refine aw_iconst (n := 76) (v := 3) dX8_rows_75 (by decide) rfl ?_
    refine aw_icmp_ge (tg := 86) (n := 79) dX8_rows_76 (by decide) rfl (fun c_76 => by first | exact absurd rfl c_76 | exact absurd c_76 (by decide)) (fun _ => ?_)
    refine aw_aload_n (n := 80) dX8_rows_79 rfl rfl ?_
    refine aw_geti (n := 83) dX8_rows_80 fX8_110 E_164 rfl rfl ?_
    refine aw_goto (n := 94) dX8_rows_83 (by decide) ?_
    refine aw_puti (n := 97) dX8_rows_94 pX8_110 E_164 rfl rfl ?_
    rw [up2_self]
    refine aw_aload_n (n := 98) dX8_rows_97 rfl rfl ?_
    refine aw_aload_n (n := 99) dX8_rows_98 rfl rfl ?_
    refine aw_geti (n := 102) dX8_rows_99 fX8_110 E_164 rfl rfl ?_
    rw [h20]
    refine aw_if_eq (tg := 112) (n := 105) dX8_rows_102 (by decide) rfl (fun c_102 => ?_) (fun c_102 => by exact absurd rfl c_102)
    refine aw_iload_n (n := 113) dX8_rows_112 rfl rfl ?_
    refine aw_aload_n (n := 114) dX8_rows_113 rfl rfl ?_
    refine aw_getr (n := 117) dX8_rows_114 fX8_43 E_164 rfl rfl ?_
    refine aw_iload_n (n := 118) dX8_rows_117 rfl rfl ?_
    refine aw_iald (n := 119) dX8_rows_118 E_176 (by assumption) rfl ?_
    refine aw_aload_n (n := 120) dX8_rows_119 rfl rfl ?_
    refine aw_getr (n := 123) dX8_rows_120 fX8_43 E_164 rfl rfl ?_
    refine aw_iload_n (n := 124) dX8_rows_123 rfl rfl ?_
    refine aw_iconst (n := 125) (v := 1) dX8_rows_124 (by decide) rfl ?_
    refine aw_iadd (n := 126) dX8_rows_125 rfl ?_
    rw [nI_1]
    refine aw_iald (n := 127) dX8_rows_126 E_176 (by assumption) rfl ?_
    refine aw_aload_n (n := 128) dX8_rows_127 rfl rfl ?_
    refine aw_getr (n := 131) dX8_rows_128 fX8_43 E_164 rfl rfl ?_
    refine aw_iload_n (n := 132) dX8_rows_131 rfl rfl ?_
    refine aw_iconst (n := 133) (v := 2) dX8_rows_132 (by decide) rfl ?_
    refine aw_iadd (n := 134) dX8_rows_133 rfl ?_
    rw [show (2 : Int32) = nI 2 from rfl, nI_add]
    refine aw_iald (n := 135) dX8_rows_134 E_176 (by assumption) rfl ?_
    rw [haa, hbb, hcc, gx]
    refine aw_s4 (d1 := d - 1) (n := 138) (Z := mX8_refused) (L0 := [_, _, _, _]) dX8_rows_135 kX8_refused gX8_164 syX8_refused rfl rfl rfl rfl (Nat.le_of_ble_eq_true rfl) rfl rfl (by omega) (Nat.le_of_ble_eq_true rfl) ?_
    refine aw_iload_n (n := 1) dX8_refused_0 rfl rfl ?_
    refine aw_tswIn (n := 55) (off := 54) dX8_refused_1 (by decide) (by decide) (by decide) (by decide) ?_
    refine aw_iload_n (n := 56) dX8_refused_55 rfl rfl ?_
    refine aw_if_ge (tg := 63) (n := 59) dX8_refused_56 (by decide) rfl (fun c_56 => by exact absurd h1 (i_nlt.mpr c_56)) (fun c_56 => ?_)
    refine aw_iconst (n := 60) (v := 3) dX8_refused_59 (by decide) rfl ?_
    refine aw_goto (n := 75) dX8_refused_60 (by decide) ?_
    refine aw_iret dX8_refused_75 rfl ?_
    dsimp only [aPush]
    refine aw_puti (n := 141) dX8_rows_138 pX8_110 E_164 rfl rfl ?_
    refine aw_aload_n (n := 142) dX8_rows_141 rfl rfl ?_
    refine aw_geti (n := 145) dX8_rows_142 fX8_110 E_164 rfl rfl ?_
    rw [up2_s]
    refine aw_if_eq (tg := 149) (n := 148) dX8_rows_145 (by decide) rfl (fun c_145 => by exact absurd c_145 (by decide)) (fun c_145 => ?_)
    refine aw_vret dX8_rows_148 rfl ?_
    exact thr_e (k := 3) hQ
  by_cases h2 : 16 < x
  · rw [if_neg h1, if_pos h2] at hQ
    refine aw_iload_n (n := 1) dX8_rows_0 rfl rfl ?_
    refine aw_s1 (d1 := d - 1) (n := 4) (Z := mX8_parts) (L0 := [_]) dX8_rows_1 kX8_parts gX8_99 syX8_parts rfl (Nat.le_of_ble_eq_true rfl) rfl rfl (by omega) (Nat.le_of_ble_eq_true rfl) ?_
    refine aw_iload_n (n := 1) dX8_parts_0 rfl rfl ?_
    refine aw_iconst (n := 2) (v := 3) dX8_parts_1 (by decide) rfl ?_
    refine aw_icmp_ge (tg := 7) (n := 5) dX8_parts_2 (by decide) rfl (fun _ => ?_) (fun c_2 => by first | exact absurd rfl c_2 | exact absurd c_2 (by decide))
    refine aw_iload_n (n := 8) dX8_parts_7 rfl rfl ?_
    refine aw_bipush (n := 10) (v := 11) dX8_parts_8 (by decide) rfl ?_
    refine aw_icmp_eq (tg := 37) (n := 13) dX8_parts_10 (by decide) rfl (fun c_10 => by first | exact absurd rfl c_10 | exact absurd c_10 (by decide)) (fun _ => ?_)
    refine aw_iload_n (n := 14) dX8_parts_13 rfl rfl ?_
    refine aw_bipush (n := 16) (v := 12) dX8_parts_14 (by decide) rfl ?_
    refine aw_icmp_eq (tg := 37) (n := 19) dX8_parts_16 (by decide) rfl (fun _ => ?_) (fun c_16 => by first | exact absurd rfl c_16 | exact absurd c_16 (by decide))
    refine aw_iconst (n := 38) (v := 1) dX8_parts_37 (by decide) rfl ?_
    refine aw_iret dX8_parts_38 rfl ?_
    dsimp only [aPush]
    refine aw_istore_n (n := 5) (L' := [_, _, _, _, _, _, _, _]) dX8_rows_4 (Nat.le_of_ble_eq_true rfl) rfl rfl ?_
    refine aw_aload_n (n := 6) dX8_rows_5 rfl rfl ?_
    refine aw_aload_n (n := 7) dX8_rows_6 rfl rfl ?_
    refine aw_iload_n (n := 8) dX8_rows_7 rfl rfl ?_
    refine aw_iload_n (n := 9) dX8_rows_8 rfl rfl ?_
    refine aw_bipush (n := 11) (v := 12) dX8_rows_9 (by decide) rfl ?_
    refine aw_icmp_ne (tg := 18) (n := 14) dX8_rows_11 (by decide) rfl (fun c_11 => by first | exact absurd rfl c_11 | exact absurd c_11 (by decide)) (fun _ => ?_)
    refine aw_iconst (n := 15) (v := 0) dX8_rows_14 (by decide) rfl ?_
    refine aw_goto (n := 19) dX8_rows_15 (by decide) ?_
    refine aw_v2 (d1 := d - 1) (n := 22) (Z := mX8_wrong) (ci := 6) (L0 := [_, _, _]) dX8_rows_19 kX8_wrong gX8_141 iyX8_wrong eyX8_wrong rfl rfl E_164 rfl rfl (Nat.le_of_ble_eq_true rfl) rfl rfl (by omega) (Nat.le_of_ble_eq_true rfl) (m_wrong (need := 0) (by omega) (by decide) ha ?_)
    dsimp only [aPush]
    rw [ka]
    refine aw_puti (n := 25) dX8_rows_22 pX8_110 E_164 rfl rfl ?_
    rw [up2_id (x := nI 0) h20]
    refine aw_aload_n (n := 26) dX8_rows_25 rfl rfl ?_
    refine aw_aload_n (n := 27) dX8_rows_26 rfl rfl ?_
    refine aw_geti (n := 30) dX8_rows_27 fX8_110 E_164 rfl rfl ?_
    rw [h20]
    refine aw_if_ne (tg := 38) (n := 33) dX8_rows_30 (by decide) rfl (fun c_30 => by exact absurd rfl c_30) (fun c_30 => ?_)
    refine aw_iload_n (n := 34) dX8_rows_33 rfl rfl ?_
    refine aw_iconst (n := 35) (v := 2) dX8_rows_34 (by decide) rfl ?_
    refine aw_icmp_ge (tg := 45) (n := 38) dX8_rows_35 (by decide) rfl (fun c_35 => by first | exact absurd rfl c_35 | exact absurd c_35 (by decide)) (fun _ => ?_)
    refine aw_aload_n (n := 39) dX8_rows_38 rfl rfl ?_
    refine aw_geti (n := 42) dX8_rows_39 fX8_110 E_164 rfl rfl ?_
    refine aw_goto (n := 63) dX8_rows_42 (by decide) ?_
    refine aw_puti (n := 66) dX8_rows_63 pX8_110 E_164 rfl rfl ?_
    rw [up2_self]
    refine aw_aload_n (n := 67) dX8_rows_66 rfl rfl ?_
    refine aw_aload_n (n := 68) dX8_rows_67 rfl rfl ?_
    refine aw_geti (n := 71) dX8_rows_68 fX8_110 E_164 rfl rfl ?_
    rw [h20]
    refine aw_if_ne (tg := 79) (n := 74) dX8_rows_71 (by decide) rfl (fun c_71 => by exact absurd rfl c_71) (fun c_71 => ?_)
    refine aw_iload_n (n := 75) dX8_rows_74 rfl rfl ?_
    refine aw_iconst (n := 76) (v := 3) dX8_rows_75 (by decide) rfl ?_
    refine aw_icmp_ge (tg := 86) (n := 79) dX8_rows_76 (by decide) rfl (fun c_76 => by first | exact absurd rfl c_76 | exact absurd c_76 (by decide)) (fun _ => ?_)
    refine aw_aload_n (n := 80) dX8_rows_79 rfl rfl ?_
    refine aw_geti (n := 83) dX8_rows_80 fX8_110 E_164 rfl rfl ?_
    refine aw_goto (n := 94) dX8_rows_83 (by decide) ?_
    refine aw_puti (n := 97) dX8_rows_94 pX8_110 E_164 rfl rfl ?_
    rw [up2_self]
    refine aw_aload_n (n := 98) dX8_rows_97 rfl rfl ?_
    refine aw_aload_n (n := 99) dX8_rows_98 rfl rfl ?_
    refine aw_geti (n := 102) dX8_rows_99 fX8_110 E_164 rfl rfl ?_
    rw [h20]
    refine aw_if_eq (tg := 112) (n := 105) dX8_rows_102 (by decide) rfl (fun c_102 => ?_) (fun c_102 => by exact absurd rfl c_102)
    refine aw_iload_n (n := 113) dX8_rows_112 rfl rfl ?_
    refine aw_aload_n (n := 114) dX8_rows_113 rfl rfl ?_
    refine aw_getr (n := 117) dX8_rows_114 fX8_43 E_164 rfl rfl ?_
    refine aw_iload_n (n := 118) dX8_rows_117 rfl rfl ?_
    refine aw_iald (n := 119) dX8_rows_118 E_176 (by assumption) rfl ?_
    refine aw_aload_n (n := 120) dX8_rows_119 rfl rfl ?_
    refine aw_getr (n := 123) dX8_rows_120 fX8_43 E_164 rfl rfl ?_
    refine aw_iload_n (n := 124) dX8_rows_123 rfl rfl ?_
    refine aw_iconst (n := 125) (v := 1) dX8_rows_124 (by decide) rfl ?_
    refine aw_iadd (n := 126) dX8_rows_125 rfl ?_
    rw [nI_1]
    refine aw_iald (n := 127) dX8_rows_126 E_176 (by assumption) rfl ?_
    refine aw_aload_n (n := 128) dX8_rows_127 rfl rfl ?_
    refine aw_getr (n := 131) dX8_rows_128 fX8_43 E_164 rfl rfl ?_
    refine aw_iload_n (n := 132) dX8_rows_131 rfl rfl ?_
    refine aw_iconst (n := 133) (v := 2) dX8_rows_132 (by decide) rfl ?_
    refine aw_iadd (n := 134) dX8_rows_133 rfl ?_
    rw [show (2 : Int32) = nI 2 from rfl, nI_add]
    refine aw_iald (n := 135) dX8_rows_134 E_176 (by assumption) rfl ?_
    rw [haa, hbb, hcc, gx]
    refine aw_s4 (d1 := d - 1) (n := 138) (Z := mX8_refused) (L0 := [_, _, _, _]) dX8_rows_135 kX8_refused gX8_164 syX8_refused rfl rfl rfl rfl (Nat.le_of_ble_eq_true rfl) rfl rfl (by omega) (Nat.le_of_ble_eq_true rfl) ?_
    refine aw_iload_n (n := 1) dX8_refused_0 rfl rfl ?_
    refine aw_tswIn (n := 55) (off := 54) dX8_refused_1 (by decide) (by decide) (by decide) (by decide) ?_
    refine aw_iload_n (n := 56) dX8_refused_55 rfl rfl ?_
    refine aw_if_ge (tg := 63) (n := 59) dX8_refused_56 (by decide) rfl (fun c_56 => ?_) (fun c_56 => by exact absurd (i_nlt.mp h1) c_56)
    refine aw_iload_n (n := 64) dX8_refused_63 rfl rfl ?_
    refine aw_bipush (n := 66) (v := 16) dX8_refused_64 (by decide) rfl ?_
    refine aw_icmp_le (tg := 74) (n := 69) dX8_refused_66 (by decide) rfl (fun c_66 => by exact absurd h2 (i_nlt.mpr c_66)) (fun c_66 => ?_)
    refine aw_bipush (n := 71) (v := 6) dX8_refused_69 (by decide) rfl ?_
    refine aw_goto (n := 75) dX8_refused_71 (by decide) ?_
    refine aw_iret dX8_refused_75 rfl ?_
    dsimp only [aPush]
    refine aw_puti (n := 141) dX8_rows_138 pX8_110 E_164 rfl rfl ?_
    refine aw_aload_n (n := 142) dX8_rows_141 rfl rfl ?_
    refine aw_geti (n := 145) dX8_rows_142 fX8_110 E_164 rfl rfl ?_
    rw [up2_s]
    refine aw_if_eq (tg := 149) (n := 148) dX8_rows_145 (by decide) rfl (fun c_145 => by exact absurd c_145 (by decide)) (fun c_145 => ?_)
    refine aw_vret dX8_rows_148 rfl ?_
    exact thr_e (k := 6) hQ
  rw [if_neg h1, if_neg h2] at hQ
  obtain ⟨sz, hsz, rfl⟩ := nI_of2 (M := 16) (n := 16) (by decide) h1 (i_nlt.mp h2)
  rw [nI_clamp (by omega)] at hQ
  refine aw_iload_n (n := 1) dX8_rows_0 rfl rfl ?_
  refine aw_s1 (d1 := d - 1) (n := 4) (Z := mX8_parts) (L0 := [_]) dX8_rows_1 kX8_parts gX8_99 syX8_parts rfl (Nat.le_of_ble_eq_true rfl) rfl rfl (by omega) (Nat.le_of_ble_eq_true rfl) ?_
  refine aw_iload_n (n := 1) dX8_parts_0 rfl rfl ?_
  refine aw_iconst (n := 2) (v := 3) dX8_parts_1 (by decide) rfl ?_
  refine aw_icmp_ge (tg := 7) (n := 5) dX8_parts_2 (by decide) rfl (fun _ => ?_) (fun c_2 => by first | exact absurd rfl c_2 | exact absurd c_2 (by decide))
  refine aw_iload_n (n := 8) dX8_parts_7 rfl rfl ?_
  refine aw_bipush (n := 10) (v := 11) dX8_parts_8 (by decide) rfl ?_
  refine aw_icmp_eq (tg := 37) (n := 13) dX8_parts_10 (by decide) rfl (fun c_10 => by first | exact absurd rfl c_10 | exact absurd c_10 (by decide)) (fun _ => ?_)
  refine aw_iload_n (n := 14) dX8_parts_13 rfl rfl ?_
  refine aw_bipush (n := 16) (v := 12) dX8_parts_14 (by decide) rfl ?_
  refine aw_icmp_eq (tg := 37) (n := 19) dX8_parts_16 (by decide) rfl (fun _ => ?_) (fun c_16 => by first | exact absurd rfl c_16 | exact absurd c_16 (by decide))
  refine aw_iconst (n := 38) (v := 1) dX8_parts_37 (by decide) rfl ?_
  refine aw_iret dX8_parts_38 rfl ?_
  dsimp only [aPush]
  refine aw_istore_n (n := 5) (L' := [_, _, _, _, _, _, _, _]) dX8_rows_4 (Nat.le_of_ble_eq_true rfl) rfl rfl ?_
  refine aw_aload_n (n := 6) dX8_rows_5 rfl rfl ?_
  refine aw_aload_n (n := 7) dX8_rows_6 rfl rfl ?_
  refine aw_iload_n (n := 8) dX8_rows_7 rfl rfl ?_
  refine aw_iload_n (n := 9) dX8_rows_8 rfl rfl ?_
  refine aw_bipush (n := 11) (v := 12) dX8_rows_9 (by decide) rfl ?_
  refine aw_icmp_ne (tg := 18) (n := 14) dX8_rows_11 (by decide) rfl (fun c_11 => by first | exact absurd rfl c_11 | exact absurd c_11 (by decide)) (fun _ => ?_)
  refine aw_iconst (n := 15) (v := 0) dX8_rows_14 (by decide) rfl ?_
  refine aw_goto (n := 19) dX8_rows_15 (by decide) ?_
  refine aw_v2 (d1 := d - 1) (n := 22) (Z := mX8_wrong) (ci := 6) (L0 := [_, _, _]) dX8_rows_19 kX8_wrong gX8_141 iyX8_wrong eyX8_wrong rfl rfl E_164 rfl rfl (Nat.le_of_ble_eq_true rfl) rfl rfl (by omega) (Nat.le_of_ble_eq_true rfl) (m_wrong (need := 0) (by omega) (by decide) ha ?_)
  dsimp only [aPush]
  rw [ka]
  refine aw_puti (n := 25) dX8_rows_22 pX8_110 E_164 rfl rfl ?_
  rw [up2_id (x := nI 0) h20]
  refine aw_aload_n (n := 26) dX8_rows_25 rfl rfl ?_
  refine aw_aload_n (n := 27) dX8_rows_26 rfl rfl ?_
  refine aw_geti (n := 30) dX8_rows_27 fX8_110 E_164 rfl rfl ?_
  rw [h20]
  refine aw_if_ne (tg := 38) (n := 33) dX8_rows_30 (by decide) rfl (fun c_30 => by exact absurd rfl c_30) (fun c_30 => ?_)
  refine aw_iload_n (n := 34) dX8_rows_33 rfl rfl ?_
  refine aw_iconst (n := 35) (v := 2) dX8_rows_34 (by decide) rfl ?_
  refine aw_icmp_ge (tg := 45) (n := 38) dX8_rows_35 (by decide) rfl (fun c_35 => by first | exact absurd rfl c_35 | exact absurd c_35 (by decide)) (fun _ => ?_)
  refine aw_aload_n (n := 39) dX8_rows_38 rfl rfl ?_
  refine aw_geti (n := 42) dX8_rows_39 fX8_110 E_164 rfl rfl ?_
  refine aw_goto (n := 63) dX8_rows_42 (by decide) ?_
  refine aw_puti (n := 66) dX8_rows_63 pX8_110 E_164 rfl rfl ?_
  rw [up2_self]
  refine aw_aload_n (n := 67) dX8_rows_66 rfl rfl ?_
  refine aw_aload_n (n := 68) dX8_rows_67 rfl rfl ?_
  refine aw_geti (n := 71) dX8_rows_68 fX8_110 E_164 rfl rfl ?_
  rw [h20]
  refine aw_if_ne (tg := 79) (n := 74) dX8_rows_71 (by decide) rfl (fun c_71 => by exact absurd rfl c_71) (fun c_71 => ?_)
  refine aw_iload_n (n := 75) dX8_rows_74 rfl rfl ?_
  refine aw_iconst (n := 76) (v := 3) dX8_rows_75 (by decide) rfl ?_
  refine aw_icmp_ge (tg := 86) (n := 79) dX8_rows_76 (by decide) rfl (fun c_76 => by first | exact absurd rfl c_76 | exact absurd c_76 (by decide)) (fun _ => ?_)
  refine aw_aload_n (n := 80) dX8_rows_79 rfl rfl ?_
  refine aw_geti (n := 83) dX8_rows_80 fX8_110 E_164 rfl rfl ?_
  refine aw_goto (n := 94) dX8_rows_83 (by decide) ?_
  refine aw_puti (n := 97) dX8_rows_94 pX8_110 E_164 rfl rfl ?_
  rw [up2_self]
  refine aw_aload_n (n := 98) dX8_rows_97 rfl rfl ?_
  refine aw_aload_n (n := 99) dX8_rows_98 rfl rfl ?_
  refine aw_geti (n := 102) dX8_rows_99 fX8_110 E_164 rfl rfl ?_
  rw [h20]
  refine aw_if_eq (tg := 112) (n := 105) dX8_rows_102 (by decide) rfl (fun c_102 => ?_) (fun c_102 => by exact absurd rfl c_102)
  refine aw_iload_n (n := 113) dX8_rows_112 rfl rfl ?_
  refine aw_aload_n (n := 114) dX8_rows_113 rfl rfl ?_
  refine aw_getr (n := 117) dX8_rows_114 fX8_43 E_164 rfl rfl ?_
  refine aw_iload_n (n := 118) dX8_rows_117 rfl rfl ?_
  refine aw_iald (n := 119) dX8_rows_118 E_176 (by assumption) rfl ?_
  refine aw_aload_n (n := 120) dX8_rows_119 rfl rfl ?_
  refine aw_getr (n := 123) dX8_rows_120 fX8_43 E_164 rfl rfl ?_
  refine aw_iload_n (n := 124) dX8_rows_123 rfl rfl ?_
  refine aw_iconst (n := 125) (v := 1) dX8_rows_124 (by decide) rfl ?_
  refine aw_iadd (n := 126) dX8_rows_125 rfl ?_
  rw [nI_1]
  refine aw_iald (n := 127) dX8_rows_126 E_176 (by assumption) rfl ?_
  refine aw_aload_n (n := 128) dX8_rows_127 rfl rfl ?_
  refine aw_getr (n := 131) dX8_rows_128 fX8_43 E_164 rfl rfl ?_
  refine aw_iload_n (n := 132) dX8_rows_131 rfl rfl ?_
  refine aw_iconst (n := 133) (v := 2) dX8_rows_132 (by decide) rfl ?_
  refine aw_iadd (n := 134) dX8_rows_133 rfl ?_
  rw [show (2 : Int32) = nI 2 from rfl, nI_add]
  refine aw_iald (n := 135) dX8_rows_134 E_176 (by assumption) rfl ?_
  rw [haa, hbb, hcc, gx]
  refine aw_s4 (d1 := d - 1) (n := 138) (Z := mX8_refused) (L0 := [_, _, _, _]) dX8_rows_135 kX8_refused gX8_164 syX8_refused rfl rfl rfl rfl (Nat.le_of_ble_eq_true rfl) rfl rfl (by omega) (Nat.le_of_ble_eq_true rfl) ?_
  refine aw_iload_n (n := 1) dX8_refused_0 rfl rfl ?_
  refine aw_tswIn (n := 55) (off := 54) dX8_refused_1 (by decide) (by decide) (by decide) (by decide) ?_
  refine aw_iload_n (n := 56) dX8_refused_55 rfl rfl ?_
  refine aw_if_ge (tg := 63) (n := 59) dX8_refused_56 (by decide) rfl (fun c_56 => ?_) (fun c_56 => by exact absurd (i_nlt.mp h1) c_56)
  refine aw_iload_n (n := 64) dX8_refused_63 rfl rfl ?_
  refine aw_bipush (n := 66) (v := 16) dX8_refused_64 (by decide) rfl ?_
  refine aw_icmp_le (tg := 74) (n := 69) dX8_refused_66 (by decide) rfl (fun c_66 => ?_) (fun c_66 => by exact absurd (i_nlt.mp h2) c_66)
  refine aw_iconst (n := 75) (v := 0) dX8_refused_74 (by decide) rfl ?_
  refine aw_iret dX8_refused_75 rfl ?_
  dsimp only [aPush]
  refine aw_puti (n := 141) dX8_rows_138 pX8_110 E_164 rfl rfl ?_
  rw [up2_id (x := 0) h20]
  refine aw_aload_n (n := 142) dX8_rows_141 rfl rfl ?_
  refine aw_geti (n := 145) dX8_rows_142 fX8_110 E_164 rfl rfl ?_
  rw [h20]
  refine aw_if_eq (tg := 149) (n := 148) dX8_rows_145 (by decide) rfl (fun c_145 => ?_) (fun c_145 => by exact absurd rfl c_145)
  refine aw_bipush (n := 151) (v := 16) dX8_rows_149 (by decide) rfl ?_
  refine aw_aload_n (n := 152) dX8_rows_151 rfl rfl ?_
  refine aw_getr (n := 155) dX8_rows_152 fX8_46 E_164 rfl rfl ?_
  refine aw_iload_n (n := 156) dX8_rows_155 rfl rfl ?_
  refine aw_iald (n := 157) dX8_rows_156 E_177 (by assumption) rfl ?_
  rw [haa]
  refine aw_imul (n := 158) dX8_rows_157 rfl ?_
  refine aw_istore (n := 160) (L' := [_, _, _, _, _, _, _, _]) dX8_rows_158 (Nat.le_of_ble_eq_true rfl) rfl rfl ?_
  refine aw_aload_n (n := 161) dX8_rows_160 rfl rfl ?_
  refine aw_getr (n := 164) dX8_rows_161 fX8_43 E_164 rfl rfl ?_
  refine aw_iload_n (n := 165) dX8_rows_164 rfl rfl ?_
  refine aw_iald (n := 166) dX8_rows_165 E_176 (by assumption) rfl ?_
  rw [haa, gx]
  refine aw_istore (n := 168) (L' := [_, _, _, _, _, _, _, _]) dX8_rows_166 (Nat.le_of_ble_eq_true rfl) rfl rfl ?_
  refine aw_iload_n (n := 169) dX8_rows_168 rfl rfl ?_
  refine aw_lsw (n := 273) (off := 104) dX8_rows_169 (by decide) (by decide) (by decide) ?_
  refine aw_aload_n (n := 274) dX8_rows_273 rfl rfl ?_
  refine aw_iload_n (n := 275) dX8_rows_274 rfl rfl ?_
  refine aw_iload_n (n := 276) dX8_rows_275 rfl rfl ?_
  refine aw_iload (n := 278) dX8_rows_276 rfl rfl ?_
  refine aw_iload (n := 280) dX8_rows_278 rfl rfl ?_
  refine aw_v4 (d1 := d - 1) (n := 283) (Z := mX8_rowOf) (ci := 6) (L0 := [_, _, _, _, _, .null, .null, .null, .null, .null, .null, .null, .null]) dX8_rows_280 kX8_rowOf gX8_168 iyX8_rowOf eyX8_rowOf rfl rfl E_164 rfl rfl rfl rfl (Nat.le_of_ble_eq_true rfl) rfl rfl (by omega) (Nat.le_of_ble_eq_true rfl) (m_rowOf12 (by omega) hmk ht h20 h22 hsz (eQ_inr fun mk1 M1 e2 e3 e4 e5 e6 e7 => ?_))
  dsimp only [aPush]
  refine aw_vret dX8_rows_283 rfl ?_
  exact hQ.2 _ mk1 M1 rfl e2 e3 e4 e5 e6 e7
theorem m_rows13 {mk t : Nat} {n0 : Int32} {inp : Nat → vV} {va vb vc : vV} (hd : 3 ≤ d) (hmk : mk < 60) (ht : t < 60) (h20 : M 164 20 = 0) (h22 : M 164 22 = nI mk) (ha : gV M mk (3 * t) va) (hb : gV M mk (3 * t + 1) vb) (hc : gV M mk (3 * t + 2) vc) (hQ : eQ mk M (op 13 n0 inp va vb vc) Q) : aw l K mX8_rows d 0 0 0 [.ref 164, .int (nI 13), .int (nI (3 * t)), .null, .null, .null, .null, .null] [] EE M Q := by
  have e164 := E_164
  have e176 := E_176
  have e177 := E_177
  have e178 := E_178
  have hina : vp_in (nI (3 * t)) 183 := vp_in_nI (by omega) (by decide)
  have hinb : vp_in (nI (3 * t + 1)) 183 := vp_in_nI (by omega) (by decide)
  have hinc : vp_in (nI (3 * t + 2)) 183 := vp_in_nI (by omega) (by decide)
  have haa : (nI (3 * t)).toNatClampNeg = 3 * t := nI_clamp (by omega)
  have hbb : (nI (3 * t + 1)).toNatClampNeg = 3 * t + 1 := nI_clamp (by omega)
  have hcc : (nI (3 * t + 2)).toNatClampNeg = 3 * t + 2 := nI_clamp (by omega)
  by_cases ka : lk 1 va = 0
  rotate_left
  · have hna : ¬ nI (lk 1 va) = 0 := nI_ne0 (by omega) (by have := lk_lt 1 va; omega)
    have hr : op 13 n0 inp va vb vc = .inl (lk 1 va) := by
      rcases va with _ | z | z
      · rfl
      · rfl
      · exact absurd rfl ka
    rw [hr] at hQ
    refine aw_iload_n (n := 1) dX8_rows_0 rfl rfl ?_
    refine aw_s1 (d1 := d - 1) (n := 4) (Z := mX8_parts) (L0 := [_]) dX8_rows_1 kX8_parts gX8_99 syX8_parts rfl (Nat.le_of_ble_eq_true rfl) rfl rfl (by omega) (Nat.le_of_ble_eq_true rfl) ?_
    refine aw_iload_n (n := 1) dX8_parts_0 rfl rfl ?_
    refine aw_iconst (n := 2) (v := 3) dX8_parts_1 (by decide) rfl ?_
    refine aw_icmp_ge (tg := 7) (n := 5) dX8_parts_2 (by decide) rfl (fun _ => ?_) (fun c_2 => by first | exact absurd rfl c_2 | exact absurd c_2 (by decide))
    refine aw_iload_n (n := 8) dX8_parts_7 rfl rfl ?_
    refine aw_bipush (n := 10) (v := 11) dX8_parts_8 (by decide) rfl ?_
    refine aw_icmp_eq (tg := 37) (n := 13) dX8_parts_10 (by decide) rfl (fun c_10 => by first | exact absurd rfl c_10 | exact absurd c_10 (by decide)) (fun _ => ?_)
    refine aw_iload_n (n := 14) dX8_parts_13 rfl rfl ?_
    refine aw_bipush (n := 16) (v := 12) dX8_parts_14 (by decide) rfl ?_
    refine aw_icmp_eq (tg := 37) (n := 19) dX8_parts_16 (by decide) rfl (fun c_16 => by first | exact absurd rfl c_16 | exact absurd c_16 (by decide)) (fun _ => ?_)
    refine aw_iload_n (n := 20) dX8_parts_19 rfl rfl ?_
    refine aw_bipush (n := 22) (v := 16) dX8_parts_20 (by decide) rfl ?_
    refine aw_icmp_eq (tg := 37) (n := 25) dX8_parts_22 (by decide) rfl (fun c_22 => by first | exact absurd rfl c_22 | exact absurd c_22 (by decide)) (fun _ => ?_)
    refine aw_iload_n (n := 26) dX8_parts_25 rfl rfl ?_
    refine aw_bipush (n := 28) (v := 17) dX8_parts_26 (by decide) rfl ?_
    refine aw_icmp_eq (tg := 37) (n := 31) dX8_parts_28 (by decide) rfl (fun c_28 => by first | exact absurd rfl c_28 | exact absurd c_28 (by decide)) (fun _ => ?_)
    refine aw_iload_n (n := 32) dX8_parts_31 rfl rfl ?_
    refine aw_bipush (n := 34) (v := 18) dX8_parts_32 (by decide) rfl ?_
    refine aw_icmp_ne (tg := 39) (n := 37) dX8_parts_34 (by decide) rfl (fun _ => ?_) (fun c_34 => by first | exact absurd rfl c_34 | exact absurd c_34 (by decide))
    refine aw_iload_n (n := 40) dX8_parts_39 rfl rfl ?_
    refine aw_bipush (n := 42) (v := 13) dX8_parts_40 (by decide) rfl ?_
    refine aw_icmp_eq (tg := 57) (n := 45) dX8_parts_42 (by decide) rfl (fun _ => ?_) (fun c_42 => by first | exact absurd rfl c_42 | exact absurd c_42 (by decide))
    refine aw_iconst (n := 58) (v := 3) dX8_parts_57 (by decide) rfl ?_
    refine aw_goto (n := 62) dX8_parts_58 (by decide) ?_
    refine aw_iret dX8_parts_62 rfl ?_
    dsimp only [aPush]
    refine aw_istore_n (n := 5) (L' := [_, _, _, _, _, _, _, _]) dX8_rows_4 (Nat.le_of_ble_eq_true rfl) rfl rfl ?_
    refine aw_aload_n (n := 6) dX8_rows_5 rfl rfl ?_
    refine aw_aload_n (n := 7) dX8_rows_6 rfl rfl ?_
    refine aw_iload_n (n := 8) dX8_rows_7 rfl rfl ?_
    refine aw_iload_n (n := 9) dX8_rows_8 rfl rfl ?_
    refine aw_bipush (n := 11) (v := 12) dX8_rows_9 (by decide) rfl ?_
    refine aw_icmp_ne (tg := 18) (n := 14) dX8_rows_11 (by decide) rfl (fun _ => ?_) (fun c_11 => by first | exact absurd rfl c_11 | exact absurd c_11 (by decide))
    refine aw_iconst (n := 19) (v := 1) dX8_rows_18 (by decide) rfl ?_
    refine aw_v2 (d1 := d - 1) (n := 22) (Z := mX8_wrong) (ci := 6) (L0 := [_, _, _]) dX8_rows_19 kX8_wrong gX8_141 iyX8_wrong eyX8_wrong rfl rfl E_164 rfl rfl (Nat.le_of_ble_eq_true rfl) rfl rfl (by omega) (Nat.le_of_ble_eq_true rfl) (m_wrong (need := 1) (by omega) (by decide) ha ?_)
    dsimp only [aPush]
    refine aw_puti (n := 25) dX8_rows_22 pX8_110 E_164 rfl rfl ?_
    refine aw_aload_n (n := 26) dX8_rows_25 rfl rfl ?_
    refine aw_aload_n (n := 27) dX8_rows_26 rfl rfl ?_
    refine aw_geti (n := 30) dX8_rows_27 fX8_110 E_164 rfl rfl ?_
    rw [up2_s]
    refine aw_if_ne (tg := 38) (n := 33) dX8_rows_30 (by decide) rfl (fun c_30 => ?_) (fun c_30 => by exact absurd c_30 hna)
    refine aw_aload_n (n := 39) dX8_rows_38 rfl rfl ?_
    refine aw_geti (n := 42) dX8_rows_39 fX8_110 E_164 rfl rfl ?_
    rw [up2_s]
    refine aw_goto (n := 63) dX8_rows_42 (by decide) ?_
    refine aw_puti (n := 66) dX8_rows_63 pX8_110 E_164 rfl rfl ?_
    rw [up2_up2]
    refine aw_aload_n (n := 67) dX8_rows_66 rfl rfl ?_
    refine aw_aload_n (n := 68) dX8_rows_67 rfl rfl ?_
    refine aw_geti (n := 71) dX8_rows_68 fX8_110 E_164 rfl rfl ?_
    rw [up2_s]
    refine aw_if_ne (tg := 79) (n := 74) dX8_rows_71 (by decide) rfl (fun c_71 => ?_) (fun c_71 => by exact absurd c_71 hna)
    refine aw_aload_n (n := 80) dX8_rows_79 rfl rfl ?_
    refine aw_geti (n := 83) dX8_rows_80 fX8_110 E_164 rfl rfl ?_
    rw [up2_s]
    refine aw_goto (n := 94) dX8_rows_83 (by decide) ?_
    refine aw_puti (n := 97) dX8_rows_94 pX8_110 E_164 rfl rfl ?_
    rw [up2_up2]
    refine aw_aload_n (n := 98) dX8_rows_97 rfl rfl ?_
    refine aw_aload_n (n := 99) dX8_rows_98 rfl rfl ?_
    refine aw_geti (n := 102) dX8_rows_99 fX8_110 E_164 rfl rfl ?_
    rw [up2_s]
    refine aw_if_eq (tg := 112) (n := 105) dX8_rows_102 (by decide) rfl (fun c_102 => by exact absurd c_102 hna) (fun c_102 => ?_)
    refine aw_aload_n (n := 106) dX8_rows_105 rfl rfl ?_
    refine aw_geti (n := 109) dX8_rows_106 fX8_110 E_164 rfl rfl ?_
    rw [up2_s]
    refine aw_goto (n := 138) dX8_rows_109 (by decide) ?_
    refine aw_puti (n := 141) dX8_rows_138 pX8_110 E_164 rfl rfl ?_
    rw [up2_up2]
    refine aw_aload_n (n := 142) dX8_rows_141 rfl rfl ?_
    refine aw_geti (n := 145) dX8_rows_142 fX8_110 E_164 rfl rfl ?_
    rw [up2_s]
    refine aw_if_eq (tg := 149) (n := 148) dX8_rows_145 (by decide) rfl (fun c_145 => by exact absurd c_145 hna) (fun c_145 => ?_)
    refine aw_vret dX8_rows_148 rfl ?_
    exact thr_e hQ
  obtain ⟨r, rfl⟩ : ∃ z, va = some (.inr z) := by
    rcases va with _ | x9 | z
    · exact absurd ka (by decide)
    · exact absurd ka (by simp [lk, lk0])
    · exact ⟨z, rfl⟩
  by_cases kb : lk 0 vb = 0
  rotate_left
  · have hnb : ¬ nI (lk 0 vb) = 0 := nI_ne0 (by omega) (by have := lk_lt 0 vb; omega)
    have hr : op 13 n0 inp (some (.inr r)) vb vc = .inl (lk 0 vb) := by
      rcases vb with _ | z | z
      · rfl
      · exact absurd rfl kb
      · rfl
    rw [hr] at hQ
    refine aw_iload_n (n := 1) dX8_rows_0 rfl rfl ?_
    refine aw_s1 (d1 := d - 1) (n := 4) (Z := mX8_parts) (L0 := [_]) dX8_rows_1 kX8_parts gX8_99 syX8_parts rfl (Nat.le_of_ble_eq_true rfl) rfl rfl (by omega) (Nat.le_of_ble_eq_true rfl) ?_
    refine aw_iload_n (n := 1) dX8_parts_0 rfl rfl ?_
    refine aw_iconst (n := 2) (v := 3) dX8_parts_1 (by decide) rfl ?_
    refine aw_icmp_ge (tg := 7) (n := 5) dX8_parts_2 (by decide) rfl (fun _ => ?_) (fun c_2 => by first | exact absurd rfl c_2 | exact absurd c_2 (by decide))
    refine aw_iload_n (n := 8) dX8_parts_7 rfl rfl ?_
    refine aw_bipush (n := 10) (v := 11) dX8_parts_8 (by decide) rfl ?_
    refine aw_icmp_eq (tg := 37) (n := 13) dX8_parts_10 (by decide) rfl (fun c_10 => by first | exact absurd rfl c_10 | exact absurd c_10 (by decide)) (fun _ => ?_)
    refine aw_iload_n (n := 14) dX8_parts_13 rfl rfl ?_
    refine aw_bipush (n := 16) (v := 12) dX8_parts_14 (by decide) rfl ?_
    refine aw_icmp_eq (tg := 37) (n := 19) dX8_parts_16 (by decide) rfl (fun c_16 => by first | exact absurd rfl c_16 | exact absurd c_16 (by decide)) (fun _ => ?_)
    refine aw_iload_n (n := 20) dX8_parts_19 rfl rfl ?_
    refine aw_bipush (n := 22) (v := 16) dX8_parts_20 (by decide) rfl ?_
    refine aw_icmp_eq (tg := 37) (n := 25) dX8_parts_22 (by decide) rfl (fun c_22 => by first | exact absurd rfl c_22 | exact absurd c_22 (by decide)) (fun _ => ?_)
    refine aw_iload_n (n := 26) dX8_parts_25 rfl rfl ?_
    refine aw_bipush (n := 28) (v := 17) dX8_parts_26 (by decide) rfl ?_
    refine aw_icmp_eq (tg := 37) (n := 31) dX8_parts_28 (by decide) rfl (fun c_28 => by first | exact absurd rfl c_28 | exact absurd c_28 (by decide)) (fun _ => ?_)
    refine aw_iload_n (n := 32) dX8_parts_31 rfl rfl ?_
    refine aw_bipush (n := 34) (v := 18) dX8_parts_32 (by decide) rfl ?_
    refine aw_icmp_ne (tg := 39) (n := 37) dX8_parts_34 (by decide) rfl (fun _ => ?_) (fun c_34 => by first | exact absurd rfl c_34 | exact absurd c_34 (by decide))
    refine aw_iload_n (n := 40) dX8_parts_39 rfl rfl ?_
    refine aw_bipush (n := 42) (v := 13) dX8_parts_40 (by decide) rfl ?_
    refine aw_icmp_eq (tg := 57) (n := 45) dX8_parts_42 (by decide) rfl (fun _ => ?_) (fun c_42 => by first | exact absurd rfl c_42 | exact absurd c_42 (by decide))
    refine aw_iconst (n := 58) (v := 3) dX8_parts_57 (by decide) rfl ?_
    refine aw_goto (n := 62) dX8_parts_58 (by decide) ?_
    refine aw_iret dX8_parts_62 rfl ?_
    dsimp only [aPush]
    refine aw_istore_n (n := 5) (L' := [_, _, _, _, _, _, _, _]) dX8_rows_4 (Nat.le_of_ble_eq_true rfl) rfl rfl ?_
    refine aw_aload_n (n := 6) dX8_rows_5 rfl rfl ?_
    refine aw_aload_n (n := 7) dX8_rows_6 rfl rfl ?_
    refine aw_iload_n (n := 8) dX8_rows_7 rfl rfl ?_
    refine aw_iload_n (n := 9) dX8_rows_8 rfl rfl ?_
    refine aw_bipush (n := 11) (v := 12) dX8_rows_9 (by decide) rfl ?_
    refine aw_icmp_ne (tg := 18) (n := 14) dX8_rows_11 (by decide) rfl (fun _ => ?_) (fun c_11 => by first | exact absurd rfl c_11 | exact absurd c_11 (by decide))
    refine aw_iconst (n := 19) (v := 1) dX8_rows_18 (by decide) rfl ?_
    refine aw_v2 (d1 := d - 1) (n := 22) (Z := mX8_wrong) (ci := 6) (L0 := [_, _, _]) dX8_rows_19 kX8_wrong gX8_141 iyX8_wrong eyX8_wrong rfl rfl E_164 rfl rfl (Nat.le_of_ble_eq_true rfl) rfl rfl (by omega) (Nat.le_of_ble_eq_true rfl) (m_wrong (need := 1) (by omega) (by decide) ha ?_)
    dsimp only [aPush]
    rw [ka]
    refine aw_puti (n := 25) dX8_rows_22 pX8_110 E_164 rfl rfl ?_
    rw [up2_id (x := nI 0) h20]
    refine aw_aload_n (n := 26) dX8_rows_25 rfl rfl ?_
    refine aw_aload_n (n := 27) dX8_rows_26 rfl rfl ?_
    refine aw_geti (n := 30) dX8_rows_27 fX8_110 E_164 rfl rfl ?_
    rw [h20]
    refine aw_if_ne (tg := 38) (n := 33) dX8_rows_30 (by decide) rfl (fun c_30 => by exact absurd rfl c_30) (fun c_30 => ?_)
    refine aw_iload_n (n := 34) dX8_rows_33 rfl rfl ?_
    refine aw_iconst (n := 35) (v := 2) dX8_rows_34 (by decide) rfl ?_
    refine aw_icmp_ge (tg := 45) (n := 38) dX8_rows_35 (by decide) rfl (fun _ => ?_) (fun c_35 => by first | exact absurd rfl c_35 | exact absurd c_35 (by decide))
    refine aw_aload_n (n := 46) dX8_rows_45 rfl rfl ?_
    refine aw_iload_n (n := 47) dX8_rows_46 rfl rfl ?_
    refine aw_iconst (n := 48) (v := 1) dX8_rows_47 (by decide) rfl ?_
    refine aw_iadd (n := 49) dX8_rows_48 rfl ?_
    rw [nI_1]
    refine aw_iload_n (n := 50) dX8_rows_49 rfl rfl ?_
    refine aw_bipush (n := 52) (v := 14) dX8_rows_50 (by decide) rfl ?_
    refine aw_icmp_ne (tg := 59) (n := 55) dX8_rows_52 (by decide) rfl (fun _ => ?_) (fun c_52 => by first | exact absurd rfl c_52 | exact absurd c_52 (by decide))
    refine aw_iconst (n := 60) (v := 0) dX8_rows_59 (by decide) rfl ?_
    refine aw_v2 (d1 := d - 1) (n := 63) (Z := mX8_wrong) (ci := 6) (L0 := [_, _, _]) dX8_rows_60 kX8_wrong gX8_141 iyX8_wrong eyX8_wrong rfl rfl E_164 rfl rfl (Nat.le_of_ble_eq_true rfl) rfl rfl (by omega) (Nat.le_of_ble_eq_true rfl) (m_wrong (need := 0) (by omega) (by decide) hb ?_)
    dsimp only [aPush]
    refine aw_puti (n := 66) dX8_rows_63 pX8_110 E_164 rfl rfl ?_
    refine aw_aload_n (n := 67) dX8_rows_66 rfl rfl ?_
    refine aw_aload_n (n := 68) dX8_rows_67 rfl rfl ?_
    refine aw_geti (n := 71) dX8_rows_68 fX8_110 E_164 rfl rfl ?_
    rw [up2_s]
    refine aw_if_ne (tg := 79) (n := 74) dX8_rows_71 (by decide) rfl (fun c_71 => ?_) (fun c_71 => by exact absurd c_71 hnb)
    refine aw_aload_n (n := 80) dX8_rows_79 rfl rfl ?_
    refine aw_geti (n := 83) dX8_rows_80 fX8_110 E_164 rfl rfl ?_
    rw [up2_s]
    refine aw_goto (n := 94) dX8_rows_83 (by decide) ?_
    refine aw_puti (n := 97) dX8_rows_94 pX8_110 E_164 rfl rfl ?_
    rw [up2_up2]
    refine aw_aload_n (n := 98) dX8_rows_97 rfl rfl ?_
    refine aw_aload_n (n := 99) dX8_rows_98 rfl rfl ?_
    refine aw_geti (n := 102) dX8_rows_99 fX8_110 E_164 rfl rfl ?_
    rw [up2_s]
    refine aw_if_eq (tg := 112) (n := 105) dX8_rows_102 (by decide) rfl (fun c_102 => by exact absurd c_102 hnb) (fun c_102 => ?_)
    refine aw_aload_n (n := 106) dX8_rows_105 rfl rfl ?_
    refine aw_geti (n := 109) dX8_rows_106 fX8_110 E_164 rfl rfl ?_
    rw [up2_s]
    refine aw_goto (n := 138) dX8_rows_109 (by decide) ?_
    refine aw_puti (n := 141) dX8_rows_138 pX8_110 E_164 rfl rfl ?_
    rw [up2_up2]
    refine aw_aload_n (n := 142) dX8_rows_141 rfl rfl ?_
    refine aw_geti (n := 145) dX8_rows_142 fX8_110 E_164 rfl rfl ?_
    rw [up2_s]
    refine aw_if_eq (tg := 149) (n := 148) dX8_rows_145 (by decide) rfl (fun c_145 => by exact absurd c_145 hnb) (fun c_145 => ?_)
    refine aw_vret dX8_rows_148 rfl ?_
    exact thr_e hQ
  obtain ⟨y, rfl⟩ : ∃ z, vb = some (.inl z) := by
    rcases vb with _ | z | r9
    · exact absurd kb (by decide)
    · exact ⟨z, rfl⟩
    · exact absurd kb (by simp [lk, lk0])
  by_cases kc : lk 0 vc = 0
  rotate_left
  · have hnc : ¬ nI (lk 0 vc) = 0 := nI_ne0 (by omega) (by have := lk_lt 0 vc; omega)
    have hr : op 13 n0 inp (some (.inr r)) (some (.inl y)) vc = .inl (lk 0 vc) := by
      rcases vc with _ | z | z
      · rfl
      · exact absurd rfl kc
      · rfl
    rw [hr] at hQ
    refine aw_iload_n (n := 1) dX8_rows_0 rfl rfl ?_
    refine aw_s1 (d1 := d - 1) (n := 4) (Z := mX8_parts) (L0 := [_]) dX8_rows_1 kX8_parts gX8_99 syX8_parts rfl (Nat.le_of_ble_eq_true rfl) rfl rfl (by omega) (Nat.le_of_ble_eq_true rfl) ?_
    refine aw_iload_n (n := 1) dX8_parts_0 rfl rfl ?_
    refine aw_iconst (n := 2) (v := 3) dX8_parts_1 (by decide) rfl ?_
    refine aw_icmp_ge (tg := 7) (n := 5) dX8_parts_2 (by decide) rfl (fun _ => ?_) (fun c_2 => by first | exact absurd rfl c_2 | exact absurd c_2 (by decide))
    refine aw_iload_n (n := 8) dX8_parts_7 rfl rfl ?_
    refine aw_bipush (n := 10) (v := 11) dX8_parts_8 (by decide) rfl ?_
    refine aw_icmp_eq (tg := 37) (n := 13) dX8_parts_10 (by decide) rfl (fun c_10 => by first | exact absurd rfl c_10 | exact absurd c_10 (by decide)) (fun _ => ?_)
    refine aw_iload_n (n := 14) dX8_parts_13 rfl rfl ?_
    refine aw_bipush (n := 16) (v := 12) dX8_parts_14 (by decide) rfl ?_
    refine aw_icmp_eq (tg := 37) (n := 19) dX8_parts_16 (by decide) rfl (fun c_16 => by first | exact absurd rfl c_16 | exact absurd c_16 (by decide)) (fun _ => ?_)
    refine aw_iload_n (n := 20) dX8_parts_19 rfl rfl ?_
    refine aw_bipush (n := 22) (v := 16) dX8_parts_20 (by decide) rfl ?_
    refine aw_icmp_eq (tg := 37) (n := 25) dX8_parts_22 (by decide) rfl (fun c_22 => by first | exact absurd rfl c_22 | exact absurd c_22 (by decide)) (fun _ => ?_)
    refine aw_iload_n (n := 26) dX8_parts_25 rfl rfl ?_
    refine aw_bipush (n := 28) (v := 17) dX8_parts_26 (by decide) rfl ?_
    refine aw_icmp_eq (tg := 37) (n := 31) dX8_parts_28 (by decide) rfl (fun c_28 => by first | exact absurd rfl c_28 | exact absurd c_28 (by decide)) (fun _ => ?_)
    refine aw_iload_n (n := 32) dX8_parts_31 rfl rfl ?_
    refine aw_bipush (n := 34) (v := 18) dX8_parts_32 (by decide) rfl ?_
    refine aw_icmp_ne (tg := 39) (n := 37) dX8_parts_34 (by decide) rfl (fun _ => ?_) (fun c_34 => by first | exact absurd rfl c_34 | exact absurd c_34 (by decide))
    refine aw_iload_n (n := 40) dX8_parts_39 rfl rfl ?_
    refine aw_bipush (n := 42) (v := 13) dX8_parts_40 (by decide) rfl ?_
    refine aw_icmp_eq (tg := 57) (n := 45) dX8_parts_42 (by decide) rfl (fun _ => ?_) (fun c_42 => by first | exact absurd rfl c_42 | exact absurd c_42 (by decide))
    refine aw_iconst (n := 58) (v := 3) dX8_parts_57 (by decide) rfl ?_
    refine aw_goto (n := 62) dX8_parts_58 (by decide) ?_
    refine aw_iret dX8_parts_62 rfl ?_
    dsimp only [aPush]
    refine aw_istore_n (n := 5) (L' := [_, _, _, _, _, _, _, _]) dX8_rows_4 (Nat.le_of_ble_eq_true rfl) rfl rfl ?_
    refine aw_aload_n (n := 6) dX8_rows_5 rfl rfl ?_
    refine aw_aload_n (n := 7) dX8_rows_6 rfl rfl ?_
    refine aw_iload_n (n := 8) dX8_rows_7 rfl rfl ?_
    refine aw_iload_n (n := 9) dX8_rows_8 rfl rfl ?_
    refine aw_bipush (n := 11) (v := 12) dX8_rows_9 (by decide) rfl ?_
    refine aw_icmp_ne (tg := 18) (n := 14) dX8_rows_11 (by decide) rfl (fun _ => ?_) (fun c_11 => by first | exact absurd rfl c_11 | exact absurd c_11 (by decide))
    refine aw_iconst (n := 19) (v := 1) dX8_rows_18 (by decide) rfl ?_
    refine aw_v2 (d1 := d - 1) (n := 22) (Z := mX8_wrong) (ci := 6) (L0 := [_, _, _]) dX8_rows_19 kX8_wrong gX8_141 iyX8_wrong eyX8_wrong rfl rfl E_164 rfl rfl (Nat.le_of_ble_eq_true rfl) rfl rfl (by omega) (Nat.le_of_ble_eq_true rfl) (m_wrong (need := 1) (by omega) (by decide) ha ?_)
    dsimp only [aPush]
    rw [ka]
    refine aw_puti (n := 25) dX8_rows_22 pX8_110 E_164 rfl rfl ?_
    rw [up2_id (x := nI 0) h20]
    refine aw_aload_n (n := 26) dX8_rows_25 rfl rfl ?_
    refine aw_aload_n (n := 27) dX8_rows_26 rfl rfl ?_
    refine aw_geti (n := 30) dX8_rows_27 fX8_110 E_164 rfl rfl ?_
    rw [h20]
    refine aw_if_ne (tg := 38) (n := 33) dX8_rows_30 (by decide) rfl (fun c_30 => by exact absurd rfl c_30) (fun c_30 => ?_)
    refine aw_iload_n (n := 34) dX8_rows_33 rfl rfl ?_
    refine aw_iconst (n := 35) (v := 2) dX8_rows_34 (by decide) rfl ?_
    refine aw_icmp_ge (tg := 45) (n := 38) dX8_rows_35 (by decide) rfl (fun _ => ?_) (fun c_35 => by first | exact absurd rfl c_35 | exact absurd c_35 (by decide))
    refine aw_aload_n (n := 46) dX8_rows_45 rfl rfl ?_
    refine aw_iload_n (n := 47) dX8_rows_46 rfl rfl ?_
    refine aw_iconst (n := 48) (v := 1) dX8_rows_47 (by decide) rfl ?_
    refine aw_iadd (n := 49) dX8_rows_48 rfl ?_
    rw [nI_1]
    refine aw_iload_n (n := 50) dX8_rows_49 rfl rfl ?_
    refine aw_bipush (n := 52) (v := 14) dX8_rows_50 (by decide) rfl ?_
    refine aw_icmp_ne (tg := 59) (n := 55) dX8_rows_52 (by decide) rfl (fun _ => ?_) (fun c_52 => by first | exact absurd rfl c_52 | exact absurd c_52 (by decide))
    refine aw_iconst (n := 60) (v := 0) dX8_rows_59 (by decide) rfl ?_
    refine aw_v2 (d1 := d - 1) (n := 63) (Z := mX8_wrong) (ci := 6) (L0 := [_, _, _]) dX8_rows_60 kX8_wrong gX8_141 iyX8_wrong eyX8_wrong rfl rfl E_164 rfl rfl (Nat.le_of_ble_eq_true rfl) rfl rfl (by omega) (Nat.le_of_ble_eq_true rfl) (m_wrong (need := 0) (by omega) (by decide) hb ?_)
    dsimp only [aPush]
    rw [kb]
    refine aw_puti (n := 66) dX8_rows_63 pX8_110 E_164 rfl rfl ?_
    rw [up2_id (x := nI 0) h20]
    refine aw_aload_n (n := 67) dX8_rows_66 rfl rfl ?_
    refine aw_aload_n (n := 68) dX8_rows_67 rfl rfl ?_
    refine aw_geti (n := 71) dX8_rows_68 fX8_110 E_164 rfl rfl ?_
    rw [h20]
    refine aw_if_ne (tg := 79) (n := 74) dX8_rows_71 (by decide) rfl (fun c_71 => by exact absurd rfl c_71) (fun c_71 => ?_)
    refine aw_iload_n (n := 75) dX8_rows_74 rfl rfl ?_
    refine aw_iconst (n := 76) (v := 3) dX8_rows_75 (by decide) rfl ?_
    refine aw_icmp_ge (tg := 86) (n := 79) dX8_rows_76 (by decide) rfl (fun _ => ?_) (fun c_76 => by first | exact absurd rfl c_76 | exact absurd c_76 (by decide))
    refine aw_aload_n (n := 87) dX8_rows_86 rfl rfl ?_
    refine aw_iload_n (n := 88) dX8_rows_87 rfl rfl ?_
    refine aw_iconst (n := 89) (v := 2) dX8_rows_88 (by decide) rfl ?_
    refine aw_iadd (n := 90) dX8_rows_89 rfl ?_
    rw [show (2 : Int32) = nI 2 from rfl, nI_add]
    refine aw_iconst (n := 91) (v := 0) dX8_rows_90 (by decide) rfl ?_
    refine aw_v2 (d1 := d - 1) (n := 94) (Z := mX8_wrong) (ci := 6) (L0 := [_, _, _]) dX8_rows_91 kX8_wrong gX8_141 iyX8_wrong eyX8_wrong rfl rfl E_164 rfl rfl (Nat.le_of_ble_eq_true rfl) rfl rfl (by omega) (Nat.le_of_ble_eq_true rfl) (m_wrong (need := 0) (by omega) (by decide) hc ?_)
    dsimp only [aPush]
    refine aw_puti (n := 97) dX8_rows_94 pX8_110 E_164 rfl rfl ?_
    refine aw_aload_n (n := 98) dX8_rows_97 rfl rfl ?_
    refine aw_aload_n (n := 99) dX8_rows_98 rfl rfl ?_
    refine aw_geti (n := 102) dX8_rows_99 fX8_110 E_164 rfl rfl ?_
    rw [up2_s]
    refine aw_if_eq (tg := 112) (n := 105) dX8_rows_102 (by decide) rfl (fun c_102 => by exact absurd c_102 hnc) (fun c_102 => ?_)
    refine aw_aload_n (n := 106) dX8_rows_105 rfl rfl ?_
    refine aw_geti (n := 109) dX8_rows_106 fX8_110 E_164 rfl rfl ?_
    rw [up2_s]
    refine aw_goto (n := 138) dX8_rows_109 (by decide) ?_
    refine aw_puti (n := 141) dX8_rows_138 pX8_110 E_164 rfl rfl ?_
    rw [up2_up2]
    refine aw_aload_n (n := 142) dX8_rows_141 rfl rfl ?_
    refine aw_geti (n := 145) dX8_rows_142 fX8_110 E_164 rfl rfl ?_
    rw [up2_s]
    refine aw_if_eq (tg := 149) (n := 148) dX8_rows_145 (by decide) rfl (fun c_145 => by exact absurd c_145 hnc) (fun c_145 => ?_)
    refine aw_vret dX8_rows_148 rfl ?_
    exact thr_e hQ
  obtain ⟨z, rfl⟩ : ∃ z, vc = some (.inl z) := by
    rcases vc with _ | z | r9
    · exact absurd kc (by decide)
    · exact ⟨z, rfl⟩
    · exact absurd kc (by simp [lk, lk0])
  obtain ⟨a1, hr, gx, pl, hpl, gp, hst⟩ := id ha
  have gy : M 176 (3 * t + 1) = y := hb.2
  have gz : M 176 (3 * t + 2) = z := hc.2
  have hQ : eQ mk M (if y < 0 ∨ nI r.length ≤ y then .inl 2 else .inr (some (.inr (r.set y.toNatClampNeg z)))) Q := hQ
  by_cases hbad : y < 0 ∨ nI r.length ≤ y
  · rw [if_pos hbad] at hQ
    refine aw_iload_n (n := 1) dX8_rows_0 rfl rfl ?_
    refine aw_s1 (d1 := d - 1) (n := 4) (Z := mX8_parts) (L0 := [_]) dX8_rows_1 kX8_parts gX8_99 syX8_parts rfl (Nat.le_of_ble_eq_true rfl) rfl rfl (by omega) (Nat.le_of_ble_eq_true rfl) ?_
    refine aw_iload_n (n := 1) dX8_parts_0 rfl rfl ?_
    refine aw_iconst (n := 2) (v := 3) dX8_parts_1 (by decide) rfl ?_
    refine aw_icmp_ge (tg := 7) (n := 5) dX8_parts_2 (by decide) rfl (fun _ => ?_) (fun c_2 => by first | exact absurd rfl c_2 | exact absurd c_2 (by decide))
    refine aw_iload_n (n := 8) dX8_parts_7 rfl rfl ?_
    refine aw_bipush (n := 10) (v := 11) dX8_parts_8 (by decide) rfl ?_
    refine aw_icmp_eq (tg := 37) (n := 13) dX8_parts_10 (by decide) rfl (fun c_10 => by first | exact absurd rfl c_10 | exact absurd c_10 (by decide)) (fun _ => ?_)
    refine aw_iload_n (n := 14) dX8_parts_13 rfl rfl ?_
    refine aw_bipush (n := 16) (v := 12) dX8_parts_14 (by decide) rfl ?_
    refine aw_icmp_eq (tg := 37) (n := 19) dX8_parts_16 (by decide) rfl (fun c_16 => by first | exact absurd rfl c_16 | exact absurd c_16 (by decide)) (fun _ => ?_)
    refine aw_iload_n (n := 20) dX8_parts_19 rfl rfl ?_
    refine aw_bipush (n := 22) (v := 16) dX8_parts_20 (by decide) rfl ?_
    refine aw_icmp_eq (tg := 37) (n := 25) dX8_parts_22 (by decide) rfl (fun c_22 => by first | exact absurd rfl c_22 | exact absurd c_22 (by decide)) (fun _ => ?_)
    refine aw_iload_n (n := 26) dX8_parts_25 rfl rfl ?_
    refine aw_bipush (n := 28) (v := 17) dX8_parts_26 (by decide) rfl ?_
    refine aw_icmp_eq (tg := 37) (n := 31) dX8_parts_28 (by decide) rfl (fun c_28 => by first | exact absurd rfl c_28 | exact absurd c_28 (by decide)) (fun _ => ?_)
    refine aw_iload_n (n := 32) dX8_parts_31 rfl rfl ?_
    refine aw_bipush (n := 34) (v := 18) dX8_parts_32 (by decide) rfl ?_
    refine aw_icmp_ne (tg := 39) (n := 37) dX8_parts_34 (by decide) rfl (fun _ => ?_) (fun c_34 => by first | exact absurd rfl c_34 | exact absurd c_34 (by decide))
    refine aw_iload_n (n := 40) dX8_parts_39 rfl rfl ?_
    refine aw_bipush (n := 42) (v := 13) dX8_parts_40 (by decide) rfl ?_
    refine aw_icmp_eq (tg := 57) (n := 45) dX8_parts_42 (by decide) rfl (fun _ => ?_) (fun c_42 => by first | exact absurd rfl c_42 | exact absurd c_42 (by decide))
    refine aw_iconst (n := 58) (v := 3) dX8_parts_57 (by decide) rfl ?_
    refine aw_goto (n := 62) dX8_parts_58 (by decide) ?_
    refine aw_iret dX8_parts_62 rfl ?_
    dsimp only [aPush]
    refine aw_istore_n (n := 5) (L' := [_, _, _, _, _, _, _, _]) dX8_rows_4 (Nat.le_of_ble_eq_true rfl) rfl rfl ?_
    refine aw_aload_n (n := 6) dX8_rows_5 rfl rfl ?_
    refine aw_aload_n (n := 7) dX8_rows_6 rfl rfl ?_
    refine aw_iload_n (n := 8) dX8_rows_7 rfl rfl ?_
    refine aw_iload_n (n := 9) dX8_rows_8 rfl rfl ?_
    refine aw_bipush (n := 11) (v := 12) dX8_rows_9 (by decide) rfl ?_
    refine aw_icmp_ne (tg := 18) (n := 14) dX8_rows_11 (by decide) rfl (fun _ => ?_) (fun c_11 => by first | exact absurd rfl c_11 | exact absurd c_11 (by decide))
    refine aw_iconst (n := 19) (v := 1) dX8_rows_18 (by decide) rfl ?_
    refine aw_v2 (d1 := d - 1) (n := 22) (Z := mX8_wrong) (ci := 6) (L0 := [_, _, _]) dX8_rows_19 kX8_wrong gX8_141 iyX8_wrong eyX8_wrong rfl rfl E_164 rfl rfl (Nat.le_of_ble_eq_true rfl) rfl rfl (by omega) (Nat.le_of_ble_eq_true rfl) (m_wrong (need := 1) (by omega) (by decide) ha ?_)
    dsimp only [aPush]
    rw [ka]
    refine aw_puti (n := 25) dX8_rows_22 pX8_110 E_164 rfl rfl ?_
    rw [up2_id (x := nI 0) h20]
    refine aw_aload_n (n := 26) dX8_rows_25 rfl rfl ?_
    refine aw_aload_n (n := 27) dX8_rows_26 rfl rfl ?_
    refine aw_geti (n := 30) dX8_rows_27 fX8_110 E_164 rfl rfl ?_
    rw [h20]
    refine aw_if_ne (tg := 38) (n := 33) dX8_rows_30 (by decide) rfl (fun c_30 => by exact absurd rfl c_30) (fun c_30 => ?_)
    refine aw_iload_n (n := 34) dX8_rows_33 rfl rfl ?_
    refine aw_iconst (n := 35) (v := 2) dX8_rows_34 (by decide) rfl ?_
    refine aw_icmp_ge (tg := 45) (n := 38) dX8_rows_35 (by decide) rfl (fun _ => ?_) (fun c_35 => by first | exact absurd rfl c_35 | exact absurd c_35 (by decide))
    refine aw_aload_n (n := 46) dX8_rows_45 rfl rfl ?_
    refine aw_iload_n (n := 47) dX8_rows_46 rfl rfl ?_
    refine aw_iconst (n := 48) (v := 1) dX8_rows_47 (by decide) rfl ?_
    refine aw_iadd (n := 49) dX8_rows_48 rfl ?_
    rw [nI_1]
    refine aw_iload_n (n := 50) dX8_rows_49 rfl rfl ?_
    refine aw_bipush (n := 52) (v := 14) dX8_rows_50 (by decide) rfl ?_
    refine aw_icmp_ne (tg := 59) (n := 55) dX8_rows_52 (by decide) rfl (fun _ => ?_) (fun c_52 => by first | exact absurd rfl c_52 | exact absurd c_52 (by decide))
    refine aw_iconst (n := 60) (v := 0) dX8_rows_59 (by decide) rfl ?_
    refine aw_v2 (d1 := d - 1) (n := 63) (Z := mX8_wrong) (ci := 6) (L0 := [_, _, _]) dX8_rows_60 kX8_wrong gX8_141 iyX8_wrong eyX8_wrong rfl rfl E_164 rfl rfl (Nat.le_of_ble_eq_true rfl) rfl rfl (by omega) (Nat.le_of_ble_eq_true rfl) (m_wrong (need := 0) (by omega) (by decide) hb ?_)
    dsimp only [aPush]
    rw [kb]
    refine aw_puti (n := 66) dX8_rows_63 pX8_110 E_164 rfl rfl ?_
    rw [up2_id (x := nI 0) h20]
    refine aw_aload_n (n := 67) dX8_rows_66 rfl rfl ?_
    refine aw_aload_n (n := 68) dX8_rows_67 rfl rfl ?_
    refine aw_geti (n := 71) dX8_rows_68 fX8_110 E_164 rfl rfl ?_
    rw [h20]
    refine aw_if_ne (tg := 79) (n := 74) dX8_rows_71 (by decide) rfl (fun c_71 => by exact absurd rfl c_71) (fun c_71 => ?_)
    refine aw_iload_n (n := 75) dX8_rows_74 rfl rfl ?_
    refine aw_iconst (n := 76) (v := 3) dX8_rows_75 (by decide) rfl ?_
    refine aw_icmp_ge (tg := 86) (n := 79) dX8_rows_76 (by decide) rfl (fun _ => ?_) (fun c_76 => by first | exact absurd rfl c_76 | exact absurd c_76 (by decide))
    refine aw_aload_n (n := 87) dX8_rows_86 rfl rfl ?_
    refine aw_iload_n (n := 88) dX8_rows_87 rfl rfl ?_
    refine aw_iconst (n := 89) (v := 2) dX8_rows_88 (by decide) rfl ?_
    refine aw_iadd (n := 90) dX8_rows_89 rfl ?_
    rw [show (2 : Int32) = nI 2 from rfl, nI_add]
    refine aw_iconst (n := 91) (v := 0) dX8_rows_90 (by decide) rfl ?_
    refine aw_v2 (d1 := d - 1) (n := 94) (Z := mX8_wrong) (ci := 6) (L0 := [_, _, _]) dX8_rows_91 kX8_wrong gX8_141 iyX8_wrong eyX8_wrong rfl rfl E_164 rfl rfl (Nat.le_of_ble_eq_true rfl) rfl rfl (by omega) (Nat.le_of_ble_eq_true rfl) (m_wrong (need := 0) (by omega) (by decide) hc ?_)
    dsimp only [aPush]
    rw [kc]
    refine aw_puti (n := 97) dX8_rows_94 pX8_110 E_164 rfl rfl ?_
    rw [up2_id (x := nI 0) h20]
    refine aw_aload_n (n := 98) dX8_rows_97 rfl rfl ?_
    refine aw_aload_n (n := 99) dX8_rows_98 rfl rfl ?_
    refine aw_geti (n := 102) dX8_rows_99 fX8_110 E_164 rfl rfl ?_
    rw [h20]
    refine aw_if_eq (tg := 112) (n := 105) dX8_rows_102 (by decide) rfl (fun c_102 => ?_) (fun c_102 => by exact absurd rfl c_102)
    refine aw_iload_n (n := 113) dX8_rows_112 rfl rfl ?_
    refine aw_aload_n (n := 114) dX8_rows_113 rfl rfl ?_
    refine aw_getr (n := 117) dX8_rows_114 fX8_43 E_164 rfl rfl ?_
    refine aw_iload_n (n := 118) dX8_rows_117 rfl rfl ?_
    refine aw_iald (n := 119) dX8_rows_118 E_176 (by assumption) rfl ?_
    refine aw_aload_n (n := 120) dX8_rows_119 rfl rfl ?_
    refine aw_getr (n := 123) dX8_rows_120 fX8_43 E_164 rfl rfl ?_
    refine aw_iload_n (n := 124) dX8_rows_123 rfl rfl ?_
    refine aw_iconst (n := 125) (v := 1) dX8_rows_124 (by decide) rfl ?_
    refine aw_iadd (n := 126) dX8_rows_125 rfl ?_
    rw [nI_1]
    refine aw_iald (n := 127) dX8_rows_126 E_176 (by assumption) rfl ?_
    refine aw_aload_n (n := 128) dX8_rows_127 rfl rfl ?_
    refine aw_getr (n := 131) dX8_rows_128 fX8_43 E_164 rfl rfl ?_
    refine aw_iload_n (n := 132) dX8_rows_131 rfl rfl ?_
    refine aw_iconst (n := 133) (v := 2) dX8_rows_132 (by decide) rfl ?_
    refine aw_iadd (n := 134) dX8_rows_133 rfl ?_
    rw [show (2 : Int32) = nI 2 from rfl, nI_add]
    refine aw_iald (n := 135) dX8_rows_134 E_176 (by assumption) rfl ?_
    rw [haa, hbb, hcc, gx, gy, gz]
    refine aw_s4 (d1 := d - 1) (n := 138) (Z := mX8_refused) (L0 := [_, _, _, _]) dX8_rows_135 kX8_refused gX8_164 syX8_refused rfl rfl rfl rfl (Nat.le_of_ble_eq_true rfl) rfl rfl (by omega) (Nat.le_of_ble_eq_true rfl) ?_
    refine aw_iload_n (n := 1) dX8_refused_0 rfl rfl ?_
    refine aw_tswIn (n := 40) (off := 39) dX8_refused_1 (by decide) (by decide) (by decide) (by decide) ?_
    refine aw_iload_n (n := 41) dX8_refused_40 rfl rfl ?_
    refine aw_if_lt (tg := 49) (n := 44) dX8_refused_41 (by decide) rfl (fun c_41 => ?_) (fun c_41 => ?_)
    · refine aw_iconst (n := 50) (v := 2) dX8_refused_49 (by decide) rfl ?_
      refine aw_goto (n := 54) dX8_refused_50 (by decide) ?_
      refine aw_iret dX8_refused_54 rfl ?_
      dsimp only [aPush]
      refine aw_puti (n := 141) dX8_rows_138 pX8_110 E_164 rfl rfl ?_
      refine aw_aload_n (n := 142) dX8_rows_141 rfl rfl ?_
      refine aw_geti (n := 145) dX8_rows_142 fX8_110 E_164 rfl rfl ?_
      rw [up2_s]
      refine aw_if_eq (tg := 149) (n := 148) dX8_rows_145 (by decide) rfl (fun c_145 => by exact absurd c_145 (by decide)) (fun c_145 => ?_)
      refine aw_vret dX8_rows_148 rfl ?_
      exact thr_e (k := 2) hQ
    · refine aw_iload_n (n := 45) dX8_refused_44 rfl rfl ?_
      refine aw_iload_n (n := 46) dX8_refused_45 rfl rfl ?_
      refine aw_icmp_lt (tg := 53) (n := 49) dX8_refused_46 (by decide) rfl (fun c_46 => by exact (hbad.elim c_41 (i_nle.mpr c_46)).elim) (fun c_46 => ?_)
      refine aw_iconst (n := 50) (v := 2) dX8_refused_49 (by decide) rfl ?_
      refine aw_goto (n := 54) dX8_refused_50 (by decide) ?_
      refine aw_iret dX8_refused_54 rfl ?_
      dsimp only [aPush]
      refine aw_puti (n := 141) dX8_rows_138 pX8_110 E_164 rfl rfl ?_
      refine aw_aload_n (n := 142) dX8_rows_141 rfl rfl ?_
      refine aw_geti (n := 145) dX8_rows_142 fX8_110 E_164 rfl rfl ?_
      rw [up2_s]
      refine aw_if_eq (tg := 149) (n := 148) dX8_rows_145 (by decide) rfl (fun c_145 => by exact absurd c_145 (by decide)) (fun c_145 => ?_)
      refine aw_vret dX8_rows_148 rfl ?_
      exact thr_e (k := 2) hQ
  rw [if_neg hbad] at hQ
  obtain ⟨i, hi, rfl⟩ := ix_in hr hbad
  rw [nI_clamp (by omega)] at hQ
  refine aw_iload_n (n := 1) dX8_rows_0 rfl rfl ?_
  refine aw_s1 (d1 := d - 1) (n := 4) (Z := mX8_parts) (L0 := [_]) dX8_rows_1 kX8_parts gX8_99 syX8_parts rfl (Nat.le_of_ble_eq_true rfl) rfl rfl (by omega) (Nat.le_of_ble_eq_true rfl) ?_
  refine aw_iload_n (n := 1) dX8_parts_0 rfl rfl ?_
  refine aw_iconst (n := 2) (v := 3) dX8_parts_1 (by decide) rfl ?_
  refine aw_icmp_ge (tg := 7) (n := 5) dX8_parts_2 (by decide) rfl (fun _ => ?_) (fun c_2 => by first | exact absurd rfl c_2 | exact absurd c_2 (by decide))
  refine aw_iload_n (n := 8) dX8_parts_7 rfl rfl ?_
  refine aw_bipush (n := 10) (v := 11) dX8_parts_8 (by decide) rfl ?_
  refine aw_icmp_eq (tg := 37) (n := 13) dX8_parts_10 (by decide) rfl (fun c_10 => by first | exact absurd rfl c_10 | exact absurd c_10 (by decide)) (fun _ => ?_)
  refine aw_iload_n (n := 14) dX8_parts_13 rfl rfl ?_
  refine aw_bipush (n := 16) (v := 12) dX8_parts_14 (by decide) rfl ?_
  refine aw_icmp_eq (tg := 37) (n := 19) dX8_parts_16 (by decide) rfl (fun c_16 => by first | exact absurd rfl c_16 | exact absurd c_16 (by decide)) (fun _ => ?_)
  refine aw_iload_n (n := 20) dX8_parts_19 rfl rfl ?_
  refine aw_bipush (n := 22) (v := 16) dX8_parts_20 (by decide) rfl ?_
  refine aw_icmp_eq (tg := 37) (n := 25) dX8_parts_22 (by decide) rfl (fun c_22 => by first | exact absurd rfl c_22 | exact absurd c_22 (by decide)) (fun _ => ?_)
  refine aw_iload_n (n := 26) dX8_parts_25 rfl rfl ?_
  refine aw_bipush (n := 28) (v := 17) dX8_parts_26 (by decide) rfl ?_
  refine aw_icmp_eq (tg := 37) (n := 31) dX8_parts_28 (by decide) rfl (fun c_28 => by first | exact absurd rfl c_28 | exact absurd c_28 (by decide)) (fun _ => ?_)
  refine aw_iload_n (n := 32) dX8_parts_31 rfl rfl ?_
  refine aw_bipush (n := 34) (v := 18) dX8_parts_32 (by decide) rfl ?_
  refine aw_icmp_ne (tg := 39) (n := 37) dX8_parts_34 (by decide) rfl (fun _ => ?_) (fun c_34 => by first | exact absurd rfl c_34 | exact absurd c_34 (by decide))
  refine aw_iload_n (n := 40) dX8_parts_39 rfl rfl ?_
  refine aw_bipush (n := 42) (v := 13) dX8_parts_40 (by decide) rfl ?_
  refine aw_icmp_eq (tg := 57) (n := 45) dX8_parts_42 (by decide) rfl (fun _ => ?_) (fun c_42 => by first | exact absurd rfl c_42 | exact absurd c_42 (by decide))
  refine aw_iconst (n := 58) (v := 3) dX8_parts_57 (by decide) rfl ?_
  refine aw_goto (n := 62) dX8_parts_58 (by decide) ?_
  refine aw_iret dX8_parts_62 rfl ?_
  dsimp only [aPush]
  refine aw_istore_n (n := 5) (L' := [_, _, _, _, _, _, _, _]) dX8_rows_4 (Nat.le_of_ble_eq_true rfl) rfl rfl ?_
  refine aw_aload_n (n := 6) dX8_rows_5 rfl rfl ?_
  refine aw_aload_n (n := 7) dX8_rows_6 rfl rfl ?_
  refine aw_iload_n (n := 8) dX8_rows_7 rfl rfl ?_
  refine aw_iload_n (n := 9) dX8_rows_8 rfl rfl ?_
  refine aw_bipush (n := 11) (v := 12) dX8_rows_9 (by decide) rfl ?_
  refine aw_icmp_ne (tg := 18) (n := 14) dX8_rows_11 (by decide) rfl (fun _ => ?_) (fun c_11 => by first | exact absurd rfl c_11 | exact absurd c_11 (by decide))
  refine aw_iconst (n := 19) (v := 1) dX8_rows_18 (by decide) rfl ?_
  refine aw_v2 (d1 := d - 1) (n := 22) (Z := mX8_wrong) (ci := 6) (L0 := [_, _, _]) dX8_rows_19 kX8_wrong gX8_141 iyX8_wrong eyX8_wrong rfl rfl E_164 rfl rfl (Nat.le_of_ble_eq_true rfl) rfl rfl (by omega) (Nat.le_of_ble_eq_true rfl) (m_wrong (need := 1) (by omega) (by decide) ha ?_)
  dsimp only [aPush]
  rw [ka]
  refine aw_puti (n := 25) dX8_rows_22 pX8_110 E_164 rfl rfl ?_
  rw [up2_id (x := nI 0) h20]
  refine aw_aload_n (n := 26) dX8_rows_25 rfl rfl ?_
  refine aw_aload_n (n := 27) dX8_rows_26 rfl rfl ?_
  refine aw_geti (n := 30) dX8_rows_27 fX8_110 E_164 rfl rfl ?_
  rw [h20]
  refine aw_if_ne (tg := 38) (n := 33) dX8_rows_30 (by decide) rfl (fun c_30 => by exact absurd rfl c_30) (fun c_30 => ?_)
  refine aw_iload_n (n := 34) dX8_rows_33 rfl rfl ?_
  refine aw_iconst (n := 35) (v := 2) dX8_rows_34 (by decide) rfl ?_
  refine aw_icmp_ge (tg := 45) (n := 38) dX8_rows_35 (by decide) rfl (fun _ => ?_) (fun c_35 => by first | exact absurd rfl c_35 | exact absurd c_35 (by decide))
  refine aw_aload_n (n := 46) dX8_rows_45 rfl rfl ?_
  refine aw_iload_n (n := 47) dX8_rows_46 rfl rfl ?_
  refine aw_iconst (n := 48) (v := 1) dX8_rows_47 (by decide) rfl ?_
  refine aw_iadd (n := 49) dX8_rows_48 rfl ?_
  rw [nI_1]
  refine aw_iload_n (n := 50) dX8_rows_49 rfl rfl ?_
  refine aw_bipush (n := 52) (v := 14) dX8_rows_50 (by decide) rfl ?_
  refine aw_icmp_ne (tg := 59) (n := 55) dX8_rows_52 (by decide) rfl (fun _ => ?_) (fun c_52 => by first | exact absurd rfl c_52 | exact absurd c_52 (by decide))
  refine aw_iconst (n := 60) (v := 0) dX8_rows_59 (by decide) rfl ?_
  refine aw_v2 (d1 := d - 1) (n := 63) (Z := mX8_wrong) (ci := 6) (L0 := [_, _, _]) dX8_rows_60 kX8_wrong gX8_141 iyX8_wrong eyX8_wrong rfl rfl E_164 rfl rfl (Nat.le_of_ble_eq_true rfl) rfl rfl (by omega) (Nat.le_of_ble_eq_true rfl) (m_wrong (need := 0) (by omega) (by decide) hb ?_)
  dsimp only [aPush]
  rw [kb]
  refine aw_puti (n := 66) dX8_rows_63 pX8_110 E_164 rfl rfl ?_
  rw [up2_id (x := nI 0) h20]
  refine aw_aload_n (n := 67) dX8_rows_66 rfl rfl ?_
  refine aw_aload_n (n := 68) dX8_rows_67 rfl rfl ?_
  refine aw_geti (n := 71) dX8_rows_68 fX8_110 E_164 rfl rfl ?_
  rw [h20]
  refine aw_if_ne (tg := 79) (n := 74) dX8_rows_71 (by decide) rfl (fun c_71 => by exact absurd rfl c_71) (fun c_71 => ?_)
  refine aw_iload_n (n := 75) dX8_rows_74 rfl rfl ?_
  refine aw_iconst (n := 76) (v := 3) dX8_rows_75 (by decide) rfl ?_
  refine aw_icmp_ge (tg := 86) (n := 79) dX8_rows_76 (by decide) rfl (fun _ => ?_) (fun c_76 => by first | exact absurd rfl c_76 | exact absurd c_76 (by decide))
  refine aw_aload_n (n := 87) dX8_rows_86 rfl rfl ?_
  refine aw_iload_n (n := 88) dX8_rows_87 rfl rfl ?_
  refine aw_iconst (n := 89) (v := 2) dX8_rows_88 (by decide) rfl ?_
  refine aw_iadd (n := 90) dX8_rows_89 rfl ?_
  rw [show (2 : Int32) = nI 2 from rfl, nI_add]
  refine aw_iconst (n := 91) (v := 0) dX8_rows_90 (by decide) rfl ?_
  refine aw_v2 (d1 := d - 1) (n := 94) (Z := mX8_wrong) (ci := 6) (L0 := [_, _, _]) dX8_rows_91 kX8_wrong gX8_141 iyX8_wrong eyX8_wrong rfl rfl E_164 rfl rfl (Nat.le_of_ble_eq_true rfl) rfl rfl (by omega) (Nat.le_of_ble_eq_true rfl) (m_wrong (need := 0) (by omega) (by decide) hc ?_)
  dsimp only [aPush]
  rw [kc]
  refine aw_puti (n := 97) dX8_rows_94 pX8_110 E_164 rfl rfl ?_
  rw [up2_id (x := nI 0) h20]
  refine aw_aload_n (n := 98) dX8_rows_97 rfl rfl ?_
  refine aw_aload_n (n := 99) dX8_rows_98 rfl rfl ?_
  refine aw_geti (n := 102) dX8_rows_99 fX8_110 E_164 rfl rfl ?_
  rw [h20]
  refine aw_if_eq (tg := 112) (n := 105) dX8_rows_102 (by decide) rfl (fun c_102 => ?_) (fun c_102 => by exact absurd rfl c_102)
  refine aw_iload_n (n := 113) dX8_rows_112 rfl rfl ?_
  refine aw_aload_n (n := 114) dX8_rows_113 rfl rfl ?_
  refine aw_getr (n := 117) dX8_rows_114 fX8_43 E_164 rfl rfl ?_
  refine aw_iload_n (n := 118) dX8_rows_117 rfl rfl ?_
  refine aw_iald (n := 119) dX8_rows_118 E_176 (by assumption) rfl ?_
  refine aw_aload_n (n := 120) dX8_rows_119 rfl rfl ?_
  refine aw_getr (n := 123) dX8_rows_120 fX8_43 E_164 rfl rfl ?_
  refine aw_iload_n (n := 124) dX8_rows_123 rfl rfl ?_
  refine aw_iconst (n := 125) (v := 1) dX8_rows_124 (by decide) rfl ?_
  refine aw_iadd (n := 126) dX8_rows_125 rfl ?_
  rw [nI_1]
  refine aw_iald (n := 127) dX8_rows_126 E_176 (by assumption) rfl ?_
  refine aw_aload_n (n := 128) dX8_rows_127 rfl rfl ?_
  refine aw_getr (n := 131) dX8_rows_128 fX8_43 E_164 rfl rfl ?_
  refine aw_iload_n (n := 132) dX8_rows_131 rfl rfl ?_
  refine aw_iconst (n := 133) (v := 2) dX8_rows_132 (by decide) rfl ?_
  refine aw_iadd (n := 134) dX8_rows_133 rfl ?_
  rw [show (2 : Int32) = nI 2 from rfl, nI_add]
  refine aw_iald (n := 135) dX8_rows_134 E_176 (by assumption) rfl ?_
  rw [haa, hbb, hcc, gx, gy, gz]
  refine aw_s4 (d1 := d - 1) (n := 138) (Z := mX8_refused) (L0 := [_, _, _, _]) dX8_rows_135 kX8_refused gX8_164 syX8_refused rfl rfl rfl rfl (Nat.le_of_ble_eq_true rfl) rfl rfl (by omega) (Nat.le_of_ble_eq_true rfl) ?_
  refine aw_iload_n (n := 1) dX8_refused_0 rfl rfl ?_
  refine aw_tswIn (n := 40) (off := 39) dX8_refused_1 (by decide) (by decide) (by decide) (by decide) ?_
  refine aw_iload_n (n := 41) dX8_refused_40 rfl rfl ?_
  refine aw_if_lt (tg := 49) (n := 44) dX8_refused_41 (by decide) rfl (fun c_41 => by exact absurd c_41 (nI_pos (by omega))) (fun c_41 => ?_)
  refine aw_iload_n (n := 45) dX8_refused_44 rfl rfl ?_
  refine aw_iload_n (n := 46) dX8_refused_45 rfl rfl ?_
  refine aw_icmp_lt (tg := 53) (n := 49) dX8_refused_46 (by decide) rfl (fun c_46 => ?_) (fun c_46 => by exact absurd ((nI_ltI (by omega) (by omega)).mpr hi) c_46)
  refine aw_iconst (n := 54) (v := 0) dX8_refused_53 (by decide) rfl ?_
  refine aw_iret dX8_refused_54 rfl ?_
  dsimp only [aPush]
  refine aw_puti (n := 141) dX8_rows_138 pX8_110 E_164 rfl rfl ?_
  rw [up2_id (x := 0) h20]
  refine aw_aload_n (n := 142) dX8_rows_141 rfl rfl ?_
  refine aw_geti (n := 145) dX8_rows_142 fX8_110 E_164 rfl rfl ?_
  rw [h20]
  refine aw_if_eq (tg := 149) (n := 148) dX8_rows_145 (by decide) rfl (fun c_145 => ?_) (fun c_145 => by exact absurd rfl c_145)
  refine aw_bipush (n := 151) (v := 16) dX8_rows_149 (by decide) rfl ?_
  refine aw_aload_n (n := 152) dX8_rows_151 rfl rfl ?_
  refine aw_getr (n := 155) dX8_rows_152 fX8_46 E_164 rfl rfl ?_
  refine aw_iload_n (n := 156) dX8_rows_155 rfl rfl ?_
  refine aw_iald (n := 157) dX8_rows_156 E_177 (by assumption) rfl ?_
  rw [haa, gp]
  refine aw_imul (n := 158) dX8_rows_157 rfl ?_
  rw [show (16 : Int32) = nI 16 from rfl, pk_mul]
  refine aw_istore (n := 160) (L' := [_, _, _, _, _, _, _, _]) dX8_rows_158 (Nat.le_of_ble_eq_true rfl) rfl rfl ?_
  refine aw_aload_n (n := 161) dX8_rows_160 rfl rfl ?_
  refine aw_getr (n := 164) dX8_rows_161 fX8_43 E_164 rfl rfl ?_
  refine aw_iload_n (n := 165) dX8_rows_164 rfl rfl ?_
  refine aw_iald (n := 166) dX8_rows_165 E_176 (by assumption) rfl ?_
  rw [haa, gx]
  refine aw_istore (n := 168) (L' := [_, _, _, _, _, _, _, _]) dX8_rows_166 (Nat.le_of_ble_eq_true rfl) rfl rfl ?_
  refine aw_iload_n (n := 169) dX8_rows_168 rfl rfl ?_
  refine aw_lsw (n := 273) (off := 104) dX8_rows_169 (by decide) (by decide) (by decide) ?_
  refine aw_aload_n (n := 274) dX8_rows_273 rfl rfl ?_
  refine aw_iload_n (n := 275) dX8_rows_274 rfl rfl ?_
  refine aw_iload_n (n := 276) dX8_rows_275 rfl rfl ?_
  refine aw_iload (n := 278) dX8_rows_276 rfl rfl ?_
  refine aw_iload (n := 280) dX8_rows_278 rfl rfl ?_
  refine aw_v4 (d1 := d - 1) (n := 283) (Z := mX8_rowOf) (ci := 6) (L0 := [_, _, _, _, _, .null, .null, .null, .null, .null, .null, .null, .null]) dX8_rows_280 kX8_rowOf gX8_168 iyX8_rowOf eyX8_rowOf rfl rfl E_164 rfl rfl rfl rfl (Nat.le_of_ble_eq_true rfl) rfl rfl (by omega) (Nat.le_of_ble_eq_true rfl) (m_rowOf13 (by omega) hmk ht h20 h22 hr hpl hst hi gy gz (eQ_inr fun mk1 M1 e2 e3 e4 e5 e6 e7 => ?_))
  dsimp only [aPush]
  refine aw_vret dX8_rows_283 rfl ?_
  exact hQ.2 _ mk1 M1 rfl e2 e3 e4 e5 e6 e7
theorem m_rows14 {mk t : Nat} {n0 : Int32} {inp : Nat → vV} {va vb : vV} (hd : 3 ≤ d) (hmk : mk < 60) (ht : t < 60) (h20 : M 164 20 = 0) (h22 : M 164 22 = nI mk) (ha : gV M mk (3 * t) va) (hb : gV M mk (3 * t + 1) vb) (hQ : eQ mk M (op 14 n0 inp va vb none) Q) : aw l K mX8_rows d 0 0 0 [.ref 164, .int (nI 14), .int (nI (3 * t)), .null, .null, .null, .null, .null] [] EE M Q := by
  have e164 := E_164
  have e176 := E_176
  have e177 := E_177
  have e178 := E_178
  have hina : vp_in (nI (3 * t)) 183 := vp_in_nI (by omega) (by decide)
  have hinb : vp_in (nI (3 * t + 1)) 183 := vp_in_nI (by omega) (by decide)
  have hinc : vp_in (nI (3 * t + 2)) 183 := vp_in_nI (by omega) (by decide)
  have haa : (nI (3 * t)).toNatClampNeg = 3 * t := nI_clamp (by omega)
  have hbb : (nI (3 * t + 1)).toNatClampNeg = 3 * t + 1 := nI_clamp (by omega)
  have hcc : (nI (3 * t + 2)).toNatClampNeg = 3 * t + 2 := nI_clamp (by omega)
  by_cases ka : lk 1 va = 0
  rotate_left
  · have hna : ¬ nI (lk 1 va) = 0 := nI_ne0 (by omega) (by have := lk_lt 1 va; omega)
    have hr : op 14 n0 inp va vb none = .inl (lk 1 va) := by
      rcases va with _ | z | z
      · rfl
      · rfl
      · exact absurd rfl ka
    rw [hr] at hQ
    refine aw_iload_n (n := 1) dX8_rows_0 rfl rfl ?_
    refine aw_s1 (d1 := d - 1) (n := 4) (Z := mX8_parts) (L0 := [_]) dX8_rows_1 kX8_parts gX8_99 syX8_parts rfl (Nat.le_of_ble_eq_true rfl) rfl rfl (by omega) (Nat.le_of_ble_eq_true rfl) ?_
    refine aw_iload_n (n := 1) dX8_parts_0 rfl rfl ?_
    refine aw_iconst (n := 2) (v := 3) dX8_parts_1 (by decide) rfl ?_
    refine aw_icmp_ge (tg := 7) (n := 5) dX8_parts_2 (by decide) rfl (fun _ => ?_) (fun c_2 => by first | exact absurd rfl c_2 | exact absurd c_2 (by decide))
    refine aw_iload_n (n := 8) dX8_parts_7 rfl rfl ?_
    refine aw_bipush (n := 10) (v := 11) dX8_parts_8 (by decide) rfl ?_
    refine aw_icmp_eq (tg := 37) (n := 13) dX8_parts_10 (by decide) rfl (fun c_10 => by first | exact absurd rfl c_10 | exact absurd c_10 (by decide)) (fun _ => ?_)
    refine aw_iload_n (n := 14) dX8_parts_13 rfl rfl ?_
    refine aw_bipush (n := 16) (v := 12) dX8_parts_14 (by decide) rfl ?_
    refine aw_icmp_eq (tg := 37) (n := 19) dX8_parts_16 (by decide) rfl (fun c_16 => by first | exact absurd rfl c_16 | exact absurd c_16 (by decide)) (fun _ => ?_)
    refine aw_iload_n (n := 20) dX8_parts_19 rfl rfl ?_
    refine aw_bipush (n := 22) (v := 16) dX8_parts_20 (by decide) rfl ?_
    refine aw_icmp_eq (tg := 37) (n := 25) dX8_parts_22 (by decide) rfl (fun c_22 => by first | exact absurd rfl c_22 | exact absurd c_22 (by decide)) (fun _ => ?_)
    refine aw_iload_n (n := 26) dX8_parts_25 rfl rfl ?_
    refine aw_bipush (n := 28) (v := 17) dX8_parts_26 (by decide) rfl ?_
    refine aw_icmp_eq (tg := 37) (n := 31) dX8_parts_28 (by decide) rfl (fun c_28 => by first | exact absurd rfl c_28 | exact absurd c_28 (by decide)) (fun _ => ?_)
    refine aw_iload_n (n := 32) dX8_parts_31 rfl rfl ?_
    refine aw_bipush (n := 34) (v := 18) dX8_parts_32 (by decide) rfl ?_
    refine aw_icmp_ne (tg := 39) (n := 37) dX8_parts_34 (by decide) rfl (fun _ => ?_) (fun c_34 => by first | exact absurd rfl c_34 | exact absurd c_34 (by decide))
    refine aw_iload_n (n := 40) dX8_parts_39 rfl rfl ?_
    refine aw_bipush (n := 42) (v := 13) dX8_parts_40 (by decide) rfl ?_
    refine aw_icmp_eq (tg := 57) (n := 45) dX8_parts_42 (by decide) rfl (fun c_42 => by first | exact absurd rfl c_42 | exact absurd c_42 (by decide)) (fun _ => ?_)
    refine aw_iload_n (n := 46) dX8_parts_45 rfl rfl ?_
    refine aw_bipush (n := 48) (v := 15) dX8_parts_46 (by decide) rfl ?_
    refine aw_icmp_eq (tg := 57) (n := 51) dX8_parts_48 (by decide) rfl (fun c_48 => by first | exact absurd rfl c_48 | exact absurd c_48 (by decide)) (fun _ => ?_)
    refine aw_iload_n (n := 52) dX8_parts_51 rfl rfl ?_
    refine aw_bipush (n := 54) (v := 19) dX8_parts_52 (by decide) rfl ?_
    refine aw_icmp_ne (tg := 61) (n := 57) dX8_parts_54 (by decide) rfl (fun _ => ?_) (fun c_54 => by first | exact absurd rfl c_54 | exact absurd c_54 (by decide))
    refine aw_iconst (n := 62) (v := 2) dX8_parts_61 (by decide) rfl ?_
    refine aw_iret dX8_parts_62 rfl ?_
    dsimp only [aPush]
    refine aw_istore_n (n := 5) (L' := [_, _, _, _, _, _, _, _]) dX8_rows_4 (Nat.le_of_ble_eq_true rfl) rfl rfl ?_
    refine aw_aload_n (n := 6) dX8_rows_5 rfl rfl ?_
    refine aw_aload_n (n := 7) dX8_rows_6 rfl rfl ?_
    refine aw_iload_n (n := 8) dX8_rows_7 rfl rfl ?_
    refine aw_iload_n (n := 9) dX8_rows_8 rfl rfl ?_
    refine aw_bipush (n := 11) (v := 12) dX8_rows_9 (by decide) rfl ?_
    refine aw_icmp_ne (tg := 18) (n := 14) dX8_rows_11 (by decide) rfl (fun _ => ?_) (fun c_11 => by first | exact absurd rfl c_11 | exact absurd c_11 (by decide))
    refine aw_iconst (n := 19) (v := 1) dX8_rows_18 (by decide) rfl ?_
    refine aw_v2 (d1 := d - 1) (n := 22) (Z := mX8_wrong) (ci := 6) (L0 := [_, _, _]) dX8_rows_19 kX8_wrong gX8_141 iyX8_wrong eyX8_wrong rfl rfl E_164 rfl rfl (Nat.le_of_ble_eq_true rfl) rfl rfl (by omega) (Nat.le_of_ble_eq_true rfl) (m_wrong (need := 1) (by omega) (by decide) ha ?_)
    dsimp only [aPush]
    refine aw_puti (n := 25) dX8_rows_22 pX8_110 E_164 rfl rfl ?_
    refine aw_aload_n (n := 26) dX8_rows_25 rfl rfl ?_
    refine aw_aload_n (n := 27) dX8_rows_26 rfl rfl ?_
    refine aw_geti (n := 30) dX8_rows_27 fX8_110 E_164 rfl rfl ?_
    rw [up2_s]
    refine aw_if_ne (tg := 38) (n := 33) dX8_rows_30 (by decide) rfl (fun c_30 => ?_) (fun c_30 => by exact absurd c_30 hna)
    refine aw_aload_n (n := 39) dX8_rows_38 rfl rfl ?_
    refine aw_geti (n := 42) dX8_rows_39 fX8_110 E_164 rfl rfl ?_
    rw [up2_s]
    refine aw_goto (n := 63) dX8_rows_42 (by decide) ?_
    refine aw_puti (n := 66) dX8_rows_63 pX8_110 E_164 rfl rfl ?_
    rw [up2_up2]
    refine aw_aload_n (n := 67) dX8_rows_66 rfl rfl ?_
    refine aw_aload_n (n := 68) dX8_rows_67 rfl rfl ?_
    refine aw_geti (n := 71) dX8_rows_68 fX8_110 E_164 rfl rfl ?_
    rw [up2_s]
    refine aw_if_ne (tg := 79) (n := 74) dX8_rows_71 (by decide) rfl (fun c_71 => ?_) (fun c_71 => by exact absurd c_71 hna)
    refine aw_aload_n (n := 80) dX8_rows_79 rfl rfl ?_
    refine aw_geti (n := 83) dX8_rows_80 fX8_110 E_164 rfl rfl ?_
    rw [up2_s]
    refine aw_goto (n := 94) dX8_rows_83 (by decide) ?_
    refine aw_puti (n := 97) dX8_rows_94 pX8_110 E_164 rfl rfl ?_
    rw [up2_up2]
    refine aw_aload_n (n := 98) dX8_rows_97 rfl rfl ?_
    refine aw_aload_n (n := 99) dX8_rows_98 rfl rfl ?_
    refine aw_geti (n := 102) dX8_rows_99 fX8_110 E_164 rfl rfl ?_
    rw [up2_s]
    refine aw_if_eq (tg := 112) (n := 105) dX8_rows_102 (by decide) rfl (fun c_102 => by exact absurd c_102 hna) (fun c_102 => ?_)
    refine aw_aload_n (n := 106) dX8_rows_105 rfl rfl ?_
    refine aw_geti (n := 109) dX8_rows_106 fX8_110 E_164 rfl rfl ?_
    rw [up2_s]
    refine aw_goto (n := 138) dX8_rows_109 (by decide) ?_
    refine aw_puti (n := 141) dX8_rows_138 pX8_110 E_164 rfl rfl ?_
    rw [up2_up2]
    refine aw_aload_n (n := 142) dX8_rows_141 rfl rfl ?_
    refine aw_geti (n := 145) dX8_rows_142 fX8_110 E_164 rfl rfl ?_
    rw [up2_s]
    refine aw_if_eq (tg := 149) (n := 148) dX8_rows_145 (by decide) rfl (fun c_145 => by exact absurd c_145 hna) (fun c_145 => ?_)
    refine aw_vret dX8_rows_148 rfl ?_
    exact thr_e hQ
  obtain ⟨r, rfl⟩ : ∃ z, va = some (.inr z) := by
    rcases va with _ | x9 | z
    · exact absurd ka (by decide)
    · exact absurd ka (by simp [lk, lk0])
    · exact ⟨z, rfl⟩
  by_cases kb : lk 1 vb = 0
  rotate_left
  · have hnb : ¬ nI (lk 1 vb) = 0 := nI_ne0 (by omega) (by have := lk_lt 1 vb; omega)
    have hr : op 14 n0 inp (some (.inr r)) vb none = .inl (lk 1 vb) := by
      rcases vb with _ | z | z
      · rfl
      · rfl
      · exact absurd rfl kb
    rw [hr] at hQ
    refine aw_iload_n (n := 1) dX8_rows_0 rfl rfl ?_
    refine aw_s1 (d1 := d - 1) (n := 4) (Z := mX8_parts) (L0 := [_]) dX8_rows_1 kX8_parts gX8_99 syX8_parts rfl (Nat.le_of_ble_eq_true rfl) rfl rfl (by omega) (Nat.le_of_ble_eq_true rfl) ?_
    refine aw_iload_n (n := 1) dX8_parts_0 rfl rfl ?_
    refine aw_iconst (n := 2) (v := 3) dX8_parts_1 (by decide) rfl ?_
    refine aw_icmp_ge (tg := 7) (n := 5) dX8_parts_2 (by decide) rfl (fun _ => ?_) (fun c_2 => by first | exact absurd rfl c_2 | exact absurd c_2 (by decide))
    refine aw_iload_n (n := 8) dX8_parts_7 rfl rfl ?_
    refine aw_bipush (n := 10) (v := 11) dX8_parts_8 (by decide) rfl ?_
    refine aw_icmp_eq (tg := 37) (n := 13) dX8_parts_10 (by decide) rfl (fun c_10 => by first | exact absurd rfl c_10 | exact absurd c_10 (by decide)) (fun _ => ?_)
    refine aw_iload_n (n := 14) dX8_parts_13 rfl rfl ?_
    refine aw_bipush (n := 16) (v := 12) dX8_parts_14 (by decide) rfl ?_
    refine aw_icmp_eq (tg := 37) (n := 19) dX8_parts_16 (by decide) rfl (fun c_16 => by first | exact absurd rfl c_16 | exact absurd c_16 (by decide)) (fun _ => ?_)
    refine aw_iload_n (n := 20) dX8_parts_19 rfl rfl ?_
    refine aw_bipush (n := 22) (v := 16) dX8_parts_20 (by decide) rfl ?_
    refine aw_icmp_eq (tg := 37) (n := 25) dX8_parts_22 (by decide) rfl (fun c_22 => by first | exact absurd rfl c_22 | exact absurd c_22 (by decide)) (fun _ => ?_)
    refine aw_iload_n (n := 26) dX8_parts_25 rfl rfl ?_
    refine aw_bipush (n := 28) (v := 17) dX8_parts_26 (by decide) rfl ?_
    refine aw_icmp_eq (tg := 37) (n := 31) dX8_parts_28 (by decide) rfl (fun c_28 => by first | exact absurd rfl c_28 | exact absurd c_28 (by decide)) (fun _ => ?_)
    refine aw_iload_n (n := 32) dX8_parts_31 rfl rfl ?_
    refine aw_bipush (n := 34) (v := 18) dX8_parts_32 (by decide) rfl ?_
    refine aw_icmp_ne (tg := 39) (n := 37) dX8_parts_34 (by decide) rfl (fun _ => ?_) (fun c_34 => by first | exact absurd rfl c_34 | exact absurd c_34 (by decide))
    refine aw_iload_n (n := 40) dX8_parts_39 rfl rfl ?_
    refine aw_bipush (n := 42) (v := 13) dX8_parts_40 (by decide) rfl ?_
    refine aw_icmp_eq (tg := 57) (n := 45) dX8_parts_42 (by decide) rfl (fun c_42 => by first | exact absurd rfl c_42 | exact absurd c_42 (by decide)) (fun _ => ?_)
    refine aw_iload_n (n := 46) dX8_parts_45 rfl rfl ?_
    refine aw_bipush (n := 48) (v := 15) dX8_parts_46 (by decide) rfl ?_
    refine aw_icmp_eq (tg := 57) (n := 51) dX8_parts_48 (by decide) rfl (fun c_48 => by first | exact absurd rfl c_48 | exact absurd c_48 (by decide)) (fun _ => ?_)
    refine aw_iload_n (n := 52) dX8_parts_51 rfl rfl ?_
    refine aw_bipush (n := 54) (v := 19) dX8_parts_52 (by decide) rfl ?_
    refine aw_icmp_ne (tg := 61) (n := 57) dX8_parts_54 (by decide) rfl (fun _ => ?_) (fun c_54 => by first | exact absurd rfl c_54 | exact absurd c_54 (by decide))
    refine aw_iconst (n := 62) (v := 2) dX8_parts_61 (by decide) rfl ?_
    refine aw_iret dX8_parts_62 rfl ?_
    dsimp only [aPush]
    refine aw_istore_n (n := 5) (L' := [_, _, _, _, _, _, _, _]) dX8_rows_4 (Nat.le_of_ble_eq_true rfl) rfl rfl ?_
    refine aw_aload_n (n := 6) dX8_rows_5 rfl rfl ?_
    refine aw_aload_n (n := 7) dX8_rows_6 rfl rfl ?_
    refine aw_iload_n (n := 8) dX8_rows_7 rfl rfl ?_
    refine aw_iload_n (n := 9) dX8_rows_8 rfl rfl ?_
    refine aw_bipush (n := 11) (v := 12) dX8_rows_9 (by decide) rfl ?_
    refine aw_icmp_ne (tg := 18) (n := 14) dX8_rows_11 (by decide) rfl (fun _ => ?_) (fun c_11 => by first | exact absurd rfl c_11 | exact absurd c_11 (by decide))
    refine aw_iconst (n := 19) (v := 1) dX8_rows_18 (by decide) rfl ?_
    refine aw_v2 (d1 := d - 1) (n := 22) (Z := mX8_wrong) (ci := 6) (L0 := [_, _, _]) dX8_rows_19 kX8_wrong gX8_141 iyX8_wrong eyX8_wrong rfl rfl E_164 rfl rfl (Nat.le_of_ble_eq_true rfl) rfl rfl (by omega) (Nat.le_of_ble_eq_true rfl) (m_wrong (need := 1) (by omega) (by decide) ha ?_)
    dsimp only [aPush]
    rw [ka]
    refine aw_puti (n := 25) dX8_rows_22 pX8_110 E_164 rfl rfl ?_
    rw [up2_id (x := nI 0) h20]
    refine aw_aload_n (n := 26) dX8_rows_25 rfl rfl ?_
    refine aw_aload_n (n := 27) dX8_rows_26 rfl rfl ?_
    refine aw_geti (n := 30) dX8_rows_27 fX8_110 E_164 rfl rfl ?_
    rw [h20]
    refine aw_if_ne (tg := 38) (n := 33) dX8_rows_30 (by decide) rfl (fun c_30 => by exact absurd rfl c_30) (fun c_30 => ?_)
    refine aw_iload_n (n := 34) dX8_rows_33 rfl rfl ?_
    refine aw_iconst (n := 35) (v := 2) dX8_rows_34 (by decide) rfl ?_
    refine aw_icmp_ge (tg := 45) (n := 38) dX8_rows_35 (by decide) rfl (fun _ => ?_) (fun c_35 => by first | exact absurd rfl c_35 | exact absurd c_35 (by decide))
    refine aw_aload_n (n := 46) dX8_rows_45 rfl rfl ?_
    refine aw_iload_n (n := 47) dX8_rows_46 rfl rfl ?_
    refine aw_iconst (n := 48) (v := 1) dX8_rows_47 (by decide) rfl ?_
    refine aw_iadd (n := 49) dX8_rows_48 rfl ?_
    rw [nI_1]
    refine aw_iload_n (n := 50) dX8_rows_49 rfl rfl ?_
    refine aw_bipush (n := 52) (v := 14) dX8_rows_50 (by decide) rfl ?_
    refine aw_icmp_ne (tg := 59) (n := 55) dX8_rows_52 (by decide) rfl (fun c_52 => by first | exact absurd rfl c_52 | exact absurd c_52 (by decide)) (fun _ => ?_)
    refine aw_iconst (n := 56) (v := 1) dX8_rows_55 (by decide) rfl ?_
    refine aw_goto (n := 60) dX8_rows_56 (by decide) ?_
    refine aw_v2 (d1 := d - 1) (n := 63) (Z := mX8_wrong) (ci := 6) (L0 := [_, _, _]) dX8_rows_60 kX8_wrong gX8_141 iyX8_wrong eyX8_wrong rfl rfl E_164 rfl rfl (Nat.le_of_ble_eq_true rfl) rfl rfl (by omega) (Nat.le_of_ble_eq_true rfl) (m_wrong (need := 1) (by omega) (by decide) hb ?_)
    dsimp only [aPush]
    refine aw_puti (n := 66) dX8_rows_63 pX8_110 E_164 rfl rfl ?_
    refine aw_aload_n (n := 67) dX8_rows_66 rfl rfl ?_
    refine aw_aload_n (n := 68) dX8_rows_67 rfl rfl ?_
    refine aw_geti (n := 71) dX8_rows_68 fX8_110 E_164 rfl rfl ?_
    rw [up2_s]
    refine aw_if_ne (tg := 79) (n := 74) dX8_rows_71 (by decide) rfl (fun c_71 => ?_) (fun c_71 => by exact absurd c_71 hnb)
    refine aw_aload_n (n := 80) dX8_rows_79 rfl rfl ?_
    refine aw_geti (n := 83) dX8_rows_80 fX8_110 E_164 rfl rfl ?_
    rw [up2_s]
    refine aw_goto (n := 94) dX8_rows_83 (by decide) ?_
    refine aw_puti (n := 97) dX8_rows_94 pX8_110 E_164 rfl rfl ?_
    rw [up2_up2]
    refine aw_aload_n (n := 98) dX8_rows_97 rfl rfl ?_
    refine aw_aload_n (n := 99) dX8_rows_98 rfl rfl ?_
    refine aw_geti (n := 102) dX8_rows_99 fX8_110 E_164 rfl rfl ?_
    rw [up2_s]
    refine aw_if_eq (tg := 112) (n := 105) dX8_rows_102 (by decide) rfl (fun c_102 => by exact absurd c_102 hnb) (fun c_102 => ?_)
    refine aw_aload_n (n := 106) dX8_rows_105 rfl rfl ?_
    refine aw_geti (n := 109) dX8_rows_106 fX8_110 E_164 rfl rfl ?_
    rw [up2_s]
    refine aw_goto (n := 138) dX8_rows_109 (by decide) ?_
    refine aw_puti (n := 141) dX8_rows_138 pX8_110 E_164 rfl rfl ?_
    rw [up2_up2]
    refine aw_aload_n (n := 142) dX8_rows_141 rfl rfl ?_
    refine aw_geti (n := 145) dX8_rows_142 fX8_110 E_164 rfl rfl ?_
    rw [up2_s]
    refine aw_if_eq (tg := 149) (n := 148) dX8_rows_145 (by decide) rfl (fun c_145 => by exact absurd c_145 hnb) (fun c_145 => ?_)
    refine aw_vret dX8_rows_148 rfl ?_
    exact thr_e hQ
  obtain ⟨s, rfl⟩ : ∃ z, vb = some (.inr z) := by
    rcases vb with _ | x9 | z
    · exact absurd kb (by decide)
    · exact absurd kb (by simp [lk, lk0])
    · exact ⟨z, rfl⟩
  obtain ⟨a1, hr, gx, pl, hpl, gp, hst⟩ := id ha
  obtain ⟨b1, hsl, gy, pm, hpm, gq, hsu⟩ := id hb
  have hQ : eQ mk M (if 16 < r.length + s.length then .inl 6 else .inr (some (.inr (r ++ s)))) Q := hQ
  by_cases hbad : 16 < r.length + s.length
  · rw [if_pos hbad] at hQ
    refine aw_iload_n (n := 1) dX8_rows_0 rfl rfl ?_
    refine aw_s1 (d1 := d - 1) (n := 4) (Z := mX8_parts) (L0 := [_]) dX8_rows_1 kX8_parts gX8_99 syX8_parts rfl (Nat.le_of_ble_eq_true rfl) rfl rfl (by omega) (Nat.le_of_ble_eq_true rfl) ?_
    refine aw_iload_n (n := 1) dX8_parts_0 rfl rfl ?_
    refine aw_iconst (n := 2) (v := 3) dX8_parts_1 (by decide) rfl ?_
    refine aw_icmp_ge (tg := 7) (n := 5) dX8_parts_2 (by decide) rfl (fun _ => ?_) (fun c_2 => by first | exact absurd rfl c_2 | exact absurd c_2 (by decide))
    refine aw_iload_n (n := 8) dX8_parts_7 rfl rfl ?_
    refine aw_bipush (n := 10) (v := 11) dX8_parts_8 (by decide) rfl ?_
    refine aw_icmp_eq (tg := 37) (n := 13) dX8_parts_10 (by decide) rfl (fun c_10 => by first | exact absurd rfl c_10 | exact absurd c_10 (by decide)) (fun _ => ?_)
    refine aw_iload_n (n := 14) dX8_parts_13 rfl rfl ?_
    refine aw_bipush (n := 16) (v := 12) dX8_parts_14 (by decide) rfl ?_
    refine aw_icmp_eq (tg := 37) (n := 19) dX8_parts_16 (by decide) rfl (fun c_16 => by first | exact absurd rfl c_16 | exact absurd c_16 (by decide)) (fun _ => ?_)
    refine aw_iload_n (n := 20) dX8_parts_19 rfl rfl ?_
    refine aw_bipush (n := 22) (v := 16) dX8_parts_20 (by decide) rfl ?_
    refine aw_icmp_eq (tg := 37) (n := 25) dX8_parts_22 (by decide) rfl (fun c_22 => by first | exact absurd rfl c_22 | exact absurd c_22 (by decide)) (fun _ => ?_)
    refine aw_iload_n (n := 26) dX8_parts_25 rfl rfl ?_
    refine aw_bipush (n := 28) (v := 17) dX8_parts_26 (by decide) rfl ?_
    refine aw_icmp_eq (tg := 37) (n := 31) dX8_parts_28 (by decide) rfl (fun c_28 => by first | exact absurd rfl c_28 | exact absurd c_28 (by decide)) (fun _ => ?_)
    refine aw_iload_n (n := 32) dX8_parts_31 rfl rfl ?_
    refine aw_bipush (n := 34) (v := 18) dX8_parts_32 (by decide) rfl ?_
    refine aw_icmp_ne (tg := 39) (n := 37) dX8_parts_34 (by decide) rfl (fun _ => ?_) (fun c_34 => by first | exact absurd rfl c_34 | exact absurd c_34 (by decide))
    refine aw_iload_n (n := 40) dX8_parts_39 rfl rfl ?_
    refine aw_bipush (n := 42) (v := 13) dX8_parts_40 (by decide) rfl ?_
    refine aw_icmp_eq (tg := 57) (n := 45) dX8_parts_42 (by decide) rfl (fun c_42 => by first | exact absurd rfl c_42 | exact absurd c_42 (by decide)) (fun _ => ?_)
    refine aw_iload_n (n := 46) dX8_parts_45 rfl rfl ?_
    refine aw_bipush (n := 48) (v := 15) dX8_parts_46 (by decide) rfl ?_
    refine aw_icmp_eq (tg := 57) (n := 51) dX8_parts_48 (by decide) rfl (fun c_48 => by first | exact absurd rfl c_48 | exact absurd c_48 (by decide)) (fun _ => ?_)
    refine aw_iload_n (n := 52) dX8_parts_51 rfl rfl ?_
    refine aw_bipush (n := 54) (v := 19) dX8_parts_52 (by decide) rfl ?_
    refine aw_icmp_ne (tg := 61) (n := 57) dX8_parts_54 (by decide) rfl (fun _ => ?_) (fun c_54 => by first | exact absurd rfl c_54 | exact absurd c_54 (by decide))
    refine aw_iconst (n := 62) (v := 2) dX8_parts_61 (by decide) rfl ?_
    refine aw_iret dX8_parts_62 rfl ?_
    dsimp only [aPush]
    refine aw_istore_n (n := 5) (L' := [_, _, _, _, _, _, _, _]) dX8_rows_4 (Nat.le_of_ble_eq_true rfl) rfl rfl ?_
    refine aw_aload_n (n := 6) dX8_rows_5 rfl rfl ?_
    refine aw_aload_n (n := 7) dX8_rows_6 rfl rfl ?_
    refine aw_iload_n (n := 8) dX8_rows_7 rfl rfl ?_
    refine aw_iload_n (n := 9) dX8_rows_8 rfl rfl ?_
    refine aw_bipush (n := 11) (v := 12) dX8_rows_9 (by decide) rfl ?_
    refine aw_icmp_ne (tg := 18) (n := 14) dX8_rows_11 (by decide) rfl (fun _ => ?_) (fun c_11 => by first | exact absurd rfl c_11 | exact absurd c_11 (by decide))
    refine aw_iconst (n := 19) (v := 1) dX8_rows_18 (by decide) rfl ?_
    refine aw_v2 (d1 := d - 1) (n := 22) (Z := mX8_wrong) (ci := 6) (L0 := [_, _, _]) dX8_rows_19 kX8_wrong gX8_141 iyX8_wrong eyX8_wrong rfl rfl E_164 rfl rfl (Nat.le_of_ble_eq_true rfl) rfl rfl (by omega) (Nat.le_of_ble_eq_true rfl) (m_wrong (need := 1) (by omega) (by decide) ha ?_)
    dsimp only [aPush]
    rw [ka]
    refine aw_puti (n := 25) dX8_rows_22 pX8_110 E_164 rfl rfl ?_
    rw [up2_id (x := nI 0) h20]
    refine aw_aload_n (n := 26) dX8_rows_25 rfl rfl ?_
    refine aw_aload_n (n := 27) dX8_rows_26 rfl rfl ?_
    refine aw_geti (n := 30) dX8_rows_27 fX8_110 E_164 rfl rfl ?_
    rw [h20]
    refine aw_if_ne (tg := 38) (n := 33) dX8_rows_30 (by decide) rfl (fun c_30 => by exact absurd rfl c_30) (fun c_30 => ?_)
    refine aw_iload_n (n := 34) dX8_rows_33 rfl rfl ?_
    refine aw_iconst (n := 35) (v := 2) dX8_rows_34 (by decide) rfl ?_
    refine aw_icmp_ge (tg := 45) (n := 38) dX8_rows_35 (by decide) rfl (fun _ => ?_) (fun c_35 => by first | exact absurd rfl c_35 | exact absurd c_35 (by decide))
    refine aw_aload_n (n := 46) dX8_rows_45 rfl rfl ?_
    refine aw_iload_n (n := 47) dX8_rows_46 rfl rfl ?_
    refine aw_iconst (n := 48) (v := 1) dX8_rows_47 (by decide) rfl ?_
    refine aw_iadd (n := 49) dX8_rows_48 rfl ?_
    rw [nI_1]
    refine aw_iload_n (n := 50) dX8_rows_49 rfl rfl ?_
    refine aw_bipush (n := 52) (v := 14) dX8_rows_50 (by decide) rfl ?_
    refine aw_icmp_ne (tg := 59) (n := 55) dX8_rows_52 (by decide) rfl (fun c_52 => by first | exact absurd rfl c_52 | exact absurd c_52 (by decide)) (fun _ => ?_)
    refine aw_iconst (n := 56) (v := 1) dX8_rows_55 (by decide) rfl ?_
    refine aw_goto (n := 60) dX8_rows_56 (by decide) ?_
    refine aw_v2 (d1 := d - 1) (n := 63) (Z := mX8_wrong) (ci := 6) (L0 := [_, _, _]) dX8_rows_60 kX8_wrong gX8_141 iyX8_wrong eyX8_wrong rfl rfl E_164 rfl rfl (Nat.le_of_ble_eq_true rfl) rfl rfl (by omega) (Nat.le_of_ble_eq_true rfl) (m_wrong (need := 1) (by omega) (by decide) hb ?_)
    dsimp only [aPush]
    rw [kb]
    refine aw_puti (n := 66) dX8_rows_63 pX8_110 E_164 rfl rfl ?_
    rw [up2_id (x := nI 0) h20]
    refine aw_aload_n (n := 67) dX8_rows_66 rfl rfl ?_
    refine aw_aload_n (n := 68) dX8_rows_67 rfl rfl ?_
    refine aw_geti (n := 71) dX8_rows_68 fX8_110 E_164 rfl rfl ?_
    rw [h20]
    refine aw_if_ne (tg := 79) (n := 74) dX8_rows_71 (by decide) rfl (fun c_71 => by exact absurd rfl c_71) (fun c_71 => ?_)
    refine aw_iload_n (n := 75) dX8_rows_74 rfl rfl ?_
    refine aw_iconst (n := 76) (v := 3) dX8_rows_75 (by decide) rfl ?_
    refine aw_icmp_ge (tg := 86) (n := 79) dX8_rows_76 (by decide) rfl (fun c_76 => by first | exact absurd rfl c_76 | exact absurd c_76 (by decide)) (fun _ => ?_)
    refine aw_aload_n (n := 80) dX8_rows_79 rfl rfl ?_
    refine aw_geti (n := 83) dX8_rows_80 fX8_110 E_164 rfl rfl ?_
    refine aw_goto (n := 94) dX8_rows_83 (by decide) ?_
    refine aw_puti (n := 97) dX8_rows_94 pX8_110 E_164 rfl rfl ?_
    rw [up2_self]
    refine aw_aload_n (n := 98) dX8_rows_97 rfl rfl ?_
    refine aw_aload_n (n := 99) dX8_rows_98 rfl rfl ?_
    refine aw_geti (n := 102) dX8_rows_99 fX8_110 E_164 rfl rfl ?_
    rw [h20]
    refine aw_if_eq (tg := 112) (n := 105) dX8_rows_102 (by decide) rfl (fun c_102 => ?_) (fun c_102 => by exact absurd rfl c_102)
    refine aw_iload_n (n := 113) dX8_rows_112 rfl rfl ?_
    refine aw_aload_n (n := 114) dX8_rows_113 rfl rfl ?_
    refine aw_getr (n := 117) dX8_rows_114 fX8_43 E_164 rfl rfl ?_
    refine aw_iload_n (n := 118) dX8_rows_117 rfl rfl ?_
    refine aw_iald (n := 119) dX8_rows_118 E_176 (by assumption) rfl ?_
    refine aw_aload_n (n := 120) dX8_rows_119 rfl rfl ?_
    refine aw_getr (n := 123) dX8_rows_120 fX8_43 E_164 rfl rfl ?_
    refine aw_iload_n (n := 124) dX8_rows_123 rfl rfl ?_
    refine aw_iconst (n := 125) (v := 1) dX8_rows_124 (by decide) rfl ?_
    refine aw_iadd (n := 126) dX8_rows_125 rfl ?_
    rw [nI_1]
    refine aw_iald (n := 127) dX8_rows_126 E_176 (by assumption) rfl ?_
    refine aw_aload_n (n := 128) dX8_rows_127 rfl rfl ?_
    refine aw_getr (n := 131) dX8_rows_128 fX8_43 E_164 rfl rfl ?_
    refine aw_iload_n (n := 132) dX8_rows_131 rfl rfl ?_
    refine aw_iconst (n := 133) (v := 2) dX8_rows_132 (by decide) rfl ?_
    refine aw_iadd (n := 134) dX8_rows_133 rfl ?_
    rw [show (2 : Int32) = nI 2 from rfl, nI_add]
    refine aw_iald (n := 135) dX8_rows_134 E_176 (by assumption) rfl ?_
    rw [haa, hbb, hcc, gx, gy]
    refine aw_s4 (d1 := d - 1) (n := 138) (Z := mX8_refused) (L0 := [_, _, _, _]) dX8_rows_135 kX8_refused gX8_164 syX8_refused rfl rfl rfl rfl (Nat.le_of_ble_eq_true rfl) rfl rfl (by omega) (Nat.le_of_ble_eq_true rfl) ?_
    refine aw_iload_n (n := 1) dX8_refused_0 rfl rfl ?_
    refine aw_tswIn (n := 76) (off := 75) dX8_refused_1 (by decide) (by decide) (by decide) (by decide) ?_
    refine aw_iload_n (n := 77) dX8_refused_76 rfl rfl ?_
    refine aw_iload_n (n := 78) dX8_refused_77 rfl rfl ?_
    refine aw_iadd (n := 79) dX8_refused_78 rfl ?_
    rw [nI_add]
    refine aw_bipush (n := 81) (v := 16) dX8_refused_79 (by decide) rfl ?_
    refine aw_icmp_le (tg := 89) (n := 84) dX8_refused_81 (by decide) rfl (fun c_81 => by exact absurd c_81 (nI_ge (a := 16) hbad (by omega))) (fun c_81 => ?_)
    refine aw_bipush (n := 86) (v := 6) dX8_refused_84 (by decide) rfl ?_
    refine aw_goto (n := 90) dX8_refused_86 (by decide) ?_
    refine aw_iret dX8_refused_90 rfl ?_
    dsimp only [aPush]
    refine aw_puti (n := 141) dX8_rows_138 pX8_110 E_164 rfl rfl ?_
    refine aw_aload_n (n := 142) dX8_rows_141 rfl rfl ?_
    refine aw_geti (n := 145) dX8_rows_142 fX8_110 E_164 rfl rfl ?_
    rw [up2_s]
    refine aw_if_eq (tg := 149) (n := 148) dX8_rows_145 (by decide) rfl (fun c_145 => by exact absurd c_145 (by decide)) (fun c_145 => ?_)
    refine aw_vret dX8_rows_148 rfl ?_
    exact thr_e (k := 6) hQ
  rw [if_neg hbad] at hQ
  refine aw_iload_n (n := 1) dX8_rows_0 rfl rfl ?_
  refine aw_s1 (d1 := d - 1) (n := 4) (Z := mX8_parts) (L0 := [_]) dX8_rows_1 kX8_parts gX8_99 syX8_parts rfl (Nat.le_of_ble_eq_true rfl) rfl rfl (by omega) (Nat.le_of_ble_eq_true rfl) ?_
  refine aw_iload_n (n := 1) dX8_parts_0 rfl rfl ?_
  refine aw_iconst (n := 2) (v := 3) dX8_parts_1 (by decide) rfl ?_
  refine aw_icmp_ge (tg := 7) (n := 5) dX8_parts_2 (by decide) rfl (fun _ => ?_) (fun c_2 => by first | exact absurd rfl c_2 | exact absurd c_2 (by decide))
  refine aw_iload_n (n := 8) dX8_parts_7 rfl rfl ?_
  refine aw_bipush (n := 10) (v := 11) dX8_parts_8 (by decide) rfl ?_
  refine aw_icmp_eq (tg := 37) (n := 13) dX8_parts_10 (by decide) rfl (fun c_10 => by first | exact absurd rfl c_10 | exact absurd c_10 (by decide)) (fun _ => ?_)
  refine aw_iload_n (n := 14) dX8_parts_13 rfl rfl ?_
  refine aw_bipush (n := 16) (v := 12) dX8_parts_14 (by decide) rfl ?_
  refine aw_icmp_eq (tg := 37) (n := 19) dX8_parts_16 (by decide) rfl (fun c_16 => by first | exact absurd rfl c_16 | exact absurd c_16 (by decide)) (fun _ => ?_)
  refine aw_iload_n (n := 20) dX8_parts_19 rfl rfl ?_
  refine aw_bipush (n := 22) (v := 16) dX8_parts_20 (by decide) rfl ?_
  refine aw_icmp_eq (tg := 37) (n := 25) dX8_parts_22 (by decide) rfl (fun c_22 => by first | exact absurd rfl c_22 | exact absurd c_22 (by decide)) (fun _ => ?_)
  refine aw_iload_n (n := 26) dX8_parts_25 rfl rfl ?_
  refine aw_bipush (n := 28) (v := 17) dX8_parts_26 (by decide) rfl ?_
  refine aw_icmp_eq (tg := 37) (n := 31) dX8_parts_28 (by decide) rfl (fun c_28 => by first | exact absurd rfl c_28 | exact absurd c_28 (by decide)) (fun _ => ?_)
  refine aw_iload_n (n := 32) dX8_parts_31 rfl rfl ?_
  refine aw_bipush (n := 34) (v := 18) dX8_parts_32 (by decide) rfl ?_
  refine aw_icmp_ne (tg := 39) (n := 37) dX8_parts_34 (by decide) rfl (fun _ => ?_) (fun c_34 => by first | exact absurd rfl c_34 | exact absurd c_34 (by decide))
  refine aw_iload_n (n := 40) dX8_parts_39 rfl rfl ?_
  refine aw_bipush (n := 42) (v := 13) dX8_parts_40 (by decide) rfl ?_
  refine aw_icmp_eq (tg := 57) (n := 45) dX8_parts_42 (by decide) rfl (fun c_42 => by first | exact absurd rfl c_42 | exact absurd c_42 (by decide)) (fun _ => ?_)
  refine aw_iload_n (n := 46) dX8_parts_45 rfl rfl ?_
  refine aw_bipush (n := 48) (v := 15) dX8_parts_46 (by decide) rfl ?_
  refine aw_icmp_eq (tg := 57) (n := 51) dX8_parts_48 (by decide) rfl (fun c_48 => by first | exact absurd rfl c_48 | exact absurd c_48 (by decide)) (fun _ => ?_)
  refine aw_iload_n (n := 52) dX8_parts_51 rfl rfl ?_
  refine aw_bipush (n := 54) (v := 19) dX8_parts_52 (by decide) rfl ?_
  refine aw_icmp_ne (tg := 61) (n := 57) dX8_parts_54 (by decide) rfl (fun _ => ?_) (fun c_54 => by first | exact absurd rfl c_54 | exact absurd c_54 (by decide))
  refine aw_iconst (n := 62) (v := 2) dX8_parts_61 (by decide) rfl ?_
  refine aw_iret dX8_parts_62 rfl ?_
  dsimp only [aPush]
  refine aw_istore_n (n := 5) (L' := [_, _, _, _, _, _, _, _]) dX8_rows_4 (Nat.le_of_ble_eq_true rfl) rfl rfl ?_
  refine aw_aload_n (n := 6) dX8_rows_5 rfl rfl ?_
  refine aw_aload_n (n := 7) dX8_rows_6 rfl rfl ?_
  refine aw_iload_n (n := 8) dX8_rows_7 rfl rfl ?_
  refine aw_iload_n (n := 9) dX8_rows_8 rfl rfl ?_
  refine aw_bipush (n := 11) (v := 12) dX8_rows_9 (by decide) rfl ?_
  refine aw_icmp_ne (tg := 18) (n := 14) dX8_rows_11 (by decide) rfl (fun _ => ?_) (fun c_11 => by first | exact absurd rfl c_11 | exact absurd c_11 (by decide))
  refine aw_iconst (n := 19) (v := 1) dX8_rows_18 (by decide) rfl ?_
  refine aw_v2 (d1 := d - 1) (n := 22) (Z := mX8_wrong) (ci := 6) (L0 := [_, _, _]) dX8_rows_19 kX8_wrong gX8_141 iyX8_wrong eyX8_wrong rfl rfl E_164 rfl rfl (Nat.le_of_ble_eq_true rfl) rfl rfl (by omega) (Nat.le_of_ble_eq_true rfl) (m_wrong (need := 1) (by omega) (by decide) ha ?_)
  dsimp only [aPush]
  rw [ka]
  refine aw_puti (n := 25) dX8_rows_22 pX8_110 E_164 rfl rfl ?_
  rw [up2_id (x := nI 0) h20]
  refine aw_aload_n (n := 26) dX8_rows_25 rfl rfl ?_
  refine aw_aload_n (n := 27) dX8_rows_26 rfl rfl ?_
  refine aw_geti (n := 30) dX8_rows_27 fX8_110 E_164 rfl rfl ?_
  rw [h20]
  refine aw_if_ne (tg := 38) (n := 33) dX8_rows_30 (by decide) rfl (fun c_30 => by exact absurd rfl c_30) (fun c_30 => ?_)
  refine aw_iload_n (n := 34) dX8_rows_33 rfl rfl ?_
  refine aw_iconst (n := 35) (v := 2) dX8_rows_34 (by decide) rfl ?_
  refine aw_icmp_ge (tg := 45) (n := 38) dX8_rows_35 (by decide) rfl (fun _ => ?_) (fun c_35 => by first | exact absurd rfl c_35 | exact absurd c_35 (by decide))
  refine aw_aload_n (n := 46) dX8_rows_45 rfl rfl ?_
  refine aw_iload_n (n := 47) dX8_rows_46 rfl rfl ?_
  refine aw_iconst (n := 48) (v := 1) dX8_rows_47 (by decide) rfl ?_
  refine aw_iadd (n := 49) dX8_rows_48 rfl ?_
  rw [nI_1]
  refine aw_iload_n (n := 50) dX8_rows_49 rfl rfl ?_
  refine aw_bipush (n := 52) (v := 14) dX8_rows_50 (by decide) rfl ?_
  refine aw_icmp_ne (tg := 59) (n := 55) dX8_rows_52 (by decide) rfl (fun c_52 => by first | exact absurd rfl c_52 | exact absurd c_52 (by decide)) (fun _ => ?_)
  refine aw_iconst (n := 56) (v := 1) dX8_rows_55 (by decide) rfl ?_
  refine aw_goto (n := 60) dX8_rows_56 (by decide) ?_
  refine aw_v2 (d1 := d - 1) (n := 63) (Z := mX8_wrong) (ci := 6) (L0 := [_, _, _]) dX8_rows_60 kX8_wrong gX8_141 iyX8_wrong eyX8_wrong rfl rfl E_164 rfl rfl (Nat.le_of_ble_eq_true rfl) rfl rfl (by omega) (Nat.le_of_ble_eq_true rfl) (m_wrong (need := 1) (by omega) (by decide) hb ?_)
  dsimp only [aPush]
  rw [kb]
  refine aw_puti (n := 66) dX8_rows_63 pX8_110 E_164 rfl rfl ?_
  rw [up2_id (x := nI 0) h20]
  refine aw_aload_n (n := 67) dX8_rows_66 rfl rfl ?_
  refine aw_aload_n (n := 68) dX8_rows_67 rfl rfl ?_
  refine aw_geti (n := 71) dX8_rows_68 fX8_110 E_164 rfl rfl ?_
  rw [h20]
  refine aw_if_ne (tg := 79) (n := 74) dX8_rows_71 (by decide) rfl (fun c_71 => by exact absurd rfl c_71) (fun c_71 => ?_)
  refine aw_iload_n (n := 75) dX8_rows_74 rfl rfl ?_
  refine aw_iconst (n := 76) (v := 3) dX8_rows_75 (by decide) rfl ?_
  refine aw_icmp_ge (tg := 86) (n := 79) dX8_rows_76 (by decide) rfl (fun c_76 => by first | exact absurd rfl c_76 | exact absurd c_76 (by decide)) (fun _ => ?_)
  refine aw_aload_n (n := 80) dX8_rows_79 rfl rfl ?_
  refine aw_geti (n := 83) dX8_rows_80 fX8_110 E_164 rfl rfl ?_
  refine aw_goto (n := 94) dX8_rows_83 (by decide) ?_
  refine aw_puti (n := 97) dX8_rows_94 pX8_110 E_164 rfl rfl ?_
  rw [up2_self]
  refine aw_aload_n (n := 98) dX8_rows_97 rfl rfl ?_
  refine aw_aload_n (n := 99) dX8_rows_98 rfl rfl ?_
  refine aw_geti (n := 102) dX8_rows_99 fX8_110 E_164 rfl rfl ?_
  rw [h20]
  refine aw_if_eq (tg := 112) (n := 105) dX8_rows_102 (by decide) rfl (fun c_102 => ?_) (fun c_102 => by exact absurd rfl c_102)
  refine aw_iload_n (n := 113) dX8_rows_112 rfl rfl ?_
  refine aw_aload_n (n := 114) dX8_rows_113 rfl rfl ?_
  refine aw_getr (n := 117) dX8_rows_114 fX8_43 E_164 rfl rfl ?_
  refine aw_iload_n (n := 118) dX8_rows_117 rfl rfl ?_
  refine aw_iald (n := 119) dX8_rows_118 E_176 (by assumption) rfl ?_
  refine aw_aload_n (n := 120) dX8_rows_119 rfl rfl ?_
  refine aw_getr (n := 123) dX8_rows_120 fX8_43 E_164 rfl rfl ?_
  refine aw_iload_n (n := 124) dX8_rows_123 rfl rfl ?_
  refine aw_iconst (n := 125) (v := 1) dX8_rows_124 (by decide) rfl ?_
  refine aw_iadd (n := 126) dX8_rows_125 rfl ?_
  rw [nI_1]
  refine aw_iald (n := 127) dX8_rows_126 E_176 (by assumption) rfl ?_
  refine aw_aload_n (n := 128) dX8_rows_127 rfl rfl ?_
  refine aw_getr (n := 131) dX8_rows_128 fX8_43 E_164 rfl rfl ?_
  refine aw_iload_n (n := 132) dX8_rows_131 rfl rfl ?_
  refine aw_iconst (n := 133) (v := 2) dX8_rows_132 (by decide) rfl ?_
  refine aw_iadd (n := 134) dX8_rows_133 rfl ?_
  rw [show (2 : Int32) = nI 2 from rfl, nI_add]
  refine aw_iald (n := 135) dX8_rows_134 E_176 (by assumption) rfl ?_
  rw [haa, hbb, hcc, gx, gy]
  refine aw_s4 (d1 := d - 1) (n := 138) (Z := mX8_refused) (L0 := [_, _, _, _]) dX8_rows_135 kX8_refused gX8_164 syX8_refused rfl rfl rfl rfl (Nat.le_of_ble_eq_true rfl) rfl rfl (by omega) (Nat.le_of_ble_eq_true rfl) ?_
  refine aw_iload_n (n := 1) dX8_refused_0 rfl rfl ?_
  refine aw_tswIn (n := 76) (off := 75) dX8_refused_1 (by decide) (by decide) (by decide) (by decide) ?_
  refine aw_iload_n (n := 77) dX8_refused_76 rfl rfl ?_
  refine aw_iload_n (n := 78) dX8_refused_77 rfl rfl ?_
  refine aw_iadd (n := 79) dX8_refused_78 rfl ?_
  rw [nI_add]
  refine aw_bipush (n := 81) (v := 16) dX8_refused_79 (by decide) rfl ?_
  refine aw_icmp_le (tg := 89) (n := 84) dX8_refused_81 (by decide) rfl (fun c_81 => ?_) (fun c_81 => by exact absurd (nI_le (b := 16) (by omega) (by decide)) c_81)
  refine aw_iconst (n := 90) (v := 0) dX8_refused_89 (by decide) rfl ?_
  refine aw_iret dX8_refused_90 rfl ?_
  dsimp only [aPush]
  refine aw_puti (n := 141) dX8_rows_138 pX8_110 E_164 rfl rfl ?_
  rw [up2_id (x := 0) h20]
  refine aw_aload_n (n := 142) dX8_rows_141 rfl rfl ?_
  refine aw_geti (n := 145) dX8_rows_142 fX8_110 E_164 rfl rfl ?_
  rw [h20]
  refine aw_if_eq (tg := 149) (n := 148) dX8_rows_145 (by decide) rfl (fun c_145 => ?_) (fun c_145 => by exact absurd rfl c_145)
  refine aw_bipush (n := 151) (v := 16) dX8_rows_149 (by decide) rfl ?_
  refine aw_aload_n (n := 152) dX8_rows_151 rfl rfl ?_
  refine aw_getr (n := 155) dX8_rows_152 fX8_46 E_164 rfl rfl ?_
  refine aw_iload_n (n := 156) dX8_rows_155 rfl rfl ?_
  refine aw_iald (n := 157) dX8_rows_156 E_177 (by assumption) rfl ?_
  rw [haa, gp]
  refine aw_imul (n := 158) dX8_rows_157 rfl ?_
  rw [show (16 : Int32) = nI 16 from rfl, pk_mul]
  refine aw_istore (n := 160) (L' := [_, _, _, _, _, _, _, _]) dX8_rows_158 (Nat.le_of_ble_eq_true rfl) rfl rfl ?_
  refine aw_aload_n (n := 161) dX8_rows_160 rfl rfl ?_
  refine aw_getr (n := 164) dX8_rows_161 fX8_43 E_164 rfl rfl ?_
  refine aw_iload_n (n := 165) dX8_rows_164 rfl rfl ?_
  refine aw_iald (n := 166) dX8_rows_165 E_176 (by assumption) rfl ?_
  rw [haa, gx]
  refine aw_istore (n := 168) (L' := [_, _, _, _, _, _, _, _]) dX8_rows_166 (Nat.le_of_ble_eq_true rfl) rfl rfl ?_
  refine aw_iload_n (n := 169) dX8_rows_168 rfl rfl ?_
  refine aw_lsw (n := 273) (off := 104) dX8_rows_169 (by decide) (by decide) (by decide) ?_
  refine aw_aload_n (n := 274) dX8_rows_273 rfl rfl ?_
  refine aw_iload_n (n := 275) dX8_rows_274 rfl rfl ?_
  refine aw_iload_n (n := 276) dX8_rows_275 rfl rfl ?_
  refine aw_iload (n := 278) dX8_rows_276 rfl rfl ?_
  refine aw_iload (n := 280) dX8_rows_278 rfl rfl ?_
  refine aw_v4 (d1 := d - 1) (n := 283) (Z := mX8_rowOf) (ci := 6) (L0 := [_, _, _, _, _, .null, .null, .null, .null, .null, .null, .null, .null]) dX8_rows_280 kX8_rowOf gX8_168 iyX8_rowOf eyX8_rowOf rfl rfl E_164 rfl rfl rfl rfl (Nat.le_of_ble_eq_true rfl) rfl rfl (by omega) (Nat.le_of_ble_eq_true rfl) (m_rowOf14 (by omega) hmk ht h20 h22 hr hpl hst (by omega) hpm hsu gy gq (eQ_inr fun mk1 M1 e2 e3 e4 e5 e6 e7 => ?_))
  dsimp only [aPush]
  refine aw_vret dX8_rows_283 rfl ?_
  exact hQ.2 _ mk1 M1 rfl e2 e3 e4 e5 e6 e7
theorem m_rows15 {mk t : Nat} {n0 : Int32} {inp : Nat → vV} {va vb vc : vV} (hd : 3 ≤ d) (hmk : mk < 60) (ht : t < 60) (h20 : M 164 20 = 0) (h22 : M 164 22 = nI mk) (ha : gV M mk (3 * t) va) (hb : gV M mk (3 * t + 1) vb) (hc : gV M mk (3 * t + 2) vc) (hQ : eQ mk M (op 15 n0 inp va vb vc) Q) : aw l K mX8_rows d 0 0 0 [.ref 164, .int (nI 15), .int (nI (3 * t)), .null, .null, .null, .null, .null] [] EE M Q := by
  have e164 := E_164
  have e176 := E_176
  have e177 := E_177
  have e178 := E_178
  have hina : vp_in (nI (3 * t)) 183 := vp_in_nI (by omega) (by decide)
  have hinb : vp_in (nI (3 * t + 1)) 183 := vp_in_nI (by omega) (by decide)
  have hinc : vp_in (nI (3 * t + 2)) 183 := vp_in_nI (by omega) (by decide)
  have haa : (nI (3 * t)).toNatClampNeg = 3 * t := nI_clamp (by omega)
  have hbb : (nI (3 * t + 1)).toNatClampNeg = 3 * t + 1 := nI_clamp (by omega)
  have hcc : (nI (3 * t + 2)).toNatClampNeg = 3 * t + 2 := nI_clamp (by omega)
  by_cases ka : lk 1 va = 0
  rotate_left
  · have hna : ¬ nI (lk 1 va) = 0 := nI_ne0 (by omega) (by have := lk_lt 1 va; omega)
    have hr : op 15 n0 inp va vb vc = .inl (lk 1 va) := by
      rcases va with _ | z | z
      · rfl
      · rfl
      · exact absurd rfl ka
    rw [hr] at hQ
    refine aw_iload_n (n := 1) dX8_rows_0 rfl rfl ?_
    refine aw_s1 (d1 := d - 1) (n := 4) (Z := mX8_parts) (L0 := [_]) dX8_rows_1 kX8_parts gX8_99 syX8_parts rfl (Nat.le_of_ble_eq_true rfl) rfl rfl (by omega) (Nat.le_of_ble_eq_true rfl) ?_
    refine aw_iload_n (n := 1) dX8_parts_0 rfl rfl ?_
    refine aw_iconst (n := 2) (v := 3) dX8_parts_1 (by decide) rfl ?_
    refine aw_icmp_ge (tg := 7) (n := 5) dX8_parts_2 (by decide) rfl (fun _ => ?_) (fun c_2 => by first | exact absurd rfl c_2 | exact absurd c_2 (by decide))
    refine aw_iload_n (n := 8) dX8_parts_7 rfl rfl ?_
    refine aw_bipush (n := 10) (v := 11) dX8_parts_8 (by decide) rfl ?_
    refine aw_icmp_eq (tg := 37) (n := 13) dX8_parts_10 (by decide) rfl (fun c_10 => by first | exact absurd rfl c_10 | exact absurd c_10 (by decide)) (fun _ => ?_)
    refine aw_iload_n (n := 14) dX8_parts_13 rfl rfl ?_
    refine aw_bipush (n := 16) (v := 12) dX8_parts_14 (by decide) rfl ?_
    refine aw_icmp_eq (tg := 37) (n := 19) dX8_parts_16 (by decide) rfl (fun c_16 => by first | exact absurd rfl c_16 | exact absurd c_16 (by decide)) (fun _ => ?_)
    refine aw_iload_n (n := 20) dX8_parts_19 rfl rfl ?_
    refine aw_bipush (n := 22) (v := 16) dX8_parts_20 (by decide) rfl ?_
    refine aw_icmp_eq (tg := 37) (n := 25) dX8_parts_22 (by decide) rfl (fun c_22 => by first | exact absurd rfl c_22 | exact absurd c_22 (by decide)) (fun _ => ?_)
    refine aw_iload_n (n := 26) dX8_parts_25 rfl rfl ?_
    refine aw_bipush (n := 28) (v := 17) dX8_parts_26 (by decide) rfl ?_
    refine aw_icmp_eq (tg := 37) (n := 31) dX8_parts_28 (by decide) rfl (fun c_28 => by first | exact absurd rfl c_28 | exact absurd c_28 (by decide)) (fun _ => ?_)
    refine aw_iload_n (n := 32) dX8_parts_31 rfl rfl ?_
    refine aw_bipush (n := 34) (v := 18) dX8_parts_32 (by decide) rfl ?_
    refine aw_icmp_ne (tg := 39) (n := 37) dX8_parts_34 (by decide) rfl (fun _ => ?_) (fun c_34 => by first | exact absurd rfl c_34 | exact absurd c_34 (by decide))
    refine aw_iload_n (n := 40) dX8_parts_39 rfl rfl ?_
    refine aw_bipush (n := 42) (v := 13) dX8_parts_40 (by decide) rfl ?_
    refine aw_icmp_eq (tg := 57) (n := 45) dX8_parts_42 (by decide) rfl (fun c_42 => by first | exact absurd rfl c_42 | exact absurd c_42 (by decide)) (fun _ => ?_)
    refine aw_iload_n (n := 46) dX8_parts_45 rfl rfl ?_
    refine aw_bipush (n := 48) (v := 15) dX8_parts_46 (by decide) rfl ?_
    refine aw_icmp_eq (tg := 57) (n := 51) dX8_parts_48 (by decide) rfl (fun _ => ?_) (fun c_48 => by first | exact absurd rfl c_48 | exact absurd c_48 (by decide))
    refine aw_iconst (n := 58) (v := 3) dX8_parts_57 (by decide) rfl ?_
    refine aw_goto (n := 62) dX8_parts_58 (by decide) ?_
    refine aw_iret dX8_parts_62 rfl ?_
    dsimp only [aPush]
    refine aw_istore_n (n := 5) (L' := [_, _, _, _, _, _, _, _]) dX8_rows_4 (Nat.le_of_ble_eq_true rfl) rfl rfl ?_
    refine aw_aload_n (n := 6) dX8_rows_5 rfl rfl ?_
    refine aw_aload_n (n := 7) dX8_rows_6 rfl rfl ?_
    refine aw_iload_n (n := 8) dX8_rows_7 rfl rfl ?_
    refine aw_iload_n (n := 9) dX8_rows_8 rfl rfl ?_
    refine aw_bipush (n := 11) (v := 12) dX8_rows_9 (by decide) rfl ?_
    refine aw_icmp_ne (tg := 18) (n := 14) dX8_rows_11 (by decide) rfl (fun _ => ?_) (fun c_11 => by first | exact absurd rfl c_11 | exact absurd c_11 (by decide))
    refine aw_iconst (n := 19) (v := 1) dX8_rows_18 (by decide) rfl ?_
    refine aw_v2 (d1 := d - 1) (n := 22) (Z := mX8_wrong) (ci := 6) (L0 := [_, _, _]) dX8_rows_19 kX8_wrong gX8_141 iyX8_wrong eyX8_wrong rfl rfl E_164 rfl rfl (Nat.le_of_ble_eq_true rfl) rfl rfl (by omega) (Nat.le_of_ble_eq_true rfl) (m_wrong (need := 1) (by omega) (by decide) ha ?_)
    dsimp only [aPush]
    refine aw_puti (n := 25) dX8_rows_22 pX8_110 E_164 rfl rfl ?_
    refine aw_aload_n (n := 26) dX8_rows_25 rfl rfl ?_
    refine aw_aload_n (n := 27) dX8_rows_26 rfl rfl ?_
    refine aw_geti (n := 30) dX8_rows_27 fX8_110 E_164 rfl rfl ?_
    rw [up2_s]
    refine aw_if_ne (tg := 38) (n := 33) dX8_rows_30 (by decide) rfl (fun c_30 => ?_) (fun c_30 => by exact absurd c_30 hna)
    refine aw_aload_n (n := 39) dX8_rows_38 rfl rfl ?_
    refine aw_geti (n := 42) dX8_rows_39 fX8_110 E_164 rfl rfl ?_
    rw [up2_s]
    refine aw_goto (n := 63) dX8_rows_42 (by decide) ?_
    refine aw_puti (n := 66) dX8_rows_63 pX8_110 E_164 rfl rfl ?_
    rw [up2_up2]
    refine aw_aload_n (n := 67) dX8_rows_66 rfl rfl ?_
    refine aw_aload_n (n := 68) dX8_rows_67 rfl rfl ?_
    refine aw_geti (n := 71) dX8_rows_68 fX8_110 E_164 rfl rfl ?_
    rw [up2_s]
    refine aw_if_ne (tg := 79) (n := 74) dX8_rows_71 (by decide) rfl (fun c_71 => ?_) (fun c_71 => by exact absurd c_71 hna)
    refine aw_aload_n (n := 80) dX8_rows_79 rfl rfl ?_
    refine aw_geti (n := 83) dX8_rows_80 fX8_110 E_164 rfl rfl ?_
    rw [up2_s]
    refine aw_goto (n := 94) dX8_rows_83 (by decide) ?_
    refine aw_puti (n := 97) dX8_rows_94 pX8_110 E_164 rfl rfl ?_
    rw [up2_up2]
    refine aw_aload_n (n := 98) dX8_rows_97 rfl rfl ?_
    refine aw_aload_n (n := 99) dX8_rows_98 rfl rfl ?_
    refine aw_geti (n := 102) dX8_rows_99 fX8_110 E_164 rfl rfl ?_
    rw [up2_s]
    refine aw_if_eq (tg := 112) (n := 105) dX8_rows_102 (by decide) rfl (fun c_102 => by exact absurd c_102 hna) (fun c_102 => ?_)
    refine aw_aload_n (n := 106) dX8_rows_105 rfl rfl ?_
    refine aw_geti (n := 109) dX8_rows_106 fX8_110 E_164 rfl rfl ?_
    rw [up2_s]
    refine aw_goto (n := 138) dX8_rows_109 (by decide) ?_
    refine aw_puti (n := 141) dX8_rows_138 pX8_110 E_164 rfl rfl ?_
    rw [up2_up2]
    refine aw_aload_n (n := 142) dX8_rows_141 rfl rfl ?_
    refine aw_geti (n := 145) dX8_rows_142 fX8_110 E_164 rfl rfl ?_
    rw [up2_s]
    refine aw_if_eq (tg := 149) (n := 148) dX8_rows_145 (by decide) rfl (fun c_145 => by exact absurd c_145 hna) (fun c_145 => ?_)
    refine aw_vret dX8_rows_148 rfl ?_
    exact thr_e hQ
  obtain ⟨r, rfl⟩ : ∃ z, va = some (.inr z) := by
    rcases va with _ | x9 | z
    · exact absurd ka (by decide)
    · exact absurd ka (by simp [lk, lk0])
    · exact ⟨z, rfl⟩
  by_cases kb : lk 0 vb = 0
  rotate_left
  · have hnb : ¬ nI (lk 0 vb) = 0 := nI_ne0 (by omega) (by have := lk_lt 0 vb; omega)
    have hr : op 15 n0 inp (some (.inr r)) vb vc = .inl (lk 0 vb) := by
      rcases vb with _ | z | z
      · rfl
      · exact absurd rfl kb
      · rfl
    rw [hr] at hQ
    refine aw_iload_n (n := 1) dX8_rows_0 rfl rfl ?_
    refine aw_s1 (d1 := d - 1) (n := 4) (Z := mX8_parts) (L0 := [_]) dX8_rows_1 kX8_parts gX8_99 syX8_parts rfl (Nat.le_of_ble_eq_true rfl) rfl rfl (by omega) (Nat.le_of_ble_eq_true rfl) ?_
    refine aw_iload_n (n := 1) dX8_parts_0 rfl rfl ?_
    refine aw_iconst (n := 2) (v := 3) dX8_parts_1 (by decide) rfl ?_
    refine aw_icmp_ge (tg := 7) (n := 5) dX8_parts_2 (by decide) rfl (fun _ => ?_) (fun c_2 => by first | exact absurd rfl c_2 | exact absurd c_2 (by decide))
    refine aw_iload_n (n := 8) dX8_parts_7 rfl rfl ?_
    refine aw_bipush (n := 10) (v := 11) dX8_parts_8 (by decide) rfl ?_
    refine aw_icmp_eq (tg := 37) (n := 13) dX8_parts_10 (by decide) rfl (fun c_10 => by first | exact absurd rfl c_10 | exact absurd c_10 (by decide)) (fun _ => ?_)
    refine aw_iload_n (n := 14) dX8_parts_13 rfl rfl ?_
    refine aw_bipush (n := 16) (v := 12) dX8_parts_14 (by decide) rfl ?_
    refine aw_icmp_eq (tg := 37) (n := 19) dX8_parts_16 (by decide) rfl (fun c_16 => by first | exact absurd rfl c_16 | exact absurd c_16 (by decide)) (fun _ => ?_)
    refine aw_iload_n (n := 20) dX8_parts_19 rfl rfl ?_
    refine aw_bipush (n := 22) (v := 16) dX8_parts_20 (by decide) rfl ?_
    refine aw_icmp_eq (tg := 37) (n := 25) dX8_parts_22 (by decide) rfl (fun c_22 => by first | exact absurd rfl c_22 | exact absurd c_22 (by decide)) (fun _ => ?_)
    refine aw_iload_n (n := 26) dX8_parts_25 rfl rfl ?_
    refine aw_bipush (n := 28) (v := 17) dX8_parts_26 (by decide) rfl ?_
    refine aw_icmp_eq (tg := 37) (n := 31) dX8_parts_28 (by decide) rfl (fun c_28 => by first | exact absurd rfl c_28 | exact absurd c_28 (by decide)) (fun _ => ?_)
    refine aw_iload_n (n := 32) dX8_parts_31 rfl rfl ?_
    refine aw_bipush (n := 34) (v := 18) dX8_parts_32 (by decide) rfl ?_
    refine aw_icmp_ne (tg := 39) (n := 37) dX8_parts_34 (by decide) rfl (fun _ => ?_) (fun c_34 => by first | exact absurd rfl c_34 | exact absurd c_34 (by decide))
    refine aw_iload_n (n := 40) dX8_parts_39 rfl rfl ?_
    refine aw_bipush (n := 42) (v := 13) dX8_parts_40 (by decide) rfl ?_
    refine aw_icmp_eq (tg := 57) (n := 45) dX8_parts_42 (by decide) rfl (fun c_42 => by first | exact absurd rfl c_42 | exact absurd c_42 (by decide)) (fun _ => ?_)
    refine aw_iload_n (n := 46) dX8_parts_45 rfl rfl ?_
    refine aw_bipush (n := 48) (v := 15) dX8_parts_46 (by decide) rfl ?_
    refine aw_icmp_eq (tg := 57) (n := 51) dX8_parts_48 (by decide) rfl (fun _ => ?_) (fun c_48 => by first | exact absurd rfl c_48 | exact absurd c_48 (by decide))
    refine aw_iconst (n := 58) (v := 3) dX8_parts_57 (by decide) rfl ?_
    refine aw_goto (n := 62) dX8_parts_58 (by decide) ?_
    refine aw_iret dX8_parts_62 rfl ?_
    dsimp only [aPush]
    refine aw_istore_n (n := 5) (L' := [_, _, _, _, _, _, _, _]) dX8_rows_4 (Nat.le_of_ble_eq_true rfl) rfl rfl ?_
    refine aw_aload_n (n := 6) dX8_rows_5 rfl rfl ?_
    refine aw_aload_n (n := 7) dX8_rows_6 rfl rfl ?_
    refine aw_iload_n (n := 8) dX8_rows_7 rfl rfl ?_
    refine aw_iload_n (n := 9) dX8_rows_8 rfl rfl ?_
    refine aw_bipush (n := 11) (v := 12) dX8_rows_9 (by decide) rfl ?_
    refine aw_icmp_ne (tg := 18) (n := 14) dX8_rows_11 (by decide) rfl (fun _ => ?_) (fun c_11 => by first | exact absurd rfl c_11 | exact absurd c_11 (by decide))
    refine aw_iconst (n := 19) (v := 1) dX8_rows_18 (by decide) rfl ?_
    refine aw_v2 (d1 := d - 1) (n := 22) (Z := mX8_wrong) (ci := 6) (L0 := [_, _, _]) dX8_rows_19 kX8_wrong gX8_141 iyX8_wrong eyX8_wrong rfl rfl E_164 rfl rfl (Nat.le_of_ble_eq_true rfl) rfl rfl (by omega) (Nat.le_of_ble_eq_true rfl) (m_wrong (need := 1) (by omega) (by decide) ha ?_)
    dsimp only [aPush]
    rw [ka]
    refine aw_puti (n := 25) dX8_rows_22 pX8_110 E_164 rfl rfl ?_
    rw [up2_id (x := nI 0) h20]
    refine aw_aload_n (n := 26) dX8_rows_25 rfl rfl ?_
    refine aw_aload_n (n := 27) dX8_rows_26 rfl rfl ?_
    refine aw_geti (n := 30) dX8_rows_27 fX8_110 E_164 rfl rfl ?_
    rw [h20]
    refine aw_if_ne (tg := 38) (n := 33) dX8_rows_30 (by decide) rfl (fun c_30 => by exact absurd rfl c_30) (fun c_30 => ?_)
    refine aw_iload_n (n := 34) dX8_rows_33 rfl rfl ?_
    refine aw_iconst (n := 35) (v := 2) dX8_rows_34 (by decide) rfl ?_
    refine aw_icmp_ge (tg := 45) (n := 38) dX8_rows_35 (by decide) rfl (fun _ => ?_) (fun c_35 => by first | exact absurd rfl c_35 | exact absurd c_35 (by decide))
    refine aw_aload_n (n := 46) dX8_rows_45 rfl rfl ?_
    refine aw_iload_n (n := 47) dX8_rows_46 rfl rfl ?_
    refine aw_iconst (n := 48) (v := 1) dX8_rows_47 (by decide) rfl ?_
    refine aw_iadd (n := 49) dX8_rows_48 rfl ?_
    rw [nI_1]
    refine aw_iload_n (n := 50) dX8_rows_49 rfl rfl ?_
    refine aw_bipush (n := 52) (v := 14) dX8_rows_50 (by decide) rfl ?_
    refine aw_icmp_ne (tg := 59) (n := 55) dX8_rows_52 (by decide) rfl (fun _ => ?_) (fun c_52 => by first | exact absurd rfl c_52 | exact absurd c_52 (by decide))
    refine aw_iconst (n := 60) (v := 0) dX8_rows_59 (by decide) rfl ?_
    refine aw_v2 (d1 := d - 1) (n := 63) (Z := mX8_wrong) (ci := 6) (L0 := [_, _, _]) dX8_rows_60 kX8_wrong gX8_141 iyX8_wrong eyX8_wrong rfl rfl E_164 rfl rfl (Nat.le_of_ble_eq_true rfl) rfl rfl (by omega) (Nat.le_of_ble_eq_true rfl) (m_wrong (need := 0) (by omega) (by decide) hb ?_)
    dsimp only [aPush]
    refine aw_puti (n := 66) dX8_rows_63 pX8_110 E_164 rfl rfl ?_
    refine aw_aload_n (n := 67) dX8_rows_66 rfl rfl ?_
    refine aw_aload_n (n := 68) dX8_rows_67 rfl rfl ?_
    refine aw_geti (n := 71) dX8_rows_68 fX8_110 E_164 rfl rfl ?_
    rw [up2_s]
    refine aw_if_ne (tg := 79) (n := 74) dX8_rows_71 (by decide) rfl (fun c_71 => ?_) (fun c_71 => by exact absurd c_71 hnb)
    refine aw_aload_n (n := 80) dX8_rows_79 rfl rfl ?_
    refine aw_geti (n := 83) dX8_rows_80 fX8_110 E_164 rfl rfl ?_
    rw [up2_s]
    refine aw_goto (n := 94) dX8_rows_83 (by decide) ?_
    refine aw_puti (n := 97) dX8_rows_94 pX8_110 E_164 rfl rfl ?_
    rw [up2_up2]
    refine aw_aload_n (n := 98) dX8_rows_97 rfl rfl ?_
    refine aw_aload_n (n := 99) dX8_rows_98 rfl rfl ?_
    refine aw_geti (n := 102) dX8_rows_99 fX8_110 E_164 rfl rfl ?_
    rw [up2_s]
    refine aw_if_eq (tg := 112) (n := 105) dX8_rows_102 (by decide) rfl (fun c_102 => by exact absurd c_102 hnb) (fun c_102 => ?_)
    refine aw_aload_n (n := 106) dX8_rows_105 rfl rfl ?_
    refine aw_geti (n := 109) dX8_rows_106 fX8_110 E_164 rfl rfl ?_
    rw [up2_s]
    refine aw_goto (n := 138) dX8_rows_109 (by decide) ?_
    refine aw_puti (n := 141) dX8_rows_138 pX8_110 E_164 rfl rfl ?_
    rw [up2_up2]
    refine aw_aload_n (n := 142) dX8_rows_141 rfl rfl ?_
    refine aw_geti (n := 145) dX8_rows_142 fX8_110 E_164 rfl rfl ?_
    rw [up2_s]
    refine aw_if_eq (tg := 149) (n := 148) dX8_rows_145 (by decide) rfl (fun c_145 => by exact absurd c_145 hnb) (fun c_145 => ?_)
    refine aw_vret dX8_rows_148 rfl ?_
    exact thr_e hQ
  obtain ⟨y, rfl⟩ : ∃ z, vb = some (.inl z) := by
    rcases vb with _ | z | r9
    · exact absurd kb (by decide)
    · exact ⟨z, rfl⟩
    · exact absurd kb (by simp [lk, lk0])
  by_cases kc : lk 0 vc = 0
  rotate_left
  · have hnc : ¬ nI (lk 0 vc) = 0 := nI_ne0 (by omega) (by have := lk_lt 0 vc; omega)
    have hr : op 15 n0 inp (some (.inr r)) (some (.inl y)) vc = .inl (lk 0 vc) := by
      rcases vc with _ | z | z
      · rfl
      · exact absurd rfl kc
      · rfl
    rw [hr] at hQ
    refine aw_iload_n (n := 1) dX8_rows_0 rfl rfl ?_
    refine aw_s1 (d1 := d - 1) (n := 4) (Z := mX8_parts) (L0 := [_]) dX8_rows_1 kX8_parts gX8_99 syX8_parts rfl (Nat.le_of_ble_eq_true rfl) rfl rfl (by omega) (Nat.le_of_ble_eq_true rfl) ?_
    refine aw_iload_n (n := 1) dX8_parts_0 rfl rfl ?_
    refine aw_iconst (n := 2) (v := 3) dX8_parts_1 (by decide) rfl ?_
    refine aw_icmp_ge (tg := 7) (n := 5) dX8_parts_2 (by decide) rfl (fun _ => ?_) (fun c_2 => by first | exact absurd rfl c_2 | exact absurd c_2 (by decide))
    refine aw_iload_n (n := 8) dX8_parts_7 rfl rfl ?_
    refine aw_bipush (n := 10) (v := 11) dX8_parts_8 (by decide) rfl ?_
    refine aw_icmp_eq (tg := 37) (n := 13) dX8_parts_10 (by decide) rfl (fun c_10 => by first | exact absurd rfl c_10 | exact absurd c_10 (by decide)) (fun _ => ?_)
    refine aw_iload_n (n := 14) dX8_parts_13 rfl rfl ?_
    refine aw_bipush (n := 16) (v := 12) dX8_parts_14 (by decide) rfl ?_
    refine aw_icmp_eq (tg := 37) (n := 19) dX8_parts_16 (by decide) rfl (fun c_16 => by first | exact absurd rfl c_16 | exact absurd c_16 (by decide)) (fun _ => ?_)
    refine aw_iload_n (n := 20) dX8_parts_19 rfl rfl ?_
    refine aw_bipush (n := 22) (v := 16) dX8_parts_20 (by decide) rfl ?_
    refine aw_icmp_eq (tg := 37) (n := 25) dX8_parts_22 (by decide) rfl (fun c_22 => by first | exact absurd rfl c_22 | exact absurd c_22 (by decide)) (fun _ => ?_)
    refine aw_iload_n (n := 26) dX8_parts_25 rfl rfl ?_
    refine aw_bipush (n := 28) (v := 17) dX8_parts_26 (by decide) rfl ?_
    refine aw_icmp_eq (tg := 37) (n := 31) dX8_parts_28 (by decide) rfl (fun c_28 => by first | exact absurd rfl c_28 | exact absurd c_28 (by decide)) (fun _ => ?_)
    refine aw_iload_n (n := 32) dX8_parts_31 rfl rfl ?_
    refine aw_bipush (n := 34) (v := 18) dX8_parts_32 (by decide) rfl ?_
    refine aw_icmp_ne (tg := 39) (n := 37) dX8_parts_34 (by decide) rfl (fun _ => ?_) (fun c_34 => by first | exact absurd rfl c_34 | exact absurd c_34 (by decide))
    refine aw_iload_n (n := 40) dX8_parts_39 rfl rfl ?_
    refine aw_bipush (n := 42) (v := 13) dX8_parts_40 (by decide) rfl ?_
    refine aw_icmp_eq (tg := 57) (n := 45) dX8_parts_42 (by decide) rfl (fun c_42 => by first | exact absurd rfl c_42 | exact absurd c_42 (by decide)) (fun _ => ?_)
    refine aw_iload_n (n := 46) dX8_parts_45 rfl rfl ?_
    refine aw_bipush (n := 48) (v := 15) dX8_parts_46 (by decide) rfl ?_
    refine aw_icmp_eq (tg := 57) (n := 51) dX8_parts_48 (by decide) rfl (fun _ => ?_) (fun c_48 => by first | exact absurd rfl c_48 | exact absurd c_48 (by decide))
    refine aw_iconst (n := 58) (v := 3) dX8_parts_57 (by decide) rfl ?_
    refine aw_goto (n := 62) dX8_parts_58 (by decide) ?_
    refine aw_iret dX8_parts_62 rfl ?_
    dsimp only [aPush]
    refine aw_istore_n (n := 5) (L' := [_, _, _, _, _, _, _, _]) dX8_rows_4 (Nat.le_of_ble_eq_true rfl) rfl rfl ?_
    refine aw_aload_n (n := 6) dX8_rows_5 rfl rfl ?_
    refine aw_aload_n (n := 7) dX8_rows_6 rfl rfl ?_
    refine aw_iload_n (n := 8) dX8_rows_7 rfl rfl ?_
    refine aw_iload_n (n := 9) dX8_rows_8 rfl rfl ?_
    refine aw_bipush (n := 11) (v := 12) dX8_rows_9 (by decide) rfl ?_
    refine aw_icmp_ne (tg := 18) (n := 14) dX8_rows_11 (by decide) rfl (fun _ => ?_) (fun c_11 => by first | exact absurd rfl c_11 | exact absurd c_11 (by decide))
    refine aw_iconst (n := 19) (v := 1) dX8_rows_18 (by decide) rfl ?_
    refine aw_v2 (d1 := d - 1) (n := 22) (Z := mX8_wrong) (ci := 6) (L0 := [_, _, _]) dX8_rows_19 kX8_wrong gX8_141 iyX8_wrong eyX8_wrong rfl rfl E_164 rfl rfl (Nat.le_of_ble_eq_true rfl) rfl rfl (by omega) (Nat.le_of_ble_eq_true rfl) (m_wrong (need := 1) (by omega) (by decide) ha ?_)
    dsimp only [aPush]
    rw [ka]
    refine aw_puti (n := 25) dX8_rows_22 pX8_110 E_164 rfl rfl ?_
    rw [up2_id (x := nI 0) h20]
    refine aw_aload_n (n := 26) dX8_rows_25 rfl rfl ?_
    refine aw_aload_n (n := 27) dX8_rows_26 rfl rfl ?_
    refine aw_geti (n := 30) dX8_rows_27 fX8_110 E_164 rfl rfl ?_
    rw [h20]
    refine aw_if_ne (tg := 38) (n := 33) dX8_rows_30 (by decide) rfl (fun c_30 => by exact absurd rfl c_30) (fun c_30 => ?_)
    refine aw_iload_n (n := 34) dX8_rows_33 rfl rfl ?_
    refine aw_iconst (n := 35) (v := 2) dX8_rows_34 (by decide) rfl ?_
    refine aw_icmp_ge (tg := 45) (n := 38) dX8_rows_35 (by decide) rfl (fun _ => ?_) (fun c_35 => by first | exact absurd rfl c_35 | exact absurd c_35 (by decide))
    refine aw_aload_n (n := 46) dX8_rows_45 rfl rfl ?_
    refine aw_iload_n (n := 47) dX8_rows_46 rfl rfl ?_
    refine aw_iconst (n := 48) (v := 1) dX8_rows_47 (by decide) rfl ?_
    refine aw_iadd (n := 49) dX8_rows_48 rfl ?_
    rw [nI_1]
    refine aw_iload_n (n := 50) dX8_rows_49 rfl rfl ?_
    refine aw_bipush (n := 52) (v := 14) dX8_rows_50 (by decide) rfl ?_
    refine aw_icmp_ne (tg := 59) (n := 55) dX8_rows_52 (by decide) rfl (fun _ => ?_) (fun c_52 => by first | exact absurd rfl c_52 | exact absurd c_52 (by decide))
    refine aw_iconst (n := 60) (v := 0) dX8_rows_59 (by decide) rfl ?_
    refine aw_v2 (d1 := d - 1) (n := 63) (Z := mX8_wrong) (ci := 6) (L0 := [_, _, _]) dX8_rows_60 kX8_wrong gX8_141 iyX8_wrong eyX8_wrong rfl rfl E_164 rfl rfl (Nat.le_of_ble_eq_true rfl) rfl rfl (by omega) (Nat.le_of_ble_eq_true rfl) (m_wrong (need := 0) (by omega) (by decide) hb ?_)
    dsimp only [aPush]
    rw [kb]
    refine aw_puti (n := 66) dX8_rows_63 pX8_110 E_164 rfl rfl ?_
    rw [up2_id (x := nI 0) h20]
    refine aw_aload_n (n := 67) dX8_rows_66 rfl rfl ?_
    refine aw_aload_n (n := 68) dX8_rows_67 rfl rfl ?_
    refine aw_geti (n := 71) dX8_rows_68 fX8_110 E_164 rfl rfl ?_
    rw [h20]
    refine aw_if_ne (tg := 79) (n := 74) dX8_rows_71 (by decide) rfl (fun c_71 => by exact absurd rfl c_71) (fun c_71 => ?_)
    refine aw_iload_n (n := 75) dX8_rows_74 rfl rfl ?_
    refine aw_iconst (n := 76) (v := 3) dX8_rows_75 (by decide) rfl ?_
    refine aw_icmp_ge (tg := 86) (n := 79) dX8_rows_76 (by decide) rfl (fun _ => ?_) (fun c_76 => by first | exact absurd rfl c_76 | exact absurd c_76 (by decide))
    refine aw_aload_n (n := 87) dX8_rows_86 rfl rfl ?_
    refine aw_iload_n (n := 88) dX8_rows_87 rfl rfl ?_
    refine aw_iconst (n := 89) (v := 2) dX8_rows_88 (by decide) rfl ?_
    refine aw_iadd (n := 90) dX8_rows_89 rfl ?_
    rw [show (2 : Int32) = nI 2 from rfl, nI_add]
    refine aw_iconst (n := 91) (v := 0) dX8_rows_90 (by decide) rfl ?_
    refine aw_v2 (d1 := d - 1) (n := 94) (Z := mX8_wrong) (ci := 6) (L0 := [_, _, _]) dX8_rows_91 kX8_wrong gX8_141 iyX8_wrong eyX8_wrong rfl rfl E_164 rfl rfl (Nat.le_of_ble_eq_true rfl) rfl rfl (by omega) (Nat.le_of_ble_eq_true rfl) (m_wrong (need := 0) (by omega) (by decide) hc ?_)
    dsimp only [aPush]
    refine aw_puti (n := 97) dX8_rows_94 pX8_110 E_164 rfl rfl ?_
    refine aw_aload_n (n := 98) dX8_rows_97 rfl rfl ?_
    refine aw_aload_n (n := 99) dX8_rows_98 rfl rfl ?_
    refine aw_geti (n := 102) dX8_rows_99 fX8_110 E_164 rfl rfl ?_
    rw [up2_s]
    refine aw_if_eq (tg := 112) (n := 105) dX8_rows_102 (by decide) rfl (fun c_102 => by exact absurd c_102 hnc) (fun c_102 => ?_)
    refine aw_aload_n (n := 106) dX8_rows_105 rfl rfl ?_
    refine aw_geti (n := 109) dX8_rows_106 fX8_110 E_164 rfl rfl ?_
    rw [up2_s]
    refine aw_goto (n := 138) dX8_rows_109 (by decide) ?_
    refine aw_puti (n := 141) dX8_rows_138 pX8_110 E_164 rfl rfl ?_
    rw [up2_up2]
    refine aw_aload_n (n := 142) dX8_rows_141 rfl rfl ?_
    refine aw_geti (n := 145) dX8_rows_142 fX8_110 E_164 rfl rfl ?_
    rw [up2_s]
    refine aw_if_eq (tg := 149) (n := 148) dX8_rows_145 (by decide) rfl (fun c_145 => by exact absurd c_145 hnc) (fun c_145 => ?_)
    refine aw_vret dX8_rows_148 rfl ?_
    exact thr_e hQ
  obtain ⟨z, rfl⟩ : ∃ z, vc = some (.inl z) := by
    rcases vc with _ | z | r9
    · exact absurd kc (by decide)
    · exact ⟨z, rfl⟩
    · exact absurd kc (by simp [lk, lk0])
  obtain ⟨a1, hr, gx, pl, hpl, gp, hst⟩ := id ha
  have gy : M 176 (3 * t + 1) = y := hb.2
  have gz : M 176 (3 * t + 2) = z := hc.2
  have hQ : eQ mk M (if z < 0 then .inl 3 else if 16 < z then .inl 6 else if y < 0 ∨ nI r.length - z < y then .inl 2 else .inr (some (.inr ((r.drop y.toNatClampNeg).take z.toNatClampNeg)))) Q := hQ
  by_cases h1 : z < 0
  · rw [if_pos h1] at hQ
    refine aw_iload_n (n := 1) dX8_rows_0 rfl rfl ?_
    refine aw_s1 (d1 := d - 1) (n := 4) (Z := mX8_parts) (L0 := [_]) dX8_rows_1 kX8_parts gX8_99 syX8_parts rfl (Nat.le_of_ble_eq_true rfl) rfl rfl (by omega) (Nat.le_of_ble_eq_true rfl) ?_
    refine aw_iload_n (n := 1) dX8_parts_0 rfl rfl ?_
    refine aw_iconst (n := 2) (v := 3) dX8_parts_1 (by decide) rfl ?_
    refine aw_icmp_ge (tg := 7) (n := 5) dX8_parts_2 (by decide) rfl (fun _ => ?_) (fun c_2 => by first | exact absurd rfl c_2 | exact absurd c_2 (by decide))
    refine aw_iload_n (n := 8) dX8_parts_7 rfl rfl ?_
    refine aw_bipush (n := 10) (v := 11) dX8_parts_8 (by decide) rfl ?_
    refine aw_icmp_eq (tg := 37) (n := 13) dX8_parts_10 (by decide) rfl (fun c_10 => by first | exact absurd rfl c_10 | exact absurd c_10 (by decide)) (fun _ => ?_)
    refine aw_iload_n (n := 14) dX8_parts_13 rfl rfl ?_
    refine aw_bipush (n := 16) (v := 12) dX8_parts_14 (by decide) rfl ?_
    refine aw_icmp_eq (tg := 37) (n := 19) dX8_parts_16 (by decide) rfl (fun c_16 => by first | exact absurd rfl c_16 | exact absurd c_16 (by decide)) (fun _ => ?_)
    refine aw_iload_n (n := 20) dX8_parts_19 rfl rfl ?_
    refine aw_bipush (n := 22) (v := 16) dX8_parts_20 (by decide) rfl ?_
    refine aw_icmp_eq (tg := 37) (n := 25) dX8_parts_22 (by decide) rfl (fun c_22 => by first | exact absurd rfl c_22 | exact absurd c_22 (by decide)) (fun _ => ?_)
    refine aw_iload_n (n := 26) dX8_parts_25 rfl rfl ?_
    refine aw_bipush (n := 28) (v := 17) dX8_parts_26 (by decide) rfl ?_
    refine aw_icmp_eq (tg := 37) (n := 31) dX8_parts_28 (by decide) rfl (fun c_28 => by first | exact absurd rfl c_28 | exact absurd c_28 (by decide)) (fun _ => ?_)
    refine aw_iload_n (n := 32) dX8_parts_31 rfl rfl ?_
    refine aw_bipush (n := 34) (v := 18) dX8_parts_32 (by decide) rfl ?_
    refine aw_icmp_ne (tg := 39) (n := 37) dX8_parts_34 (by decide) rfl (fun _ => ?_) (fun c_34 => by first | exact absurd rfl c_34 | exact absurd c_34 (by decide))
    refine aw_iload_n (n := 40) dX8_parts_39 rfl rfl ?_
    refine aw_bipush (n := 42) (v := 13) dX8_parts_40 (by decide) rfl ?_
    refine aw_icmp_eq (tg := 57) (n := 45) dX8_parts_42 (by decide) rfl (fun c_42 => by first | exact absurd rfl c_42 | exact absurd c_42 (by decide)) (fun _ => ?_)
    refine aw_iload_n (n := 46) dX8_parts_45 rfl rfl ?_
    refine aw_bipush (n := 48) (v := 15) dX8_parts_46 (by decide) rfl ?_
    refine aw_icmp_eq (tg := 57) (n := 51) dX8_parts_48 (by decide) rfl (fun _ => ?_) (fun c_48 => by first | exact absurd rfl c_48 | exact absurd c_48 (by decide))
    refine aw_iconst (n := 58) (v := 3) dX8_parts_57 (by decide) rfl ?_
    refine aw_goto (n := 62) dX8_parts_58 (by decide) ?_
    refine aw_iret dX8_parts_62 rfl ?_
    dsimp only [aPush]
    refine aw_istore_n (n := 5) (L' := [_, _, _, _, _, _, _, _]) dX8_rows_4 (Nat.le_of_ble_eq_true rfl) rfl rfl ?_
    refine aw_aload_n (n := 6) dX8_rows_5 rfl rfl ?_
    refine aw_aload_n (n := 7) dX8_rows_6 rfl rfl ?_
    refine aw_iload_n (n := 8) dX8_rows_7 rfl rfl ?_
    refine aw_iload_n (n := 9) dX8_rows_8 rfl rfl ?_
    refine aw_bipush (n := 11) (v := 12) dX8_rows_9 (by decide) rfl ?_
    refine aw_icmp_ne (tg := 18) (n := 14) dX8_rows_11 (by decide) rfl (fun _ => ?_) (fun c_11 => by first | exact absurd rfl c_11 | exact absurd c_11 (by decide))
    refine aw_iconst (n := 19) (v := 1) dX8_rows_18 (by decide) rfl ?_
    refine aw_v2 (d1 := d - 1) (n := 22) (Z := mX8_wrong) (ci := 6) (L0 := [_, _, _]) dX8_rows_19 kX8_wrong gX8_141 iyX8_wrong eyX8_wrong rfl rfl E_164 rfl rfl (Nat.le_of_ble_eq_true rfl) rfl rfl (by omega) (Nat.le_of_ble_eq_true rfl) (m_wrong (need := 1) (by omega) (by decide) ha ?_)
    dsimp only [aPush]
    rw [ka]
    refine aw_puti (n := 25) dX8_rows_22 pX8_110 E_164 rfl rfl ?_
    rw [up2_id (x := nI 0) h20]
    refine aw_aload_n (n := 26) dX8_rows_25 rfl rfl ?_
    refine aw_aload_n (n := 27) dX8_rows_26 rfl rfl ?_
    refine aw_geti (n := 30) dX8_rows_27 fX8_110 E_164 rfl rfl ?_
    rw [h20]
    refine aw_if_ne (tg := 38) (n := 33) dX8_rows_30 (by decide) rfl (fun c_30 => by exact absurd rfl c_30) (fun c_30 => ?_)
    refine aw_iload_n (n := 34) dX8_rows_33 rfl rfl ?_
    refine aw_iconst (n := 35) (v := 2) dX8_rows_34 (by decide) rfl ?_
    refine aw_icmp_ge (tg := 45) (n := 38) dX8_rows_35 (by decide) rfl (fun _ => ?_) (fun c_35 => by first | exact absurd rfl c_35 | exact absurd c_35 (by decide))
    refine aw_aload_n (n := 46) dX8_rows_45 rfl rfl ?_
    refine aw_iload_n (n := 47) dX8_rows_46 rfl rfl ?_
    refine aw_iconst (n := 48) (v := 1) dX8_rows_47 (by decide) rfl ?_
    refine aw_iadd (n := 49) dX8_rows_48 rfl ?_
    rw [nI_1]
    refine aw_iload_n (n := 50) dX8_rows_49 rfl rfl ?_
    refine aw_bipush (n := 52) (v := 14) dX8_rows_50 (by decide) rfl ?_
    refine aw_icmp_ne (tg := 59) (n := 55) dX8_rows_52 (by decide) rfl (fun _ => ?_) (fun c_52 => by first | exact absurd rfl c_52 | exact absurd c_52 (by decide))
    refine aw_iconst (n := 60) (v := 0) dX8_rows_59 (by decide) rfl ?_
    refine aw_v2 (d1 := d - 1) (n := 63) (Z := mX8_wrong) (ci := 6) (L0 := [_, _, _]) dX8_rows_60 kX8_wrong gX8_141 iyX8_wrong eyX8_wrong rfl rfl E_164 rfl rfl (Nat.le_of_ble_eq_true rfl) rfl rfl (by omega) (Nat.le_of_ble_eq_true rfl) (m_wrong (need := 0) (by omega) (by decide) hb ?_)
    dsimp only [aPush]
    rw [kb]
    refine aw_puti (n := 66) dX8_rows_63 pX8_110 E_164 rfl rfl ?_
    rw [up2_id (x := nI 0) h20]
    refine aw_aload_n (n := 67) dX8_rows_66 rfl rfl ?_
    refine aw_aload_n (n := 68) dX8_rows_67 rfl rfl ?_
    refine aw_geti (n := 71) dX8_rows_68 fX8_110 E_164 rfl rfl ?_
    rw [h20]
    refine aw_if_ne (tg := 79) (n := 74) dX8_rows_71 (by decide) rfl (fun c_71 => by exact absurd rfl c_71) (fun c_71 => ?_)
    refine aw_iload_n (n := 75) dX8_rows_74 rfl rfl ?_
    refine aw_iconst (n := 76) (v := 3) dX8_rows_75 (by decide) rfl ?_
    refine aw_icmp_ge (tg := 86) (n := 79) dX8_rows_76 (by decide) rfl (fun _ => ?_) (fun c_76 => by first | exact absurd rfl c_76 | exact absurd c_76 (by decide))
    refine aw_aload_n (n := 87) dX8_rows_86 rfl rfl ?_
    refine aw_iload_n (n := 88) dX8_rows_87 rfl rfl ?_
    refine aw_iconst (n := 89) (v := 2) dX8_rows_88 (by decide) rfl ?_
    refine aw_iadd (n := 90) dX8_rows_89 rfl ?_
    rw [show (2 : Int32) = nI 2 from rfl, nI_add]
    refine aw_iconst (n := 91) (v := 0) dX8_rows_90 (by decide) rfl ?_
    refine aw_v2 (d1 := d - 1) (n := 94) (Z := mX8_wrong) (ci := 6) (L0 := [_, _, _]) dX8_rows_91 kX8_wrong gX8_141 iyX8_wrong eyX8_wrong rfl rfl E_164 rfl rfl (Nat.le_of_ble_eq_true rfl) rfl rfl (by omega) (Nat.le_of_ble_eq_true rfl) (m_wrong (need := 0) (by omega) (by decide) hc ?_)
    dsimp only [aPush]
    rw [kc]
    refine aw_puti (n := 97) dX8_rows_94 pX8_110 E_164 rfl rfl ?_
    rw [up2_id (x := nI 0) h20]
    refine aw_aload_n (n := 98) dX8_rows_97 rfl rfl ?_
    refine aw_aload_n (n := 99) dX8_rows_98 rfl rfl ?_
    refine aw_geti (n := 102) dX8_rows_99 fX8_110 E_164 rfl rfl ?_
    rw [h20]
    refine aw_if_eq (tg := 112) (n := 105) dX8_rows_102 (by decide) rfl (fun c_102 => ?_) (fun c_102 => by exact absurd rfl c_102)
    refine aw_iload_n (n := 113) dX8_rows_112 rfl rfl ?_
    refine aw_aload_n (n := 114) dX8_rows_113 rfl rfl ?_
    refine aw_getr (n := 117) dX8_rows_114 fX8_43 E_164 rfl rfl ?_
    refine aw_iload_n (n := 118) dX8_rows_117 rfl rfl ?_
    refine aw_iald (n := 119) dX8_rows_118 E_176 (by assumption) rfl ?_
    refine aw_aload_n (n := 120) dX8_rows_119 rfl rfl ?_
    refine aw_getr (n := 123) dX8_rows_120 fX8_43 E_164 rfl rfl ?_
    refine aw_iload_n (n := 124) dX8_rows_123 rfl rfl ?_
    refine aw_iconst (n := 125) (v := 1) dX8_rows_124 (by decide) rfl ?_
    refine aw_iadd (n := 126) dX8_rows_125 rfl ?_
    rw [nI_1]
    refine aw_iald (n := 127) dX8_rows_126 E_176 (by assumption) rfl ?_
    refine aw_aload_n (n := 128) dX8_rows_127 rfl rfl ?_
    refine aw_getr (n := 131) dX8_rows_128 fX8_43 E_164 rfl rfl ?_
    refine aw_iload_n (n := 132) dX8_rows_131 rfl rfl ?_
    refine aw_iconst (n := 133) (v := 2) dX8_rows_132 (by decide) rfl ?_
    refine aw_iadd (n := 134) dX8_rows_133 rfl ?_
    rw [show (2 : Int32) = nI 2 from rfl, nI_add]
    refine aw_iald (n := 135) dX8_rows_134 E_176 (by assumption) rfl ?_
    rw [haa, hbb, hcc, gx, gy, gz]
    refine aw_s4 (d1 := d - 1) (n := 138) (Z := mX8_refused) (L0 := [_, _, _, _]) dX8_rows_135 kX8_refused gX8_164 syX8_refused rfl rfl rfl rfl (Nat.le_of_ble_eq_true rfl) rfl rfl (by omega) (Nat.le_of_ble_eq_true rfl) ?_
    refine aw_iload_n (n := 1) dX8_refused_0 rfl rfl ?_
    refine aw_tswIn (n := 91) (off := 90) dX8_refused_1 (by decide) (by decide) (by decide) (by decide) ?_
    refine aw_iload_n (n := 92) dX8_refused_91 rfl rfl ?_
    refine aw_if_ge (tg := 99) (n := 95) dX8_refused_92 (by decide) rfl (fun c_92 => by exact absurd h1 (i_nlt.mpr c_92)) (fun c_92 => ?_)
    refine aw_iconst (n := 96) (v := 3) dX8_refused_95 (by decide) rfl ?_
    refine aw_goto (n := 126) dX8_refused_96 (by decide) ?_
    refine aw_iret dX8_refused_126 rfl ?_
    dsimp only [aPush]
    refine aw_puti (n := 141) dX8_rows_138 pX8_110 E_164 rfl rfl ?_
    refine aw_aload_n (n := 142) dX8_rows_141 rfl rfl ?_
    refine aw_geti (n := 145) dX8_rows_142 fX8_110 E_164 rfl rfl ?_
    rw [up2_s]
    refine aw_if_eq (tg := 149) (n := 148) dX8_rows_145 (by decide) rfl (fun c_145 => by exact absurd c_145 (by decide)) (fun c_145 => ?_)
    refine aw_vret dX8_rows_148 rfl ?_
    exact thr_e (k := 3) hQ
  by_cases h2 : 16 < z
  · rw [if_neg h1, if_pos h2] at hQ
    refine aw_iload_n (n := 1) dX8_rows_0 rfl rfl ?_
    refine aw_s1 (d1 := d - 1) (n := 4) (Z := mX8_parts) (L0 := [_]) dX8_rows_1 kX8_parts gX8_99 syX8_parts rfl (Nat.le_of_ble_eq_true rfl) rfl rfl (by omega) (Nat.le_of_ble_eq_true rfl) ?_
    refine aw_iload_n (n := 1) dX8_parts_0 rfl rfl ?_
    refine aw_iconst (n := 2) (v := 3) dX8_parts_1 (by decide) rfl ?_
    refine aw_icmp_ge (tg := 7) (n := 5) dX8_parts_2 (by decide) rfl (fun _ => ?_) (fun c_2 => by first | exact absurd rfl c_2 | exact absurd c_2 (by decide))
    refine aw_iload_n (n := 8) dX8_parts_7 rfl rfl ?_
    refine aw_bipush (n := 10) (v := 11) dX8_parts_8 (by decide) rfl ?_
    refine aw_icmp_eq (tg := 37) (n := 13) dX8_parts_10 (by decide) rfl (fun c_10 => by first | exact absurd rfl c_10 | exact absurd c_10 (by decide)) (fun _ => ?_)
    refine aw_iload_n (n := 14) dX8_parts_13 rfl rfl ?_
    refine aw_bipush (n := 16) (v := 12) dX8_parts_14 (by decide) rfl ?_
    refine aw_icmp_eq (tg := 37) (n := 19) dX8_parts_16 (by decide) rfl (fun c_16 => by first | exact absurd rfl c_16 | exact absurd c_16 (by decide)) (fun _ => ?_)
    refine aw_iload_n (n := 20) dX8_parts_19 rfl rfl ?_
    refine aw_bipush (n := 22) (v := 16) dX8_parts_20 (by decide) rfl ?_
    refine aw_icmp_eq (tg := 37) (n := 25) dX8_parts_22 (by decide) rfl (fun c_22 => by first | exact absurd rfl c_22 | exact absurd c_22 (by decide)) (fun _ => ?_)
    refine aw_iload_n (n := 26) dX8_parts_25 rfl rfl ?_
    refine aw_bipush (n := 28) (v := 17) dX8_parts_26 (by decide) rfl ?_
    refine aw_icmp_eq (tg := 37) (n := 31) dX8_parts_28 (by decide) rfl (fun c_28 => by first | exact absurd rfl c_28 | exact absurd c_28 (by decide)) (fun _ => ?_)
    refine aw_iload_n (n := 32) dX8_parts_31 rfl rfl ?_
    refine aw_bipush (n := 34) (v := 18) dX8_parts_32 (by decide) rfl ?_
    refine aw_icmp_ne (tg := 39) (n := 37) dX8_parts_34 (by decide) rfl (fun _ => ?_) (fun c_34 => by first | exact absurd rfl c_34 | exact absurd c_34 (by decide))
    refine aw_iload_n (n := 40) dX8_parts_39 rfl rfl ?_
    refine aw_bipush (n := 42) (v := 13) dX8_parts_40 (by decide) rfl ?_
    refine aw_icmp_eq (tg := 57) (n := 45) dX8_parts_42 (by decide) rfl (fun c_42 => by first | exact absurd rfl c_42 | exact absurd c_42 (by decide)) (fun _ => ?_)
    refine aw_iload_n (n := 46) dX8_parts_45 rfl rfl ?_
    refine aw_bipush (n := 48) (v := 15) dX8_parts_46 (by decide) rfl ?_
    refine aw_icmp_eq (tg := 57) (n := 51) dX8_parts_48 (by decide) rfl (fun _ => ?_) (fun c_48 => by first | exact absurd rfl c_48 | exact absurd c_48 (by decide))
    refine aw_iconst (n := 58) (v := 3) dX8_parts_57 (by decide) rfl ?_
    refine aw_goto (n := 62) dX8_parts_58 (by decide) ?_
    refine aw_iret dX8_parts_62 rfl ?_
    dsimp only [aPush]
    refine aw_istore_n (n := 5) (L' := [_, _, _, _, _, _, _, _]) dX8_rows_4 (Nat.le_of_ble_eq_true rfl) rfl rfl ?_
    refine aw_aload_n (n := 6) dX8_rows_5 rfl rfl ?_
    refine aw_aload_n (n := 7) dX8_rows_6 rfl rfl ?_
    refine aw_iload_n (n := 8) dX8_rows_7 rfl rfl ?_
    refine aw_iload_n (n := 9) dX8_rows_8 rfl rfl ?_
    refine aw_bipush (n := 11) (v := 12) dX8_rows_9 (by decide) rfl ?_
    refine aw_icmp_ne (tg := 18) (n := 14) dX8_rows_11 (by decide) rfl (fun _ => ?_) (fun c_11 => by first | exact absurd rfl c_11 | exact absurd c_11 (by decide))
    refine aw_iconst (n := 19) (v := 1) dX8_rows_18 (by decide) rfl ?_
    refine aw_v2 (d1 := d - 1) (n := 22) (Z := mX8_wrong) (ci := 6) (L0 := [_, _, _]) dX8_rows_19 kX8_wrong gX8_141 iyX8_wrong eyX8_wrong rfl rfl E_164 rfl rfl (Nat.le_of_ble_eq_true rfl) rfl rfl (by omega) (Nat.le_of_ble_eq_true rfl) (m_wrong (need := 1) (by omega) (by decide) ha ?_)
    dsimp only [aPush]
    rw [ka]
    refine aw_puti (n := 25) dX8_rows_22 pX8_110 E_164 rfl rfl ?_
    rw [up2_id (x := nI 0) h20]
    refine aw_aload_n (n := 26) dX8_rows_25 rfl rfl ?_
    refine aw_aload_n (n := 27) dX8_rows_26 rfl rfl ?_
    refine aw_geti (n := 30) dX8_rows_27 fX8_110 E_164 rfl rfl ?_
    rw [h20]
    refine aw_if_ne (tg := 38) (n := 33) dX8_rows_30 (by decide) rfl (fun c_30 => by exact absurd rfl c_30) (fun c_30 => ?_)
    refine aw_iload_n (n := 34) dX8_rows_33 rfl rfl ?_
    refine aw_iconst (n := 35) (v := 2) dX8_rows_34 (by decide) rfl ?_
    refine aw_icmp_ge (tg := 45) (n := 38) dX8_rows_35 (by decide) rfl (fun _ => ?_) (fun c_35 => by first | exact absurd rfl c_35 | exact absurd c_35 (by decide))
    refine aw_aload_n (n := 46) dX8_rows_45 rfl rfl ?_
    refine aw_iload_n (n := 47) dX8_rows_46 rfl rfl ?_
    refine aw_iconst (n := 48) (v := 1) dX8_rows_47 (by decide) rfl ?_
    refine aw_iadd (n := 49) dX8_rows_48 rfl ?_
    rw [nI_1]
    refine aw_iload_n (n := 50) dX8_rows_49 rfl rfl ?_
    refine aw_bipush (n := 52) (v := 14) dX8_rows_50 (by decide) rfl ?_
    refine aw_icmp_ne (tg := 59) (n := 55) dX8_rows_52 (by decide) rfl (fun _ => ?_) (fun c_52 => by first | exact absurd rfl c_52 | exact absurd c_52 (by decide))
    refine aw_iconst (n := 60) (v := 0) dX8_rows_59 (by decide) rfl ?_
    refine aw_v2 (d1 := d - 1) (n := 63) (Z := mX8_wrong) (ci := 6) (L0 := [_, _, _]) dX8_rows_60 kX8_wrong gX8_141 iyX8_wrong eyX8_wrong rfl rfl E_164 rfl rfl (Nat.le_of_ble_eq_true rfl) rfl rfl (by omega) (Nat.le_of_ble_eq_true rfl) (m_wrong (need := 0) (by omega) (by decide) hb ?_)
    dsimp only [aPush]
    rw [kb]
    refine aw_puti (n := 66) dX8_rows_63 pX8_110 E_164 rfl rfl ?_
    rw [up2_id (x := nI 0) h20]
    refine aw_aload_n (n := 67) dX8_rows_66 rfl rfl ?_
    refine aw_aload_n (n := 68) dX8_rows_67 rfl rfl ?_
    refine aw_geti (n := 71) dX8_rows_68 fX8_110 E_164 rfl rfl ?_
    rw [h20]
    refine aw_if_ne (tg := 79) (n := 74) dX8_rows_71 (by decide) rfl (fun c_71 => by exact absurd rfl c_71) (fun c_71 => ?_)
    refine aw_iload_n (n := 75) dX8_rows_74 rfl rfl ?_
    refine aw_iconst (n := 76) (v := 3) dX8_rows_75 (by decide) rfl ?_
    refine aw_icmp_ge (tg := 86) (n := 79) dX8_rows_76 (by decide) rfl (fun _ => ?_) (fun c_76 => by first | exact absurd rfl c_76 | exact absurd c_76 (by decide))
    refine aw_aload_n (n := 87) dX8_rows_86 rfl rfl ?_
    refine aw_iload_n (n := 88) dX8_rows_87 rfl rfl ?_
    refine aw_iconst (n := 89) (v := 2) dX8_rows_88 (by decide) rfl ?_
    refine aw_iadd (n := 90) dX8_rows_89 rfl ?_
    rw [show (2 : Int32) = nI 2 from rfl, nI_add]
    refine aw_iconst (n := 91) (v := 0) dX8_rows_90 (by decide) rfl ?_
    refine aw_v2 (d1 := d - 1) (n := 94) (Z := mX8_wrong) (ci := 6) (L0 := [_, _, _]) dX8_rows_91 kX8_wrong gX8_141 iyX8_wrong eyX8_wrong rfl rfl E_164 rfl rfl (Nat.le_of_ble_eq_true rfl) rfl rfl (by omega) (Nat.le_of_ble_eq_true rfl) (m_wrong (need := 0) (by omega) (by decide) hc ?_)
    dsimp only [aPush]
    rw [kc]
    refine aw_puti (n := 97) dX8_rows_94 pX8_110 E_164 rfl rfl ?_
    rw [up2_id (x := nI 0) h20]
    refine aw_aload_n (n := 98) dX8_rows_97 rfl rfl ?_
    refine aw_aload_n (n := 99) dX8_rows_98 rfl rfl ?_
    refine aw_geti (n := 102) dX8_rows_99 fX8_110 E_164 rfl rfl ?_
    rw [h20]
    refine aw_if_eq (tg := 112) (n := 105) dX8_rows_102 (by decide) rfl (fun c_102 => ?_) (fun c_102 => by exact absurd rfl c_102)
    refine aw_iload_n (n := 113) dX8_rows_112 rfl rfl ?_
    refine aw_aload_n (n := 114) dX8_rows_113 rfl rfl ?_
    refine aw_getr (n := 117) dX8_rows_114 fX8_43 E_164 rfl rfl ?_
    refine aw_iload_n (n := 118) dX8_rows_117 rfl rfl ?_
    refine aw_iald (n := 119) dX8_rows_118 E_176 (by assumption) rfl ?_
    refine aw_aload_n (n := 120) dX8_rows_119 rfl rfl ?_
    refine aw_getr (n := 123) dX8_rows_120 fX8_43 E_164 rfl rfl ?_
    refine aw_iload_n (n := 124) dX8_rows_123 rfl rfl ?_
    refine aw_iconst (n := 125) (v := 1) dX8_rows_124 (by decide) rfl ?_
    refine aw_iadd (n := 126) dX8_rows_125 rfl ?_
    rw [nI_1]
    refine aw_iald (n := 127) dX8_rows_126 E_176 (by assumption) rfl ?_
    refine aw_aload_n (n := 128) dX8_rows_127 rfl rfl ?_
    refine aw_getr (n := 131) dX8_rows_128 fX8_43 E_164 rfl rfl ?_
    refine aw_iload_n (n := 132) dX8_rows_131 rfl rfl ?_
    refine aw_iconst (n := 133) (v := 2) dX8_rows_132 (by decide) rfl ?_
    refine aw_iadd (n := 134) dX8_rows_133 rfl ?_
    rw [show (2 : Int32) = nI 2 from rfl, nI_add]
    refine aw_iald (n := 135) dX8_rows_134 E_176 (by assumption) rfl ?_
    rw [haa, hbb, hcc, gx, gy, gz]
    refine aw_s4 (d1 := d - 1) (n := 138) (Z := mX8_refused) (L0 := [_, _, _, _]) dX8_rows_135 kX8_refused gX8_164 syX8_refused rfl rfl rfl rfl (Nat.le_of_ble_eq_true rfl) rfl rfl (by omega) (Nat.le_of_ble_eq_true rfl) ?_
    refine aw_iload_n (n := 1) dX8_refused_0 rfl rfl ?_
    refine aw_tswIn (n := 91) (off := 90) dX8_refused_1 (by decide) (by decide) (by decide) (by decide) ?_
    refine aw_iload_n (n := 92) dX8_refused_91 rfl rfl ?_
    refine aw_if_ge (tg := 99) (n := 95) dX8_refused_92 (by decide) rfl (fun c_92 => ?_) (fun c_92 => by exact absurd (i_nlt.mp h1) c_92)
    refine aw_iload_n (n := 100) dX8_refused_99 rfl rfl ?_
    refine aw_bipush (n := 102) (v := 16) dX8_refused_100 (by decide) rfl ?_
    refine aw_icmp_le (tg := 110) (n := 105) dX8_refused_102 (by decide) rfl (fun c_102 => by exact absurd h2 (i_nlt.mpr c_102)) (fun c_102 => ?_)
    refine aw_bipush (n := 107) (v := 6) dX8_refused_105 (by decide) rfl ?_
    refine aw_goto (n := 126) dX8_refused_107 (by decide) ?_
    refine aw_iret dX8_refused_126 rfl ?_
    dsimp only [aPush]
    refine aw_puti (n := 141) dX8_rows_138 pX8_110 E_164 rfl rfl ?_
    refine aw_aload_n (n := 142) dX8_rows_141 rfl rfl ?_
    refine aw_geti (n := 145) dX8_rows_142 fX8_110 E_164 rfl rfl ?_
    rw [up2_s]
    refine aw_if_eq (tg := 149) (n := 148) dX8_rows_145 (by decide) rfl (fun c_145 => by exact absurd c_145 (by decide)) (fun c_145 => ?_)
    refine aw_vret dX8_rows_148 rfl ?_
    exact thr_e (k := 6) hQ
  by_cases h3 : y < 0 ∨ nI r.length - z < y
  · rw [if_neg h1, if_neg h2, if_pos h3] at hQ
    refine aw_iload_n (n := 1) dX8_rows_0 rfl rfl ?_
    refine aw_s1 (d1 := d - 1) (n := 4) (Z := mX8_parts) (L0 := [_]) dX8_rows_1 kX8_parts gX8_99 syX8_parts rfl (Nat.le_of_ble_eq_true rfl) rfl rfl (by omega) (Nat.le_of_ble_eq_true rfl) ?_
    refine aw_iload_n (n := 1) dX8_parts_0 rfl rfl ?_
    refine aw_iconst (n := 2) (v := 3) dX8_parts_1 (by decide) rfl ?_
    refine aw_icmp_ge (tg := 7) (n := 5) dX8_parts_2 (by decide) rfl (fun _ => ?_) (fun c_2 => by first | exact absurd rfl c_2 | exact absurd c_2 (by decide))
    refine aw_iload_n (n := 8) dX8_parts_7 rfl rfl ?_
    refine aw_bipush (n := 10) (v := 11) dX8_parts_8 (by decide) rfl ?_
    refine aw_icmp_eq (tg := 37) (n := 13) dX8_parts_10 (by decide) rfl (fun c_10 => by first | exact absurd rfl c_10 | exact absurd c_10 (by decide)) (fun _ => ?_)
    refine aw_iload_n (n := 14) dX8_parts_13 rfl rfl ?_
    refine aw_bipush (n := 16) (v := 12) dX8_parts_14 (by decide) rfl ?_
    refine aw_icmp_eq (tg := 37) (n := 19) dX8_parts_16 (by decide) rfl (fun c_16 => by first | exact absurd rfl c_16 | exact absurd c_16 (by decide)) (fun _ => ?_)
    refine aw_iload_n (n := 20) dX8_parts_19 rfl rfl ?_
    refine aw_bipush (n := 22) (v := 16) dX8_parts_20 (by decide) rfl ?_
    refine aw_icmp_eq (tg := 37) (n := 25) dX8_parts_22 (by decide) rfl (fun c_22 => by first | exact absurd rfl c_22 | exact absurd c_22 (by decide)) (fun _ => ?_)
    refine aw_iload_n (n := 26) dX8_parts_25 rfl rfl ?_
    refine aw_bipush (n := 28) (v := 17) dX8_parts_26 (by decide) rfl ?_
    refine aw_icmp_eq (tg := 37) (n := 31) dX8_parts_28 (by decide) rfl (fun c_28 => by first | exact absurd rfl c_28 | exact absurd c_28 (by decide)) (fun _ => ?_)
    refine aw_iload_n (n := 32) dX8_parts_31 rfl rfl ?_
    refine aw_bipush (n := 34) (v := 18) dX8_parts_32 (by decide) rfl ?_
    refine aw_icmp_ne (tg := 39) (n := 37) dX8_parts_34 (by decide) rfl (fun _ => ?_) (fun c_34 => by first | exact absurd rfl c_34 | exact absurd c_34 (by decide))
    refine aw_iload_n (n := 40) dX8_parts_39 rfl rfl ?_
    refine aw_bipush (n := 42) (v := 13) dX8_parts_40 (by decide) rfl ?_
    refine aw_icmp_eq (tg := 57) (n := 45) dX8_parts_42 (by decide) rfl (fun c_42 => by first | exact absurd rfl c_42 | exact absurd c_42 (by decide)) (fun _ => ?_)
    refine aw_iload_n (n := 46) dX8_parts_45 rfl rfl ?_
    refine aw_bipush (n := 48) (v := 15) dX8_parts_46 (by decide) rfl ?_
    refine aw_icmp_eq (tg := 57) (n := 51) dX8_parts_48 (by decide) rfl (fun _ => ?_) (fun c_48 => by first | exact absurd rfl c_48 | exact absurd c_48 (by decide))
    refine aw_iconst (n := 58) (v := 3) dX8_parts_57 (by decide) rfl ?_
    refine aw_goto (n := 62) dX8_parts_58 (by decide) ?_
    refine aw_iret dX8_parts_62 rfl ?_
    dsimp only [aPush]
    refine aw_istore_n (n := 5) (L' := [_, _, _, _, _, _, _, _]) dX8_rows_4 (Nat.le_of_ble_eq_true rfl) rfl rfl ?_
    refine aw_aload_n (n := 6) dX8_rows_5 rfl rfl ?_
    refine aw_aload_n (n := 7) dX8_rows_6 rfl rfl ?_
    refine aw_iload_n (n := 8) dX8_rows_7 rfl rfl ?_
    refine aw_iload_n (n := 9) dX8_rows_8 rfl rfl ?_
    refine aw_bipush (n := 11) (v := 12) dX8_rows_9 (by decide) rfl ?_
    refine aw_icmp_ne (tg := 18) (n := 14) dX8_rows_11 (by decide) rfl (fun _ => ?_) (fun c_11 => by first | exact absurd rfl c_11 | exact absurd c_11 (by decide))
    refine aw_iconst (n := 19) (v := 1) dX8_rows_18 (by decide) rfl ?_
    refine aw_v2 (d1 := d - 1) (n := 22) (Z := mX8_wrong) (ci := 6) (L0 := [_, _, _]) dX8_rows_19 kX8_wrong gX8_141 iyX8_wrong eyX8_wrong rfl rfl E_164 rfl rfl (Nat.le_of_ble_eq_true rfl) rfl rfl (by omega) (Nat.le_of_ble_eq_true rfl) (m_wrong (need := 1) (by omega) (by decide) ha ?_)
    dsimp only [aPush]
    rw [ka]
    refine aw_puti (n := 25) dX8_rows_22 pX8_110 E_164 rfl rfl ?_
    rw [up2_id (x := nI 0) h20]
    refine aw_aload_n (n := 26) dX8_rows_25 rfl rfl ?_
    refine aw_aload_n (n := 27) dX8_rows_26 rfl rfl ?_
    refine aw_geti (n := 30) dX8_rows_27 fX8_110 E_164 rfl rfl ?_
    rw [h20]
    refine aw_if_ne (tg := 38) (n := 33) dX8_rows_30 (by decide) rfl (fun c_30 => by exact absurd rfl c_30) (fun c_30 => ?_)
    refine aw_iload_n (n := 34) dX8_rows_33 rfl rfl ?_
    refine aw_iconst (n := 35) (v := 2) dX8_rows_34 (by decide) rfl ?_
    refine aw_icmp_ge (tg := 45) (n := 38) dX8_rows_35 (by decide) rfl (fun _ => ?_) (fun c_35 => by first | exact absurd rfl c_35 | exact absurd c_35 (by decide))
    refine aw_aload_n (n := 46) dX8_rows_45 rfl rfl ?_
    refine aw_iload_n (n := 47) dX8_rows_46 rfl rfl ?_
    refine aw_iconst (n := 48) (v := 1) dX8_rows_47 (by decide) rfl ?_
    refine aw_iadd (n := 49) dX8_rows_48 rfl ?_
    rw [nI_1]
    refine aw_iload_n (n := 50) dX8_rows_49 rfl rfl ?_
    refine aw_bipush (n := 52) (v := 14) dX8_rows_50 (by decide) rfl ?_
    refine aw_icmp_ne (tg := 59) (n := 55) dX8_rows_52 (by decide) rfl (fun _ => ?_) (fun c_52 => by first | exact absurd rfl c_52 | exact absurd c_52 (by decide))
    refine aw_iconst (n := 60) (v := 0) dX8_rows_59 (by decide) rfl ?_
    refine aw_v2 (d1 := d - 1) (n := 63) (Z := mX8_wrong) (ci := 6) (L0 := [_, _, _]) dX8_rows_60 kX8_wrong gX8_141 iyX8_wrong eyX8_wrong rfl rfl E_164 rfl rfl (Nat.le_of_ble_eq_true rfl) rfl rfl (by omega) (Nat.le_of_ble_eq_true rfl) (m_wrong (need := 0) (by omega) (by decide) hb ?_)
    dsimp only [aPush]
    rw [kb]
    refine aw_puti (n := 66) dX8_rows_63 pX8_110 E_164 rfl rfl ?_
    rw [up2_id (x := nI 0) h20]
    refine aw_aload_n (n := 67) dX8_rows_66 rfl rfl ?_
    refine aw_aload_n (n := 68) dX8_rows_67 rfl rfl ?_
    refine aw_geti (n := 71) dX8_rows_68 fX8_110 E_164 rfl rfl ?_
    rw [h20]
    refine aw_if_ne (tg := 79) (n := 74) dX8_rows_71 (by decide) rfl (fun c_71 => by exact absurd rfl c_71) (fun c_71 => ?_)
    refine aw_iload_n (n := 75) dX8_rows_74 rfl rfl ?_
    refine aw_iconst (n := 76) (v := 3) dX8_rows_75 (by decide) rfl ?_
    refine aw_icmp_ge (tg := 86) (n := 79) dX8_rows_76 (by decide) rfl (fun _ => ?_) (fun c_76 => by first | exact absurd rfl c_76 | exact absurd c_76 (by decide))
    refine aw_aload_n (n := 87) dX8_rows_86 rfl rfl ?_
    refine aw_iload_n (n := 88) dX8_rows_87 rfl rfl ?_
    refine aw_iconst (n := 89) (v := 2) dX8_rows_88 (by decide) rfl ?_
    refine aw_iadd (n := 90) dX8_rows_89 rfl ?_
    rw [show (2 : Int32) = nI 2 from rfl, nI_add]
    refine aw_iconst (n := 91) (v := 0) dX8_rows_90 (by decide) rfl ?_
    refine aw_v2 (d1 := d - 1) (n := 94) (Z := mX8_wrong) (ci := 6) (L0 := [_, _, _]) dX8_rows_91 kX8_wrong gX8_141 iyX8_wrong eyX8_wrong rfl rfl E_164 rfl rfl (Nat.le_of_ble_eq_true rfl) rfl rfl (by omega) (Nat.le_of_ble_eq_true rfl) (m_wrong (need := 0) (by omega) (by decide) hc ?_)
    dsimp only [aPush]
    rw [kc]
    refine aw_puti (n := 97) dX8_rows_94 pX8_110 E_164 rfl rfl ?_
    rw [up2_id (x := nI 0) h20]
    refine aw_aload_n (n := 98) dX8_rows_97 rfl rfl ?_
    refine aw_aload_n (n := 99) dX8_rows_98 rfl rfl ?_
    refine aw_geti (n := 102) dX8_rows_99 fX8_110 E_164 rfl rfl ?_
    rw [h20]
    refine aw_if_eq (tg := 112) (n := 105) dX8_rows_102 (by decide) rfl (fun c_102 => ?_) (fun c_102 => by exact absurd rfl c_102)
    refine aw_iload_n (n := 113) dX8_rows_112 rfl rfl ?_
    refine aw_aload_n (n := 114) dX8_rows_113 rfl rfl ?_
    refine aw_getr (n := 117) dX8_rows_114 fX8_43 E_164 rfl rfl ?_
    refine aw_iload_n (n := 118) dX8_rows_117 rfl rfl ?_
    refine aw_iald (n := 119) dX8_rows_118 E_176 (by assumption) rfl ?_
    refine aw_aload_n (n := 120) dX8_rows_119 rfl rfl ?_
    refine aw_getr (n := 123) dX8_rows_120 fX8_43 E_164 rfl rfl ?_
    refine aw_iload_n (n := 124) dX8_rows_123 rfl rfl ?_
    refine aw_iconst (n := 125) (v := 1) dX8_rows_124 (by decide) rfl ?_
    refine aw_iadd (n := 126) dX8_rows_125 rfl ?_
    rw [nI_1]
    refine aw_iald (n := 127) dX8_rows_126 E_176 (by assumption) rfl ?_
    refine aw_aload_n (n := 128) dX8_rows_127 rfl rfl ?_
    refine aw_getr (n := 131) dX8_rows_128 fX8_43 E_164 rfl rfl ?_
    refine aw_iload_n (n := 132) dX8_rows_131 rfl rfl ?_
    refine aw_iconst (n := 133) (v := 2) dX8_rows_132 (by decide) rfl ?_
    refine aw_iadd (n := 134) dX8_rows_133 rfl ?_
    rw [show (2 : Int32) = nI 2 from rfl, nI_add]
    refine aw_iald (n := 135) dX8_rows_134 E_176 (by assumption) rfl ?_
    rw [haa, hbb, hcc, gx, gy, gz]
    refine aw_s4 (d1 := d - 1) (n := 138) (Z := mX8_refused) (L0 := [_, _, _, _]) dX8_rows_135 kX8_refused gX8_164 syX8_refused rfl rfl rfl rfl (Nat.le_of_ble_eq_true rfl) rfl rfl (by omega) (Nat.le_of_ble_eq_true rfl) ?_
    refine aw_iload_n (n := 1) dX8_refused_0 rfl rfl ?_
    refine aw_tswIn (n := 91) (off := 90) dX8_refused_1 (by decide) (by decide) (by decide) (by decide) ?_
    refine aw_iload_n (n := 92) dX8_refused_91 rfl rfl ?_
    refine aw_if_ge (tg := 99) (n := 95) dX8_refused_92 (by decide) rfl (fun c_92 => ?_) (fun c_92 => by exact absurd (i_nlt.mp h1) c_92)
    refine aw_iload_n (n := 100) dX8_refused_99 rfl rfl ?_
    refine aw_bipush (n := 102) (v := 16) dX8_refused_100 (by decide) rfl ?_
    refine aw_icmp_le (tg := 110) (n := 105) dX8_refused_102 (by decide) rfl (fun c_102 => ?_) (fun c_102 => by exact absurd (i_nlt.mp h2) c_102)
    refine aw_iload_n (n := 111) dX8_refused_110 rfl rfl ?_
    refine aw_if_lt (tg := 121) (n := 114) dX8_refused_111 (by decide) rfl (fun c_111 => ?_) (fun c_111 => ?_)
    · refine aw_iconst (n := 122) (v := 2) dX8_refused_121 (by decide) rfl ?_
      refine aw_goto (n := 126) dX8_refused_122 (by decide) ?_
      refine aw_iret dX8_refused_126 rfl ?_
      dsimp only [aPush]
      refine aw_puti (n := 141) dX8_rows_138 pX8_110 E_164 rfl rfl ?_
      refine aw_aload_n (n := 142) dX8_rows_141 rfl rfl ?_
      refine aw_geti (n := 145) dX8_rows_142 fX8_110 E_164 rfl rfl ?_
      rw [up2_s]
      refine aw_if_eq (tg := 149) (n := 148) dX8_rows_145 (by decide) rfl (fun c_145 => by exact absurd c_145 (by decide)) (fun c_145 => ?_)
      refine aw_vret dX8_rows_148 rfl ?_
      exact thr_e (k := 2) hQ
    · refine aw_iload_n (n := 115) dX8_refused_114 rfl rfl ?_
      refine aw_iload_n (n := 116) dX8_refused_115 rfl rfl ?_
      refine aw_iload_n (n := 117) dX8_refused_116 rfl rfl ?_
      refine aw_isub (n := 118) dX8_refused_117 rfl ?_
      refine aw_icmp_le (tg := 125) (n := 121) dX8_refused_118 (by decide) rfl (fun c_118 => by exact (h3.elim c_111 (i_nlt.mpr c_118)).elim) (fun c_118 => ?_)
      refine aw_iconst (n := 122) (v := 2) dX8_refused_121 (by decide) rfl ?_
      refine aw_goto (n := 126) dX8_refused_122 (by decide) ?_
      refine aw_iret dX8_refused_126 rfl ?_
      dsimp only [aPush]
      refine aw_puti (n := 141) dX8_rows_138 pX8_110 E_164 rfl rfl ?_
      refine aw_aload_n (n := 142) dX8_rows_141 rfl rfl ?_
      refine aw_geti (n := 145) dX8_rows_142 fX8_110 E_164 rfl rfl ?_
      rw [up2_s]
      refine aw_if_eq (tg := 149) (n := 148) dX8_rows_145 (by decide) rfl (fun c_145 => by exact absurd c_145 (by decide)) (fun c_145 => ?_)
      refine aw_vret dX8_rows_148 rfl ?_
      exact thr_e (k := 2) hQ
  rw [if_neg h1, if_neg h2, if_neg h3] at hQ
  obtain ⟨n, hn, rfl⟩ := nI_of2 (M := 16) (n := 16) (by decide) h1 (i_nlt.mp h2)
  have hi0 : ¬ y < 0 := fun q => h3 (Or.inl q)
  have hi1 : ¬ nI r.length - nI n < y := fun q => h3 (Or.inr q)
  have hle : n ≤ r.length ∧ ∃ j, j ≤ r.length - n ∧ y = nI j := by
    obtain ⟨j, hj, rfl⟩ := nI_of hi0
    by_cases hnr : n ≤ r.length
    · rw [pk_sub hnr] at hi1
      refine ⟨hnr, j, ?_, rfl⟩
      exact Nat.not_lt.mp fun q => hi1 (nI_lt q hj)
    · exact absurd (by
        have h8 : nI r.length - nI n < 0 := pk_sneg (by omega) (by omega)
        simp only [Int32.lt_iff_toInt_lt, ti_0] at h8 hi0 ⊢
        omega) hi1
  obtain ⟨hnr, j, hj, rfl⟩ := hle
  rw [nI_clamp (by omega), nI_clamp (by omega)] at hQ
  refine aw_iload_n (n := 1) dX8_rows_0 rfl rfl ?_
  refine aw_s1 (d1 := d - 1) (n := 4) (Z := mX8_parts) (L0 := [_]) dX8_rows_1 kX8_parts gX8_99 syX8_parts rfl (Nat.le_of_ble_eq_true rfl) rfl rfl (by omega) (Nat.le_of_ble_eq_true rfl) ?_
  refine aw_iload_n (n := 1) dX8_parts_0 rfl rfl ?_
  refine aw_iconst (n := 2) (v := 3) dX8_parts_1 (by decide) rfl ?_
  refine aw_icmp_ge (tg := 7) (n := 5) dX8_parts_2 (by decide) rfl (fun _ => ?_) (fun c_2 => by first | exact absurd rfl c_2 | exact absurd c_2 (by decide))
  refine aw_iload_n (n := 8) dX8_parts_7 rfl rfl ?_
  refine aw_bipush (n := 10) (v := 11) dX8_parts_8 (by decide) rfl ?_
  refine aw_icmp_eq (tg := 37) (n := 13) dX8_parts_10 (by decide) rfl (fun c_10 => by first | exact absurd rfl c_10 | exact absurd c_10 (by decide)) (fun _ => ?_)
  refine aw_iload_n (n := 14) dX8_parts_13 rfl rfl ?_
  refine aw_bipush (n := 16) (v := 12) dX8_parts_14 (by decide) rfl ?_
  refine aw_icmp_eq (tg := 37) (n := 19) dX8_parts_16 (by decide) rfl (fun c_16 => by first | exact absurd rfl c_16 | exact absurd c_16 (by decide)) (fun _ => ?_)
  refine aw_iload_n (n := 20) dX8_parts_19 rfl rfl ?_
  refine aw_bipush (n := 22) (v := 16) dX8_parts_20 (by decide) rfl ?_
  refine aw_icmp_eq (tg := 37) (n := 25) dX8_parts_22 (by decide) rfl (fun c_22 => by first | exact absurd rfl c_22 | exact absurd c_22 (by decide)) (fun _ => ?_)
  refine aw_iload_n (n := 26) dX8_parts_25 rfl rfl ?_
  refine aw_bipush (n := 28) (v := 17) dX8_parts_26 (by decide) rfl ?_
  refine aw_icmp_eq (tg := 37) (n := 31) dX8_parts_28 (by decide) rfl (fun c_28 => by first | exact absurd rfl c_28 | exact absurd c_28 (by decide)) (fun _ => ?_)
  refine aw_iload_n (n := 32) dX8_parts_31 rfl rfl ?_
  refine aw_bipush (n := 34) (v := 18) dX8_parts_32 (by decide) rfl ?_
  refine aw_icmp_ne (tg := 39) (n := 37) dX8_parts_34 (by decide) rfl (fun _ => ?_) (fun c_34 => by first | exact absurd rfl c_34 | exact absurd c_34 (by decide))
  refine aw_iload_n (n := 40) dX8_parts_39 rfl rfl ?_
  refine aw_bipush (n := 42) (v := 13) dX8_parts_40 (by decide) rfl ?_
  refine aw_icmp_eq (tg := 57) (n := 45) dX8_parts_42 (by decide) rfl (fun c_42 => by first | exact absurd rfl c_42 | exact absurd c_42 (by decide)) (fun _ => ?_)
  refine aw_iload_n (n := 46) dX8_parts_45 rfl rfl ?_
  refine aw_bipush (n := 48) (v := 15) dX8_parts_46 (by decide) rfl ?_
  refine aw_icmp_eq (tg := 57) (n := 51) dX8_parts_48 (by decide) rfl (fun _ => ?_) (fun c_48 => by first | exact absurd rfl c_48 | exact absurd c_48 (by decide))
  refine aw_iconst (n := 58) (v := 3) dX8_parts_57 (by decide) rfl ?_
  refine aw_goto (n := 62) dX8_parts_58 (by decide) ?_
  refine aw_iret dX8_parts_62 rfl ?_
  dsimp only [aPush]
  refine aw_istore_n (n := 5) (L' := [_, _, _, _, _, _, _, _]) dX8_rows_4 (Nat.le_of_ble_eq_true rfl) rfl rfl ?_
  refine aw_aload_n (n := 6) dX8_rows_5 rfl rfl ?_
  refine aw_aload_n (n := 7) dX8_rows_6 rfl rfl ?_
  refine aw_iload_n (n := 8) dX8_rows_7 rfl rfl ?_
  refine aw_iload_n (n := 9) dX8_rows_8 rfl rfl ?_
  refine aw_bipush (n := 11) (v := 12) dX8_rows_9 (by decide) rfl ?_
  refine aw_icmp_ne (tg := 18) (n := 14) dX8_rows_11 (by decide) rfl (fun _ => ?_) (fun c_11 => by first | exact absurd rfl c_11 | exact absurd c_11 (by decide))
  refine aw_iconst (n := 19) (v := 1) dX8_rows_18 (by decide) rfl ?_
  refine aw_v2 (d1 := d - 1) (n := 22) (Z := mX8_wrong) (ci := 6) (L0 := [_, _, _]) dX8_rows_19 kX8_wrong gX8_141 iyX8_wrong eyX8_wrong rfl rfl E_164 rfl rfl (Nat.le_of_ble_eq_true rfl) rfl rfl (by omega) (Nat.le_of_ble_eq_true rfl) (m_wrong (need := 1) (by omega) (by decide) ha ?_)
  dsimp only [aPush]
  rw [ka]
  refine aw_puti (n := 25) dX8_rows_22 pX8_110 E_164 rfl rfl ?_
  rw [up2_id (x := nI 0) h20]
  refine aw_aload_n (n := 26) dX8_rows_25 rfl rfl ?_
  refine aw_aload_n (n := 27) dX8_rows_26 rfl rfl ?_
  refine aw_geti (n := 30) dX8_rows_27 fX8_110 E_164 rfl rfl ?_
  rw [h20]
  refine aw_if_ne (tg := 38) (n := 33) dX8_rows_30 (by decide) rfl (fun c_30 => by exact absurd rfl c_30) (fun c_30 => ?_)
  refine aw_iload_n (n := 34) dX8_rows_33 rfl rfl ?_
  refine aw_iconst (n := 35) (v := 2) dX8_rows_34 (by decide) rfl ?_
  refine aw_icmp_ge (tg := 45) (n := 38) dX8_rows_35 (by decide) rfl (fun _ => ?_) (fun c_35 => by first | exact absurd rfl c_35 | exact absurd c_35 (by decide))
  refine aw_aload_n (n := 46) dX8_rows_45 rfl rfl ?_
  refine aw_iload_n (n := 47) dX8_rows_46 rfl rfl ?_
  refine aw_iconst (n := 48) (v := 1) dX8_rows_47 (by decide) rfl ?_
  refine aw_iadd (n := 49) dX8_rows_48 rfl ?_
  rw [nI_1]
  refine aw_iload_n (n := 50) dX8_rows_49 rfl rfl ?_
  refine aw_bipush (n := 52) (v := 14) dX8_rows_50 (by decide) rfl ?_
  refine aw_icmp_ne (tg := 59) (n := 55) dX8_rows_52 (by decide) rfl (fun _ => ?_) (fun c_52 => by first | exact absurd rfl c_52 | exact absurd c_52 (by decide))
  refine aw_iconst (n := 60) (v := 0) dX8_rows_59 (by decide) rfl ?_
  refine aw_v2 (d1 := d - 1) (n := 63) (Z := mX8_wrong) (ci := 6) (L0 := [_, _, _]) dX8_rows_60 kX8_wrong gX8_141 iyX8_wrong eyX8_wrong rfl rfl E_164 rfl rfl (Nat.le_of_ble_eq_true rfl) rfl rfl (by omega) (Nat.le_of_ble_eq_true rfl) (m_wrong (need := 0) (by omega) (by decide) hb ?_)
  dsimp only [aPush]
  rw [kb]
  refine aw_puti (n := 66) dX8_rows_63 pX8_110 E_164 rfl rfl ?_
  rw [up2_id (x := nI 0) h20]
  refine aw_aload_n (n := 67) dX8_rows_66 rfl rfl ?_
  refine aw_aload_n (n := 68) dX8_rows_67 rfl rfl ?_
  refine aw_geti (n := 71) dX8_rows_68 fX8_110 E_164 rfl rfl ?_
  rw [h20]
  refine aw_if_ne (tg := 79) (n := 74) dX8_rows_71 (by decide) rfl (fun c_71 => by exact absurd rfl c_71) (fun c_71 => ?_)
  refine aw_iload_n (n := 75) dX8_rows_74 rfl rfl ?_
  refine aw_iconst (n := 76) (v := 3) dX8_rows_75 (by decide) rfl ?_
  refine aw_icmp_ge (tg := 86) (n := 79) dX8_rows_76 (by decide) rfl (fun _ => ?_) (fun c_76 => by first | exact absurd rfl c_76 | exact absurd c_76 (by decide))
  refine aw_aload_n (n := 87) dX8_rows_86 rfl rfl ?_
  refine aw_iload_n (n := 88) dX8_rows_87 rfl rfl ?_
  refine aw_iconst (n := 89) (v := 2) dX8_rows_88 (by decide) rfl ?_
  refine aw_iadd (n := 90) dX8_rows_89 rfl ?_
  rw [show (2 : Int32) = nI 2 from rfl, nI_add]
  refine aw_iconst (n := 91) (v := 0) dX8_rows_90 (by decide) rfl ?_
  refine aw_v2 (d1 := d - 1) (n := 94) (Z := mX8_wrong) (ci := 6) (L0 := [_, _, _]) dX8_rows_91 kX8_wrong gX8_141 iyX8_wrong eyX8_wrong rfl rfl E_164 rfl rfl (Nat.le_of_ble_eq_true rfl) rfl rfl (by omega) (Nat.le_of_ble_eq_true rfl) (m_wrong (need := 0) (by omega) (by decide) hc ?_)
  dsimp only [aPush]
  rw [kc]
  refine aw_puti (n := 97) dX8_rows_94 pX8_110 E_164 rfl rfl ?_
  rw [up2_id (x := nI 0) h20]
  refine aw_aload_n (n := 98) dX8_rows_97 rfl rfl ?_
  refine aw_aload_n (n := 99) dX8_rows_98 rfl rfl ?_
  refine aw_geti (n := 102) dX8_rows_99 fX8_110 E_164 rfl rfl ?_
  rw [h20]
  refine aw_if_eq (tg := 112) (n := 105) dX8_rows_102 (by decide) rfl (fun c_102 => ?_) (fun c_102 => by exact absurd rfl c_102)
  refine aw_iload_n (n := 113) dX8_rows_112 rfl rfl ?_
  refine aw_aload_n (n := 114) dX8_rows_113 rfl rfl ?_
  refine aw_getr (n := 117) dX8_rows_114 fX8_43 E_164 rfl rfl ?_
  refine aw_iload_n (n := 118) dX8_rows_117 rfl rfl ?_
  refine aw_iald (n := 119) dX8_rows_118 E_176 (by assumption) rfl ?_
  refine aw_aload_n (n := 120) dX8_rows_119 rfl rfl ?_
  refine aw_getr (n := 123) dX8_rows_120 fX8_43 E_164 rfl rfl ?_
  refine aw_iload_n (n := 124) dX8_rows_123 rfl rfl ?_
  refine aw_iconst (n := 125) (v := 1) dX8_rows_124 (by decide) rfl ?_
  refine aw_iadd (n := 126) dX8_rows_125 rfl ?_
  rw [nI_1]
  refine aw_iald (n := 127) dX8_rows_126 E_176 (by assumption) rfl ?_
  refine aw_aload_n (n := 128) dX8_rows_127 rfl rfl ?_
  refine aw_getr (n := 131) dX8_rows_128 fX8_43 E_164 rfl rfl ?_
  refine aw_iload_n (n := 132) dX8_rows_131 rfl rfl ?_
  refine aw_iconst (n := 133) (v := 2) dX8_rows_132 (by decide) rfl ?_
  refine aw_iadd (n := 134) dX8_rows_133 rfl ?_
  rw [show (2 : Int32) = nI 2 from rfl, nI_add]
  refine aw_iald (n := 135) dX8_rows_134 E_176 (by assumption) rfl ?_
  rw [haa, hbb, hcc, gx, gy, gz]
  refine aw_s4 (d1 := d - 1) (n := 138) (Z := mX8_refused) (L0 := [_, _, _, _]) dX8_rows_135 kX8_refused gX8_164 syX8_refused rfl rfl rfl rfl (Nat.le_of_ble_eq_true rfl) rfl rfl (by omega) (Nat.le_of_ble_eq_true rfl) ?_
  refine aw_iload_n (n := 1) dX8_refused_0 rfl rfl ?_
  refine aw_tswIn (n := 91) (off := 90) dX8_refused_1 (by decide) (by decide) (by decide) (by decide) ?_
  refine aw_iload_n (n := 92) dX8_refused_91 rfl rfl ?_
  refine aw_if_ge (tg := 99) (n := 95) dX8_refused_92 (by decide) rfl (fun c_92 => ?_) (fun c_92 => by exact absurd (i_nlt.mp h1) c_92)
  refine aw_iload_n (n := 100) dX8_refused_99 rfl rfl ?_
  refine aw_bipush (n := 102) (v := 16) dX8_refused_100 (by decide) rfl ?_
  refine aw_icmp_le (tg := 110) (n := 105) dX8_refused_102 (by decide) rfl (fun c_102 => ?_) (fun c_102 => by exact absurd (i_nlt.mp h2) c_102)
  refine aw_iload_n (n := 111) dX8_refused_110 rfl rfl ?_
  refine aw_if_lt (tg := 121) (n := 114) dX8_refused_111 (by decide) rfl (fun c_111 => by exact absurd c_111 hi0) (fun c_111 => ?_)
  refine aw_iload_n (n := 115) dX8_refused_114 rfl rfl ?_
  refine aw_iload_n (n := 116) dX8_refused_115 rfl rfl ?_
  refine aw_iload_n (n := 117) dX8_refused_116 rfl rfl ?_
  refine aw_isub (n := 118) dX8_refused_117 rfl ?_
  refine aw_icmp_le (tg := 125) (n := 121) dX8_refused_118 (by decide) rfl (fun c_118 => ?_) (fun c_118 => by exact absurd (i_nlt.mp hi1) c_118)
  refine aw_iconst (n := 126) (v := 0) dX8_refused_125 (by decide) rfl ?_
  refine aw_iret dX8_refused_126 rfl ?_
  dsimp only [aPush]
  refine aw_puti (n := 141) dX8_rows_138 pX8_110 E_164 rfl rfl ?_
  rw [up2_id (x := 0) h20]
  refine aw_aload_n (n := 142) dX8_rows_141 rfl rfl ?_
  refine aw_geti (n := 145) dX8_rows_142 fX8_110 E_164 rfl rfl ?_
  rw [h20]
  refine aw_if_eq (tg := 149) (n := 148) dX8_rows_145 (by decide) rfl (fun c_145 => ?_) (fun c_145 => by exact absurd rfl c_145)
  refine aw_bipush (n := 151) (v := 16) dX8_rows_149 (by decide) rfl ?_
  refine aw_aload_n (n := 152) dX8_rows_151 rfl rfl ?_
  refine aw_getr (n := 155) dX8_rows_152 fX8_46 E_164 rfl rfl ?_
  refine aw_iload_n (n := 156) dX8_rows_155 rfl rfl ?_
  refine aw_iald (n := 157) dX8_rows_156 E_177 (by assumption) rfl ?_
  rw [haa, gp]
  refine aw_imul (n := 158) dX8_rows_157 rfl ?_
  rw [show (16 : Int32) = nI 16 from rfl, pk_mul]
  refine aw_istore (n := 160) (L' := [_, _, _, _, _, _, _, _]) dX8_rows_158 (Nat.le_of_ble_eq_true rfl) rfl rfl ?_
  refine aw_aload_n (n := 161) dX8_rows_160 rfl rfl ?_
  refine aw_getr (n := 164) dX8_rows_161 fX8_43 E_164 rfl rfl ?_
  refine aw_iload_n (n := 165) dX8_rows_164 rfl rfl ?_
  refine aw_iald (n := 166) dX8_rows_165 E_176 (by assumption) rfl ?_
  rw [haa, gx]
  refine aw_istore (n := 168) (L' := [_, _, _, _, _, _, _, _]) dX8_rows_166 (Nat.le_of_ble_eq_true rfl) rfl rfl ?_
  refine aw_iload_n (n := 169) dX8_rows_168 rfl rfl ?_
  refine aw_lsw (n := 273) (off := 104) dX8_rows_169 (by decide) (by decide) (by decide) ?_
  refine aw_aload_n (n := 274) dX8_rows_273 rfl rfl ?_
  refine aw_iload_n (n := 275) dX8_rows_274 rfl rfl ?_
  refine aw_iload_n (n := 276) dX8_rows_275 rfl rfl ?_
  refine aw_iload (n := 278) dX8_rows_276 rfl rfl ?_
  refine aw_iload (n := 280) dX8_rows_278 rfl rfl ?_
  refine aw_v4 (d1 := d - 1) (n := 283) (Z := mX8_rowOf) (ci := 6) (L0 := [_, _, _, _, _, .null, .null, .null, .null, .null, .null, .null, .null]) dX8_rows_280 kX8_rowOf gX8_168 iyX8_rowOf eyX8_rowOf rfl rfl E_164 rfl rfl rfl rfl (Nat.le_of_ble_eq_true rfl) rfl rfl (by omega) (Nat.le_of_ble_eq_true rfl) (m_rowOf15 (b := j) (c := n) (by omega) hmk ht h20 h22 hr hpl hst (by omega) (by omega) gy gz (eQ_inr fun mk1 M1 e2 e3 e4 e5 e6 e7 => ?_))
  dsimp only [aPush]
  refine aw_vret dX8_rows_283 rfl ?_
  exact hQ.2 _ mk1 M1 rfl e2 e3 e4 e5 e6 e7
theorem m_rows16 {mk t : Nat} {n0 : Int32} {inp : Nat → vV} {va : vV} (hd : 3 ≤ d) (hmk : mk < 60) (ht : t < 60) (h20 : M 164 20 = 0) (h22 : M 164 22 = nI mk) (ha : gV M mk (3 * t) va) (hQ : eQ mk M (op 16 n0 inp va none none) Q) : aw l K mX8_rows d 0 0 0 [.ref 164, .int (nI 16), .int (nI (3 * t)), .null, .null, .null, .null, .null] [] EE M Q := by
  have e164 := E_164
  have e176 := E_176
  have e177 := E_177
  have e178 := E_178
  have hina : vp_in (nI (3 * t)) 183 := vp_in_nI (by omega) (by decide)
  have hinb : vp_in (nI (3 * t + 1)) 183 := vp_in_nI (by omega) (by decide)
  have hinc : vp_in (nI (3 * t + 2)) 183 := vp_in_nI (by omega) (by decide)
  have haa : (nI (3 * t)).toNatClampNeg = 3 * t := nI_clamp (by omega)
  have hbb : (nI (3 * t + 1)).toNatClampNeg = 3 * t + 1 := nI_clamp (by omega)
  have hcc : (nI (3 * t + 2)).toNatClampNeg = 3 * t + 2 := nI_clamp (by omega)
  by_cases ka : lk 1 va = 0
  rotate_left
  · have hna : ¬ nI (lk 1 va) = 0 := nI_ne0 (by omega) (by have := lk_lt 1 va; omega)
    have hr : op 16 n0 inp va none none = .inl (lk 1 va) := by
      rcases va with _ | z | z
      · rfl
      · rfl
      · exact absurd rfl ka
    rw [hr] at hQ
    refine aw_iload_n (n := 1) dX8_rows_0 rfl rfl ?_
    refine aw_s1 (d1 := d - 1) (n := 4) (Z := mX8_parts) (L0 := [_]) dX8_rows_1 kX8_parts gX8_99 syX8_parts rfl (Nat.le_of_ble_eq_true rfl) rfl rfl (by omega) (Nat.le_of_ble_eq_true rfl) ?_
    refine aw_iload_n (n := 1) dX8_parts_0 rfl rfl ?_
    refine aw_iconst (n := 2) (v := 3) dX8_parts_1 (by decide) rfl ?_
    refine aw_icmp_ge (tg := 7) (n := 5) dX8_parts_2 (by decide) rfl (fun _ => ?_) (fun c_2 => by first | exact absurd rfl c_2 | exact absurd c_2 (by decide))
    refine aw_iload_n (n := 8) dX8_parts_7 rfl rfl ?_
    refine aw_bipush (n := 10) (v := 11) dX8_parts_8 (by decide) rfl ?_
    refine aw_icmp_eq (tg := 37) (n := 13) dX8_parts_10 (by decide) rfl (fun c_10 => by first | exact absurd rfl c_10 | exact absurd c_10 (by decide)) (fun _ => ?_)
    refine aw_iload_n (n := 14) dX8_parts_13 rfl rfl ?_
    refine aw_bipush (n := 16) (v := 12) dX8_parts_14 (by decide) rfl ?_
    refine aw_icmp_eq (tg := 37) (n := 19) dX8_parts_16 (by decide) rfl (fun c_16 => by first | exact absurd rfl c_16 | exact absurd c_16 (by decide)) (fun _ => ?_)
    refine aw_iload_n (n := 20) dX8_parts_19 rfl rfl ?_
    refine aw_bipush (n := 22) (v := 16) dX8_parts_20 (by decide) rfl ?_
    refine aw_icmp_eq (tg := 37) (n := 25) dX8_parts_22 (by decide) rfl (fun _ => ?_) (fun c_22 => by first | exact absurd rfl c_22 | exact absurd c_22 (by decide))
    refine aw_iconst (n := 38) (v := 1) dX8_parts_37 (by decide) rfl ?_
    refine aw_iret dX8_parts_38 rfl ?_
    dsimp only [aPush]
    refine aw_istore_n (n := 5) (L' := [_, _, _, _, _, _, _, _]) dX8_rows_4 (Nat.le_of_ble_eq_true rfl) rfl rfl ?_
    refine aw_aload_n (n := 6) dX8_rows_5 rfl rfl ?_
    refine aw_aload_n (n := 7) dX8_rows_6 rfl rfl ?_
    refine aw_iload_n (n := 8) dX8_rows_7 rfl rfl ?_
    refine aw_iload_n (n := 9) dX8_rows_8 rfl rfl ?_
    refine aw_bipush (n := 11) (v := 12) dX8_rows_9 (by decide) rfl ?_
    refine aw_icmp_ne (tg := 18) (n := 14) dX8_rows_11 (by decide) rfl (fun _ => ?_) (fun c_11 => by first | exact absurd rfl c_11 | exact absurd c_11 (by decide))
    refine aw_iconst (n := 19) (v := 1) dX8_rows_18 (by decide) rfl ?_
    refine aw_v2 (d1 := d - 1) (n := 22) (Z := mX8_wrong) (ci := 6) (L0 := [_, _, _]) dX8_rows_19 kX8_wrong gX8_141 iyX8_wrong eyX8_wrong rfl rfl E_164 rfl rfl (Nat.le_of_ble_eq_true rfl) rfl rfl (by omega) (Nat.le_of_ble_eq_true rfl) (m_wrong (need := 1) (by omega) (by decide) ha ?_)
    dsimp only [aPush]
    refine aw_puti (n := 25) dX8_rows_22 pX8_110 E_164 rfl rfl ?_
    refine aw_aload_n (n := 26) dX8_rows_25 rfl rfl ?_
    refine aw_aload_n (n := 27) dX8_rows_26 rfl rfl ?_
    refine aw_geti (n := 30) dX8_rows_27 fX8_110 E_164 rfl rfl ?_
    rw [up2_s]
    refine aw_if_ne (tg := 38) (n := 33) dX8_rows_30 (by decide) rfl (fun c_30 => ?_) (fun c_30 => by exact absurd c_30 hna)
    refine aw_aload_n (n := 39) dX8_rows_38 rfl rfl ?_
    refine aw_geti (n := 42) dX8_rows_39 fX8_110 E_164 rfl rfl ?_
    rw [up2_s]
    refine aw_goto (n := 63) dX8_rows_42 (by decide) ?_
    refine aw_puti (n := 66) dX8_rows_63 pX8_110 E_164 rfl rfl ?_
    rw [up2_up2]
    refine aw_aload_n (n := 67) dX8_rows_66 rfl rfl ?_
    refine aw_aload_n (n := 68) dX8_rows_67 rfl rfl ?_
    refine aw_geti (n := 71) dX8_rows_68 fX8_110 E_164 rfl rfl ?_
    rw [up2_s]
    refine aw_if_ne (tg := 79) (n := 74) dX8_rows_71 (by decide) rfl (fun c_71 => ?_) (fun c_71 => by exact absurd c_71 hna)
    refine aw_aload_n (n := 80) dX8_rows_79 rfl rfl ?_
    refine aw_geti (n := 83) dX8_rows_80 fX8_110 E_164 rfl rfl ?_
    rw [up2_s]
    refine aw_goto (n := 94) dX8_rows_83 (by decide) ?_
    refine aw_puti (n := 97) dX8_rows_94 pX8_110 E_164 rfl rfl ?_
    rw [up2_up2]
    refine aw_aload_n (n := 98) dX8_rows_97 rfl rfl ?_
    refine aw_aload_n (n := 99) dX8_rows_98 rfl rfl ?_
    refine aw_geti (n := 102) dX8_rows_99 fX8_110 E_164 rfl rfl ?_
    rw [up2_s]
    refine aw_if_eq (tg := 112) (n := 105) dX8_rows_102 (by decide) rfl (fun c_102 => by exact absurd c_102 hna) (fun c_102 => ?_)
    refine aw_aload_n (n := 106) dX8_rows_105 rfl rfl ?_
    refine aw_geti (n := 109) dX8_rows_106 fX8_110 E_164 rfl rfl ?_
    rw [up2_s]
    refine aw_goto (n := 138) dX8_rows_109 (by decide) ?_
    refine aw_puti (n := 141) dX8_rows_138 pX8_110 E_164 rfl rfl ?_
    rw [up2_up2]
    refine aw_aload_n (n := 142) dX8_rows_141 rfl rfl ?_
    refine aw_geti (n := 145) dX8_rows_142 fX8_110 E_164 rfl rfl ?_
    rw [up2_s]
    refine aw_if_eq (tg := 149) (n := 148) dX8_rows_145 (by decide) rfl (fun c_145 => by exact absurd c_145 hna) (fun c_145 => ?_)
    refine aw_vret dX8_rows_148 rfl ?_
    exact thr_e hQ
  obtain ⟨r, rfl⟩ : ∃ z, va = some (.inr z) := by
    rcases va with _ | x9 | z
    · exact absurd ka (by decide)
    · exact absurd ka (by simp [lk, lk0])
    · exact ⟨z, rfl⟩
  obtain ⟨a1, hr, gx, pl, hpl, gp, hst⟩ := id ha
  have hQ : eQ mk M (.inr (some (.inr (lR r.length (srt (fR r) (r.length - 1)))))) Q := hQ
  refine aw_iload_n (n := 1) dX8_rows_0 rfl rfl ?_
  refine aw_s1 (d1 := d - 1) (n := 4) (Z := mX8_parts) (L0 := [_]) dX8_rows_1 kX8_parts gX8_99 syX8_parts rfl (Nat.le_of_ble_eq_true rfl) rfl rfl (by omega) (Nat.le_of_ble_eq_true rfl) ?_
  refine aw_iload_n (n := 1) dX8_parts_0 rfl rfl ?_
  refine aw_iconst (n := 2) (v := 3) dX8_parts_1 (by decide) rfl ?_
  refine aw_icmp_ge (tg := 7) (n := 5) dX8_parts_2 (by decide) rfl (fun _ => ?_) (fun c_2 => by first | exact absurd rfl c_2 | exact absurd c_2 (by decide))
  refine aw_iload_n (n := 8) dX8_parts_7 rfl rfl ?_
  refine aw_bipush (n := 10) (v := 11) dX8_parts_8 (by decide) rfl ?_
  refine aw_icmp_eq (tg := 37) (n := 13) dX8_parts_10 (by decide) rfl (fun c_10 => by first | exact absurd rfl c_10 | exact absurd c_10 (by decide)) (fun _ => ?_)
  refine aw_iload_n (n := 14) dX8_parts_13 rfl rfl ?_
  refine aw_bipush (n := 16) (v := 12) dX8_parts_14 (by decide) rfl ?_
  refine aw_icmp_eq (tg := 37) (n := 19) dX8_parts_16 (by decide) rfl (fun c_16 => by first | exact absurd rfl c_16 | exact absurd c_16 (by decide)) (fun _ => ?_)
  refine aw_iload_n (n := 20) dX8_parts_19 rfl rfl ?_
  refine aw_bipush (n := 22) (v := 16) dX8_parts_20 (by decide) rfl ?_
  refine aw_icmp_eq (tg := 37) (n := 25) dX8_parts_22 (by decide) rfl (fun _ => ?_) (fun c_22 => by first | exact absurd rfl c_22 | exact absurd c_22 (by decide))
  refine aw_iconst (n := 38) (v := 1) dX8_parts_37 (by decide) rfl ?_
  refine aw_iret dX8_parts_38 rfl ?_
  dsimp only [aPush]
  refine aw_istore_n (n := 5) (L' := [_, _, _, _, _, _, _, _]) dX8_rows_4 (Nat.le_of_ble_eq_true rfl) rfl rfl ?_
  refine aw_aload_n (n := 6) dX8_rows_5 rfl rfl ?_
  refine aw_aload_n (n := 7) dX8_rows_6 rfl rfl ?_
  refine aw_iload_n (n := 8) dX8_rows_7 rfl rfl ?_
  refine aw_iload_n (n := 9) dX8_rows_8 rfl rfl ?_
  refine aw_bipush (n := 11) (v := 12) dX8_rows_9 (by decide) rfl ?_
  refine aw_icmp_ne (tg := 18) (n := 14) dX8_rows_11 (by decide) rfl (fun _ => ?_) (fun c_11 => by first | exact absurd rfl c_11 | exact absurd c_11 (by decide))
  refine aw_iconst (n := 19) (v := 1) dX8_rows_18 (by decide) rfl ?_
  refine aw_v2 (d1 := d - 1) (n := 22) (Z := mX8_wrong) (ci := 6) (L0 := [_, _, _]) dX8_rows_19 kX8_wrong gX8_141 iyX8_wrong eyX8_wrong rfl rfl E_164 rfl rfl (Nat.le_of_ble_eq_true rfl) rfl rfl (by omega) (Nat.le_of_ble_eq_true rfl) (m_wrong (need := 1) (by omega) (by decide) ha ?_)
  dsimp only [aPush]
  rw [ka]
  refine aw_puti (n := 25) dX8_rows_22 pX8_110 E_164 rfl rfl ?_
  rw [up2_id (x := nI 0) h20]
  refine aw_aload_n (n := 26) dX8_rows_25 rfl rfl ?_
  refine aw_aload_n (n := 27) dX8_rows_26 rfl rfl ?_
  refine aw_geti (n := 30) dX8_rows_27 fX8_110 E_164 rfl rfl ?_
  rw [h20]
  refine aw_if_ne (tg := 38) (n := 33) dX8_rows_30 (by decide) rfl (fun c_30 => by exact absurd rfl c_30) (fun c_30 => ?_)
  refine aw_iload_n (n := 34) dX8_rows_33 rfl rfl ?_
  refine aw_iconst (n := 35) (v := 2) dX8_rows_34 (by decide) rfl ?_
  refine aw_icmp_ge (tg := 45) (n := 38) dX8_rows_35 (by decide) rfl (fun c_35 => by first | exact absurd rfl c_35 | exact absurd c_35 (by decide)) (fun _ => ?_)
  refine aw_aload_n (n := 39) dX8_rows_38 rfl rfl ?_
  refine aw_geti (n := 42) dX8_rows_39 fX8_110 E_164 rfl rfl ?_
  refine aw_goto (n := 63) dX8_rows_42 (by decide) ?_
  refine aw_puti (n := 66) dX8_rows_63 pX8_110 E_164 rfl rfl ?_
  rw [up2_self]
  refine aw_aload_n (n := 67) dX8_rows_66 rfl rfl ?_
  refine aw_aload_n (n := 68) dX8_rows_67 rfl rfl ?_
  refine aw_geti (n := 71) dX8_rows_68 fX8_110 E_164 rfl rfl ?_
  rw [h20]
  refine aw_if_ne (tg := 79) (n := 74) dX8_rows_71 (by decide) rfl (fun c_71 => by exact absurd rfl c_71) (fun c_71 => ?_)
  refine aw_iload_n (n := 75) dX8_rows_74 rfl rfl ?_
  refine aw_iconst (n := 76) (v := 3) dX8_rows_75 (by decide) rfl ?_
  refine aw_icmp_ge (tg := 86) (n := 79) dX8_rows_76 (by decide) rfl (fun c_76 => by first | exact absurd rfl c_76 | exact absurd c_76 (by decide)) (fun _ => ?_)
  refine aw_aload_n (n := 80) dX8_rows_79 rfl rfl ?_
  refine aw_geti (n := 83) dX8_rows_80 fX8_110 E_164 rfl rfl ?_
  refine aw_goto (n := 94) dX8_rows_83 (by decide) ?_
  refine aw_puti (n := 97) dX8_rows_94 pX8_110 E_164 rfl rfl ?_
  rw [up2_self]
  refine aw_aload_n (n := 98) dX8_rows_97 rfl rfl ?_
  refine aw_aload_n (n := 99) dX8_rows_98 rfl rfl ?_
  refine aw_geti (n := 102) dX8_rows_99 fX8_110 E_164 rfl rfl ?_
  rw [h20]
  refine aw_if_eq (tg := 112) (n := 105) dX8_rows_102 (by decide) rfl (fun c_102 => ?_) (fun c_102 => by exact absurd rfl c_102)
  refine aw_iload_n (n := 113) dX8_rows_112 rfl rfl ?_
  refine aw_aload_n (n := 114) dX8_rows_113 rfl rfl ?_
  refine aw_getr (n := 117) dX8_rows_114 fX8_43 E_164 rfl rfl ?_
  refine aw_iload_n (n := 118) dX8_rows_117 rfl rfl ?_
  refine aw_iald (n := 119) dX8_rows_118 E_176 (by assumption) rfl ?_
  refine aw_aload_n (n := 120) dX8_rows_119 rfl rfl ?_
  refine aw_getr (n := 123) dX8_rows_120 fX8_43 E_164 rfl rfl ?_
  refine aw_iload_n (n := 124) dX8_rows_123 rfl rfl ?_
  refine aw_iconst (n := 125) (v := 1) dX8_rows_124 (by decide) rfl ?_
  refine aw_iadd (n := 126) dX8_rows_125 rfl ?_
  rw [nI_1]
  refine aw_iald (n := 127) dX8_rows_126 E_176 (by assumption) rfl ?_
  refine aw_aload_n (n := 128) dX8_rows_127 rfl rfl ?_
  refine aw_getr (n := 131) dX8_rows_128 fX8_43 E_164 rfl rfl ?_
  refine aw_iload_n (n := 132) dX8_rows_131 rfl rfl ?_
  refine aw_iconst (n := 133) (v := 2) dX8_rows_132 (by decide) rfl ?_
  refine aw_iadd (n := 134) dX8_rows_133 rfl ?_
  rw [show (2 : Int32) = nI 2 from rfl, nI_add]
  refine aw_iald (n := 135) dX8_rows_134 E_176 (by assumption) rfl ?_
  rw [haa, hbb, hcc, gx]
  refine aw_s4 (d1 := d - 1) (n := 138) (Z := mX8_refused) (L0 := [_, _, _, _]) dX8_rows_135 kX8_refused gX8_164 syX8_refused rfl rfl rfl rfl (Nat.le_of_ble_eq_true rfl) rfl rfl (by omega) (Nat.le_of_ble_eq_true rfl) ?_
  refine aw_iload_n (n := 1) dX8_refused_0 rfl rfl ?_
  refine aw_tswOut (n := 127) dX8_refused_1 (by decide) (by decide) ?_
  refine aw_iconst (n := 128) (v := 0) dX8_refused_127 (by decide) rfl ?_
  refine aw_iret dX8_refused_128 rfl ?_
  dsimp only [aPush]
  refine aw_puti (n := 141) dX8_rows_138 pX8_110 E_164 rfl rfl ?_
  rw [up2_id (x := 0) h20]
  refine aw_aload_n (n := 142) dX8_rows_141 rfl rfl ?_
  refine aw_geti (n := 145) dX8_rows_142 fX8_110 E_164 rfl rfl ?_
  rw [h20]
  refine aw_if_eq (tg := 149) (n := 148) dX8_rows_145 (by decide) rfl (fun c_145 => ?_) (fun c_145 => by exact absurd rfl c_145)
  refine aw_bipush (n := 151) (v := 16) dX8_rows_149 (by decide) rfl ?_
  refine aw_aload_n (n := 152) dX8_rows_151 rfl rfl ?_
  refine aw_getr (n := 155) dX8_rows_152 fX8_46 E_164 rfl rfl ?_
  refine aw_iload_n (n := 156) dX8_rows_155 rfl rfl ?_
  refine aw_iald (n := 157) dX8_rows_156 E_177 (by assumption) rfl ?_
  rw [haa, gp]
  refine aw_imul (n := 158) dX8_rows_157 rfl ?_
  rw [show (16 : Int32) = nI 16 from rfl, pk_mul]
  refine aw_istore (n := 160) (L' := [_, _, _, _, _, _, _, _]) dX8_rows_158 (Nat.le_of_ble_eq_true rfl) rfl rfl ?_
  refine aw_aload_n (n := 161) dX8_rows_160 rfl rfl ?_
  refine aw_getr (n := 164) dX8_rows_161 fX8_43 E_164 rfl rfl ?_
  refine aw_iload_n (n := 165) dX8_rows_164 rfl rfl ?_
  refine aw_iald (n := 166) dX8_rows_165 E_176 (by assumption) rfl ?_
  rw [haa, gx]
  refine aw_istore (n := 168) (L' := [_, _, _, _, _, _, _, _]) dX8_rows_166 (Nat.le_of_ble_eq_true rfl) rfl rfl ?_
  refine aw_iload_n (n := 169) dX8_rows_168 rfl rfl ?_
  refine aw_lsw (n := 273) (off := 104) dX8_rows_169 (by decide) (by decide) (by decide) ?_
  refine aw_aload_n (n := 274) dX8_rows_273 rfl rfl ?_
  refine aw_iload_n (n := 275) dX8_rows_274 rfl rfl ?_
  refine aw_iload_n (n := 276) dX8_rows_275 rfl rfl ?_
  refine aw_iload (n := 278) dX8_rows_276 rfl rfl ?_
  refine aw_iload (n := 280) dX8_rows_278 rfl rfl ?_
  refine aw_v4 (d1 := d - 1) (n := 283) (Z := mX8_rowOf) (ci := 6) (L0 := [_, _, _, _, _, .null, .null, .null, .null, .null, .null, .null, .null]) dX8_rows_280 kX8_rowOf gX8_168 iyX8_rowOf eyX8_rowOf rfl rfl E_164 rfl rfl rfl rfl (Nat.le_of_ble_eq_true rfl) rfl rfl (by omega) (Nat.le_of_ble_eq_true rfl) (m_rowOf16 (by omega) hmk ht h20 h22 hr hpl hst (eQ_inr fun mk1 M1 e2 e3 e4 e5 e6 e7 => ?_))
  dsimp only [aPush]
  refine aw_vret dX8_rows_283 rfl ?_
  exact hQ.2 _ mk1 M1 rfl e2 e3 e4 e5 e6 e7
theorem m_rows17 {mk t : Nat} {n0 : Int32} {inp : Nat → vV} {va : vV} (hd : 3 ≤ d) (hmk : mk < 60) (ht : t < 60) (h20 : M 164 20 = 0) (h22 : M 164 22 = nI mk) (ha : gV M mk (3 * t) va) (hQ : eQ mk M (op 17 n0 inp va none none) Q) : aw l K mX8_rows d 0 0 0 [.ref 164, .int (nI 17), .int (nI (3 * t)), .null, .null, .null, .null, .null] [] EE M Q := by
  have e164 := E_164
  have e176 := E_176
  have e177 := E_177
  have e178 := E_178
  have hina : vp_in (nI (3 * t)) 183 := vp_in_nI (by omega) (by decide)
  have hinb : vp_in (nI (3 * t + 1)) 183 := vp_in_nI (by omega) (by decide)
  have hinc : vp_in (nI (3 * t + 2)) 183 := vp_in_nI (by omega) (by decide)
  have haa : (nI (3 * t)).toNatClampNeg = 3 * t := nI_clamp (by omega)
  have hbb : (nI (3 * t + 1)).toNatClampNeg = 3 * t + 1 := nI_clamp (by omega)
  have hcc : (nI (3 * t + 2)).toNatClampNeg = 3 * t + 2 := nI_clamp (by omega)
  by_cases ka : lk 1 va = 0
  rotate_left
  · have hna : ¬ nI (lk 1 va) = 0 := nI_ne0 (by omega) (by have := lk_lt 1 va; omega)
    have hr : op 17 n0 inp va none none = .inl (lk 1 va) := by
      rcases va with _ | z | z
      · rfl
      · rfl
      · exact absurd rfl ka
    rw [hr] at hQ
    refine aw_iload_n (n := 1) dX8_rows_0 rfl rfl ?_
    refine aw_s1 (d1 := d - 1) (n := 4) (Z := mX8_parts) (L0 := [_]) dX8_rows_1 kX8_parts gX8_99 syX8_parts rfl (Nat.le_of_ble_eq_true rfl) rfl rfl (by omega) (Nat.le_of_ble_eq_true rfl) ?_
    refine aw_iload_n (n := 1) dX8_parts_0 rfl rfl ?_
    refine aw_iconst (n := 2) (v := 3) dX8_parts_1 (by decide) rfl ?_
    refine aw_icmp_ge (tg := 7) (n := 5) dX8_parts_2 (by decide) rfl (fun _ => ?_) (fun c_2 => by first | exact absurd rfl c_2 | exact absurd c_2 (by decide))
    refine aw_iload_n (n := 8) dX8_parts_7 rfl rfl ?_
    refine aw_bipush (n := 10) (v := 11) dX8_parts_8 (by decide) rfl ?_
    refine aw_icmp_eq (tg := 37) (n := 13) dX8_parts_10 (by decide) rfl (fun c_10 => by first | exact absurd rfl c_10 | exact absurd c_10 (by decide)) (fun _ => ?_)
    refine aw_iload_n (n := 14) dX8_parts_13 rfl rfl ?_
    refine aw_bipush (n := 16) (v := 12) dX8_parts_14 (by decide) rfl ?_
    refine aw_icmp_eq (tg := 37) (n := 19) dX8_parts_16 (by decide) rfl (fun c_16 => by first | exact absurd rfl c_16 | exact absurd c_16 (by decide)) (fun _ => ?_)
    refine aw_iload_n (n := 20) dX8_parts_19 rfl rfl ?_
    refine aw_bipush (n := 22) (v := 16) dX8_parts_20 (by decide) rfl ?_
    refine aw_icmp_eq (tg := 37) (n := 25) dX8_parts_22 (by decide) rfl (fun c_22 => by first | exact absurd rfl c_22 | exact absurd c_22 (by decide)) (fun _ => ?_)
    refine aw_iload_n (n := 26) dX8_parts_25 rfl rfl ?_
    refine aw_bipush (n := 28) (v := 17) dX8_parts_26 (by decide) rfl ?_
    refine aw_icmp_eq (tg := 37) (n := 31) dX8_parts_28 (by decide) rfl (fun _ => ?_) (fun c_28 => by first | exact absurd rfl c_28 | exact absurd c_28 (by decide))
    refine aw_iconst (n := 38) (v := 1) dX8_parts_37 (by decide) rfl ?_
    refine aw_iret dX8_parts_38 rfl ?_
    dsimp only [aPush]
    refine aw_istore_n (n := 5) (L' := [_, _, _, _, _, _, _, _]) dX8_rows_4 (Nat.le_of_ble_eq_true rfl) rfl rfl ?_
    refine aw_aload_n (n := 6) dX8_rows_5 rfl rfl ?_
    refine aw_aload_n (n := 7) dX8_rows_6 rfl rfl ?_
    refine aw_iload_n (n := 8) dX8_rows_7 rfl rfl ?_
    refine aw_iload_n (n := 9) dX8_rows_8 rfl rfl ?_
    refine aw_bipush (n := 11) (v := 12) dX8_rows_9 (by decide) rfl ?_
    refine aw_icmp_ne (tg := 18) (n := 14) dX8_rows_11 (by decide) rfl (fun _ => ?_) (fun c_11 => by first | exact absurd rfl c_11 | exact absurd c_11 (by decide))
    refine aw_iconst (n := 19) (v := 1) dX8_rows_18 (by decide) rfl ?_
    refine aw_v2 (d1 := d - 1) (n := 22) (Z := mX8_wrong) (ci := 6) (L0 := [_, _, _]) dX8_rows_19 kX8_wrong gX8_141 iyX8_wrong eyX8_wrong rfl rfl E_164 rfl rfl (Nat.le_of_ble_eq_true rfl) rfl rfl (by omega) (Nat.le_of_ble_eq_true rfl) (m_wrong (need := 1) (by omega) (by decide) ha ?_)
    dsimp only [aPush]
    refine aw_puti (n := 25) dX8_rows_22 pX8_110 E_164 rfl rfl ?_
    refine aw_aload_n (n := 26) dX8_rows_25 rfl rfl ?_
    refine aw_aload_n (n := 27) dX8_rows_26 rfl rfl ?_
    refine aw_geti (n := 30) dX8_rows_27 fX8_110 E_164 rfl rfl ?_
    rw [up2_s]
    refine aw_if_ne (tg := 38) (n := 33) dX8_rows_30 (by decide) rfl (fun c_30 => ?_) (fun c_30 => by exact absurd c_30 hna)
    refine aw_aload_n (n := 39) dX8_rows_38 rfl rfl ?_
    refine aw_geti (n := 42) dX8_rows_39 fX8_110 E_164 rfl rfl ?_
    rw [up2_s]
    refine aw_goto (n := 63) dX8_rows_42 (by decide) ?_
    refine aw_puti (n := 66) dX8_rows_63 pX8_110 E_164 rfl rfl ?_
    rw [up2_up2]
    refine aw_aload_n (n := 67) dX8_rows_66 rfl rfl ?_
    refine aw_aload_n (n := 68) dX8_rows_67 rfl rfl ?_
    refine aw_geti (n := 71) dX8_rows_68 fX8_110 E_164 rfl rfl ?_
    rw [up2_s]
    refine aw_if_ne (tg := 79) (n := 74) dX8_rows_71 (by decide) rfl (fun c_71 => ?_) (fun c_71 => by exact absurd c_71 hna)
    refine aw_aload_n (n := 80) dX8_rows_79 rfl rfl ?_
    refine aw_geti (n := 83) dX8_rows_80 fX8_110 E_164 rfl rfl ?_
    rw [up2_s]
    refine aw_goto (n := 94) dX8_rows_83 (by decide) ?_
    refine aw_puti (n := 97) dX8_rows_94 pX8_110 E_164 rfl rfl ?_
    rw [up2_up2]
    refine aw_aload_n (n := 98) dX8_rows_97 rfl rfl ?_
    refine aw_aload_n (n := 99) dX8_rows_98 rfl rfl ?_
    refine aw_geti (n := 102) dX8_rows_99 fX8_110 E_164 rfl rfl ?_
    rw [up2_s]
    refine aw_if_eq (tg := 112) (n := 105) dX8_rows_102 (by decide) rfl (fun c_102 => by exact absurd c_102 hna) (fun c_102 => ?_)
    refine aw_aload_n (n := 106) dX8_rows_105 rfl rfl ?_
    refine aw_geti (n := 109) dX8_rows_106 fX8_110 E_164 rfl rfl ?_
    rw [up2_s]
    refine aw_goto (n := 138) dX8_rows_109 (by decide) ?_
    refine aw_puti (n := 141) dX8_rows_138 pX8_110 E_164 rfl rfl ?_
    rw [up2_up2]
    refine aw_aload_n (n := 142) dX8_rows_141 rfl rfl ?_
    refine aw_geti (n := 145) dX8_rows_142 fX8_110 E_164 rfl rfl ?_
    rw [up2_s]
    refine aw_if_eq (tg := 149) (n := 148) dX8_rows_145 (by decide) rfl (fun c_145 => by exact absurd c_145 hna) (fun c_145 => ?_)
    refine aw_vret dX8_rows_148 rfl ?_
    exact thr_e hQ
  obtain ⟨r, rfl⟩ : ∃ z, va = some (.inr z) := by
    rcases va with _ | x9 | z
    · exact absurd ka (by decide)
    · exact absurd ka (by simp [lk, lk0])
    · exact ⟨z, rfl⟩
  obtain ⟨a1, hr, gx, pl, hpl, gp, hst⟩ := id ha
  have hQ : eQ mk M (.inr (some (.inr (r.reverse)))) Q := hQ
  refine aw_iload_n (n := 1) dX8_rows_0 rfl rfl ?_
  refine aw_s1 (d1 := d - 1) (n := 4) (Z := mX8_parts) (L0 := [_]) dX8_rows_1 kX8_parts gX8_99 syX8_parts rfl (Nat.le_of_ble_eq_true rfl) rfl rfl (by omega) (Nat.le_of_ble_eq_true rfl) ?_
  refine aw_iload_n (n := 1) dX8_parts_0 rfl rfl ?_
  refine aw_iconst (n := 2) (v := 3) dX8_parts_1 (by decide) rfl ?_
  refine aw_icmp_ge (tg := 7) (n := 5) dX8_parts_2 (by decide) rfl (fun _ => ?_) (fun c_2 => by first | exact absurd rfl c_2 | exact absurd c_2 (by decide))
  refine aw_iload_n (n := 8) dX8_parts_7 rfl rfl ?_
  refine aw_bipush (n := 10) (v := 11) dX8_parts_8 (by decide) rfl ?_
  refine aw_icmp_eq (tg := 37) (n := 13) dX8_parts_10 (by decide) rfl (fun c_10 => by first | exact absurd rfl c_10 | exact absurd c_10 (by decide)) (fun _ => ?_)
  refine aw_iload_n (n := 14) dX8_parts_13 rfl rfl ?_
  refine aw_bipush (n := 16) (v := 12) dX8_parts_14 (by decide) rfl ?_
  refine aw_icmp_eq (tg := 37) (n := 19) dX8_parts_16 (by decide) rfl (fun c_16 => by first | exact absurd rfl c_16 | exact absurd c_16 (by decide)) (fun _ => ?_)
  refine aw_iload_n (n := 20) dX8_parts_19 rfl rfl ?_
  refine aw_bipush (n := 22) (v := 16) dX8_parts_20 (by decide) rfl ?_
  refine aw_icmp_eq (tg := 37) (n := 25) dX8_parts_22 (by decide) rfl (fun c_22 => by first | exact absurd rfl c_22 | exact absurd c_22 (by decide)) (fun _ => ?_)
  refine aw_iload_n (n := 26) dX8_parts_25 rfl rfl ?_
  refine aw_bipush (n := 28) (v := 17) dX8_parts_26 (by decide) rfl ?_
  refine aw_icmp_eq (tg := 37) (n := 31) dX8_parts_28 (by decide) rfl (fun _ => ?_) (fun c_28 => by first | exact absurd rfl c_28 | exact absurd c_28 (by decide))
  refine aw_iconst (n := 38) (v := 1) dX8_parts_37 (by decide) rfl ?_
  refine aw_iret dX8_parts_38 rfl ?_
  dsimp only [aPush]
  refine aw_istore_n (n := 5) (L' := [_, _, _, _, _, _, _, _]) dX8_rows_4 (Nat.le_of_ble_eq_true rfl) rfl rfl ?_
  refine aw_aload_n (n := 6) dX8_rows_5 rfl rfl ?_
  refine aw_aload_n (n := 7) dX8_rows_6 rfl rfl ?_
  refine aw_iload_n (n := 8) dX8_rows_7 rfl rfl ?_
  refine aw_iload_n (n := 9) dX8_rows_8 rfl rfl ?_
  refine aw_bipush (n := 11) (v := 12) dX8_rows_9 (by decide) rfl ?_
  refine aw_icmp_ne (tg := 18) (n := 14) dX8_rows_11 (by decide) rfl (fun _ => ?_) (fun c_11 => by first | exact absurd rfl c_11 | exact absurd c_11 (by decide))
  refine aw_iconst (n := 19) (v := 1) dX8_rows_18 (by decide) rfl ?_
  refine aw_v2 (d1 := d - 1) (n := 22) (Z := mX8_wrong) (ci := 6) (L0 := [_, _, _]) dX8_rows_19 kX8_wrong gX8_141 iyX8_wrong eyX8_wrong rfl rfl E_164 rfl rfl (Nat.le_of_ble_eq_true rfl) rfl rfl (by omega) (Nat.le_of_ble_eq_true rfl) (m_wrong (need := 1) (by omega) (by decide) ha ?_)
  dsimp only [aPush]
  rw [ka]
  refine aw_puti (n := 25) dX8_rows_22 pX8_110 E_164 rfl rfl ?_
  rw [up2_id (x := nI 0) h20]
  refine aw_aload_n (n := 26) dX8_rows_25 rfl rfl ?_
  refine aw_aload_n (n := 27) dX8_rows_26 rfl rfl ?_
  refine aw_geti (n := 30) dX8_rows_27 fX8_110 E_164 rfl rfl ?_
  rw [h20]
  refine aw_if_ne (tg := 38) (n := 33) dX8_rows_30 (by decide) rfl (fun c_30 => by exact absurd rfl c_30) (fun c_30 => ?_)
  refine aw_iload_n (n := 34) dX8_rows_33 rfl rfl ?_
  refine aw_iconst (n := 35) (v := 2) dX8_rows_34 (by decide) rfl ?_
  refine aw_icmp_ge (tg := 45) (n := 38) dX8_rows_35 (by decide) rfl (fun c_35 => by first | exact absurd rfl c_35 | exact absurd c_35 (by decide)) (fun _ => ?_)
  refine aw_aload_n (n := 39) dX8_rows_38 rfl rfl ?_
  refine aw_geti (n := 42) dX8_rows_39 fX8_110 E_164 rfl rfl ?_
  refine aw_goto (n := 63) dX8_rows_42 (by decide) ?_
  refine aw_puti (n := 66) dX8_rows_63 pX8_110 E_164 rfl rfl ?_
  rw [up2_self]
  refine aw_aload_n (n := 67) dX8_rows_66 rfl rfl ?_
  refine aw_aload_n (n := 68) dX8_rows_67 rfl rfl ?_
  refine aw_geti (n := 71) dX8_rows_68 fX8_110 E_164 rfl rfl ?_
  rw [h20]
  refine aw_if_ne (tg := 79) (n := 74) dX8_rows_71 (by decide) rfl (fun c_71 => by exact absurd rfl c_71) (fun c_71 => ?_)
  refine aw_iload_n (n := 75) dX8_rows_74 rfl rfl ?_
  refine aw_iconst (n := 76) (v := 3) dX8_rows_75 (by decide) rfl ?_
  refine aw_icmp_ge (tg := 86) (n := 79) dX8_rows_76 (by decide) rfl (fun c_76 => by first | exact absurd rfl c_76 | exact absurd c_76 (by decide)) (fun _ => ?_)
  refine aw_aload_n (n := 80) dX8_rows_79 rfl rfl ?_
  refine aw_geti (n := 83) dX8_rows_80 fX8_110 E_164 rfl rfl ?_
  refine aw_goto (n := 94) dX8_rows_83 (by decide) ?_
  refine aw_puti (n := 97) dX8_rows_94 pX8_110 E_164 rfl rfl ?_
  rw [up2_self]
  refine aw_aload_n (n := 98) dX8_rows_97 rfl rfl ?_
  refine aw_aload_n (n := 99) dX8_rows_98 rfl rfl ?_
  refine aw_geti (n := 102) dX8_rows_99 fX8_110 E_164 rfl rfl ?_
  rw [h20]
  refine aw_if_eq (tg := 112) (n := 105) dX8_rows_102 (by decide) rfl (fun c_102 => ?_) (fun c_102 => by exact absurd rfl c_102)
  refine aw_iload_n (n := 113) dX8_rows_112 rfl rfl ?_
  refine aw_aload_n (n := 114) dX8_rows_113 rfl rfl ?_
  refine aw_getr (n := 117) dX8_rows_114 fX8_43 E_164 rfl rfl ?_
  refine aw_iload_n (n := 118) dX8_rows_117 rfl rfl ?_
  refine aw_iald (n := 119) dX8_rows_118 E_176 (by assumption) rfl ?_
  refine aw_aload_n (n := 120) dX8_rows_119 rfl rfl ?_
  refine aw_getr (n := 123) dX8_rows_120 fX8_43 E_164 rfl rfl ?_
  refine aw_iload_n (n := 124) dX8_rows_123 rfl rfl ?_
  refine aw_iconst (n := 125) (v := 1) dX8_rows_124 (by decide) rfl ?_
  refine aw_iadd (n := 126) dX8_rows_125 rfl ?_
  rw [nI_1]
  refine aw_iald (n := 127) dX8_rows_126 E_176 (by assumption) rfl ?_
  refine aw_aload_n (n := 128) dX8_rows_127 rfl rfl ?_
  refine aw_getr (n := 131) dX8_rows_128 fX8_43 E_164 rfl rfl ?_
  refine aw_iload_n (n := 132) dX8_rows_131 rfl rfl ?_
  refine aw_iconst (n := 133) (v := 2) dX8_rows_132 (by decide) rfl ?_
  refine aw_iadd (n := 134) dX8_rows_133 rfl ?_
  rw [show (2 : Int32) = nI 2 from rfl, nI_add]
  refine aw_iald (n := 135) dX8_rows_134 E_176 (by assumption) rfl ?_
  rw [haa, hbb, hcc, gx]
  refine aw_s4 (d1 := d - 1) (n := 138) (Z := mX8_refused) (L0 := [_, _, _, _]) dX8_rows_135 kX8_refused gX8_164 syX8_refused rfl rfl rfl rfl (Nat.le_of_ble_eq_true rfl) rfl rfl (by omega) (Nat.le_of_ble_eq_true rfl) ?_
  refine aw_iload_n (n := 1) dX8_refused_0 rfl rfl ?_
  refine aw_tswOut (n := 127) dX8_refused_1 (by decide) (by decide) ?_
  refine aw_iconst (n := 128) (v := 0) dX8_refused_127 (by decide) rfl ?_
  refine aw_iret dX8_refused_128 rfl ?_
  dsimp only [aPush]
  refine aw_puti (n := 141) dX8_rows_138 pX8_110 E_164 rfl rfl ?_
  rw [up2_id (x := 0) h20]
  refine aw_aload_n (n := 142) dX8_rows_141 rfl rfl ?_
  refine aw_geti (n := 145) dX8_rows_142 fX8_110 E_164 rfl rfl ?_
  rw [h20]
  refine aw_if_eq (tg := 149) (n := 148) dX8_rows_145 (by decide) rfl (fun c_145 => ?_) (fun c_145 => by exact absurd rfl c_145)
  refine aw_bipush (n := 151) (v := 16) dX8_rows_149 (by decide) rfl ?_
  refine aw_aload_n (n := 152) dX8_rows_151 rfl rfl ?_
  refine aw_getr (n := 155) dX8_rows_152 fX8_46 E_164 rfl rfl ?_
  refine aw_iload_n (n := 156) dX8_rows_155 rfl rfl ?_
  refine aw_iald (n := 157) dX8_rows_156 E_177 (by assumption) rfl ?_
  rw [haa, gp]
  refine aw_imul (n := 158) dX8_rows_157 rfl ?_
  rw [show (16 : Int32) = nI 16 from rfl, pk_mul]
  refine aw_istore (n := 160) (L' := [_, _, _, _, _, _, _, _]) dX8_rows_158 (Nat.le_of_ble_eq_true rfl) rfl rfl ?_
  refine aw_aload_n (n := 161) dX8_rows_160 rfl rfl ?_
  refine aw_getr (n := 164) dX8_rows_161 fX8_43 E_164 rfl rfl ?_
  refine aw_iload_n (n := 165) dX8_rows_164 rfl rfl ?_
  refine aw_iald (n := 166) dX8_rows_165 E_176 (by assumption) rfl ?_
  rw [haa, gx]
  refine aw_istore (n := 168) (L' := [_, _, _, _, _, _, _, _]) dX8_rows_166 (Nat.le_of_ble_eq_true rfl) rfl rfl ?_
  refine aw_iload_n (n := 169) dX8_rows_168 rfl rfl ?_
  refine aw_lsw (n := 273) (off := 104) dX8_rows_169 (by decide) (by decide) (by decide) ?_
  refine aw_aload_n (n := 274) dX8_rows_273 rfl rfl ?_
  refine aw_iload_n (n := 275) dX8_rows_274 rfl rfl ?_
  refine aw_iload_n (n := 276) dX8_rows_275 rfl rfl ?_
  refine aw_iload (n := 278) dX8_rows_276 rfl rfl ?_
  refine aw_iload (n := 280) dX8_rows_278 rfl rfl ?_
  refine aw_v4 (d1 := d - 1) (n := 283) (Z := mX8_rowOf) (ci := 6) (L0 := [_, _, _, _, _, .null, .null, .null, .null, .null, .null, .null, .null]) dX8_rows_280 kX8_rowOf gX8_168 iyX8_rowOf eyX8_rowOf rfl rfl E_164 rfl rfl rfl rfl (Nat.le_of_ble_eq_true rfl) rfl rfl (by omega) (Nat.le_of_ble_eq_true rfl) (m_rowOf17 (by omega) hmk ht h20 h22 hr hpl hst (eQ_inr fun mk1 M1 e2 e3 e4 e5 e6 e7 => ?_))
  dsimp only [aPush]
  refine aw_vret dX8_rows_283 rfl ?_
  exact hQ.2 _ mk1 M1 rfl e2 e3 e4 e5 e6 e7
theorem m_rows18 {mk t : Nat} {n0 : Int32} {inp : Nat → vV} {va : vV} (hd : 3 ≤ d) (hmk : mk < 60) (ht : t < 60) (h20 : M 164 20 = 0) (h22 : M 164 22 = nI mk) (ha : gV M mk (3 * t) va) (hQ : eQ mk M (op 18 n0 inp va none none) Q) : aw l K mX8_rows d 0 0 0 [.ref 164, .int (nI 18), .int (nI (3 * t)), .null, .null, .null, .null, .null] [] EE M Q := by
  have e164 := E_164
  have e176 := E_176
  have e177 := E_177
  have e178 := E_178
  have hina : vp_in (nI (3 * t)) 183 := vp_in_nI (by omega) (by decide)
  have hinb : vp_in (nI (3 * t + 1)) 183 := vp_in_nI (by omega) (by decide)
  have hinc : vp_in (nI (3 * t + 2)) 183 := vp_in_nI (by omega) (by decide)
  have haa : (nI (3 * t)).toNatClampNeg = 3 * t := nI_clamp (by omega)
  have hbb : (nI (3 * t + 1)).toNatClampNeg = 3 * t + 1 := nI_clamp (by omega)
  have hcc : (nI (3 * t + 2)).toNatClampNeg = 3 * t + 2 := nI_clamp (by omega)
  by_cases ka : lk 1 va = 0
  rotate_left
  · have hna : ¬ nI (lk 1 va) = 0 := nI_ne0 (by omega) (by have := lk_lt 1 va; omega)
    have hr : op 18 n0 inp va none none = .inl (lk 1 va) := by
      rcases va with _ | z | z
      · rfl
      · rfl
      · exact absurd rfl ka
    rw [hr] at hQ
    refine aw_iload_n (n := 1) dX8_rows_0 rfl rfl ?_
    refine aw_s1 (d1 := d - 1) (n := 4) (Z := mX8_parts) (L0 := [_]) dX8_rows_1 kX8_parts gX8_99 syX8_parts rfl (Nat.le_of_ble_eq_true rfl) rfl rfl (by omega) (Nat.le_of_ble_eq_true rfl) ?_
    refine aw_iload_n (n := 1) dX8_parts_0 rfl rfl ?_
    refine aw_iconst (n := 2) (v := 3) dX8_parts_1 (by decide) rfl ?_
    refine aw_icmp_ge (tg := 7) (n := 5) dX8_parts_2 (by decide) rfl (fun _ => ?_) (fun c_2 => by first | exact absurd rfl c_2 | exact absurd c_2 (by decide))
    refine aw_iload_n (n := 8) dX8_parts_7 rfl rfl ?_
    refine aw_bipush (n := 10) (v := 11) dX8_parts_8 (by decide) rfl ?_
    refine aw_icmp_eq (tg := 37) (n := 13) dX8_parts_10 (by decide) rfl (fun c_10 => by first | exact absurd rfl c_10 | exact absurd c_10 (by decide)) (fun _ => ?_)
    refine aw_iload_n (n := 14) dX8_parts_13 rfl rfl ?_
    refine aw_bipush (n := 16) (v := 12) dX8_parts_14 (by decide) rfl ?_
    refine aw_icmp_eq (tg := 37) (n := 19) dX8_parts_16 (by decide) rfl (fun c_16 => by first | exact absurd rfl c_16 | exact absurd c_16 (by decide)) (fun _ => ?_)
    refine aw_iload_n (n := 20) dX8_parts_19 rfl rfl ?_
    refine aw_bipush (n := 22) (v := 16) dX8_parts_20 (by decide) rfl ?_
    refine aw_icmp_eq (tg := 37) (n := 25) dX8_parts_22 (by decide) rfl (fun c_22 => by first | exact absurd rfl c_22 | exact absurd c_22 (by decide)) (fun _ => ?_)
    refine aw_iload_n (n := 26) dX8_parts_25 rfl rfl ?_
    refine aw_bipush (n := 28) (v := 17) dX8_parts_26 (by decide) rfl ?_
    refine aw_icmp_eq (tg := 37) (n := 31) dX8_parts_28 (by decide) rfl (fun c_28 => by first | exact absurd rfl c_28 | exact absurd c_28 (by decide)) (fun _ => ?_)
    refine aw_iload_n (n := 32) dX8_parts_31 rfl rfl ?_
    refine aw_bipush (n := 34) (v := 18) dX8_parts_32 (by decide) rfl ?_
    refine aw_icmp_ne (tg := 39) (n := 37) dX8_parts_34 (by decide) rfl (fun c_34 => by first | exact absurd rfl c_34 | exact absurd c_34 (by decide)) (fun _ => ?_)
    refine aw_iconst (n := 38) (v := 1) dX8_parts_37 (by decide) rfl ?_
    refine aw_iret dX8_parts_38 rfl ?_
    dsimp only [aPush]
    refine aw_istore_n (n := 5) (L' := [_, _, _, _, _, _, _, _]) dX8_rows_4 (Nat.le_of_ble_eq_true rfl) rfl rfl ?_
    refine aw_aload_n (n := 6) dX8_rows_5 rfl rfl ?_
    refine aw_aload_n (n := 7) dX8_rows_6 rfl rfl ?_
    refine aw_iload_n (n := 8) dX8_rows_7 rfl rfl ?_
    refine aw_iload_n (n := 9) dX8_rows_8 rfl rfl ?_
    refine aw_bipush (n := 11) (v := 12) dX8_rows_9 (by decide) rfl ?_
    refine aw_icmp_ne (tg := 18) (n := 14) dX8_rows_11 (by decide) rfl (fun _ => ?_) (fun c_11 => by first | exact absurd rfl c_11 | exact absurd c_11 (by decide))
    refine aw_iconst (n := 19) (v := 1) dX8_rows_18 (by decide) rfl ?_
    refine aw_v2 (d1 := d - 1) (n := 22) (Z := mX8_wrong) (ci := 6) (L0 := [_, _, _]) dX8_rows_19 kX8_wrong gX8_141 iyX8_wrong eyX8_wrong rfl rfl E_164 rfl rfl (Nat.le_of_ble_eq_true rfl) rfl rfl (by omega) (Nat.le_of_ble_eq_true rfl) (m_wrong (need := 1) (by omega) (by decide) ha ?_)
    dsimp only [aPush]
    refine aw_puti (n := 25) dX8_rows_22 pX8_110 E_164 rfl rfl ?_
    refine aw_aload_n (n := 26) dX8_rows_25 rfl rfl ?_
    refine aw_aload_n (n := 27) dX8_rows_26 rfl rfl ?_
    refine aw_geti (n := 30) dX8_rows_27 fX8_110 E_164 rfl rfl ?_
    rw [up2_s]
    refine aw_if_ne (tg := 38) (n := 33) dX8_rows_30 (by decide) rfl (fun c_30 => ?_) (fun c_30 => by exact absurd c_30 hna)
    refine aw_aload_n (n := 39) dX8_rows_38 rfl rfl ?_
    refine aw_geti (n := 42) dX8_rows_39 fX8_110 E_164 rfl rfl ?_
    rw [up2_s]
    refine aw_goto (n := 63) dX8_rows_42 (by decide) ?_
    refine aw_puti (n := 66) dX8_rows_63 pX8_110 E_164 rfl rfl ?_
    rw [up2_up2]
    refine aw_aload_n (n := 67) dX8_rows_66 rfl rfl ?_
    refine aw_aload_n (n := 68) dX8_rows_67 rfl rfl ?_
    refine aw_geti (n := 71) dX8_rows_68 fX8_110 E_164 rfl rfl ?_
    rw [up2_s]
    refine aw_if_ne (tg := 79) (n := 74) dX8_rows_71 (by decide) rfl (fun c_71 => ?_) (fun c_71 => by exact absurd c_71 hna)
    refine aw_aload_n (n := 80) dX8_rows_79 rfl rfl ?_
    refine aw_geti (n := 83) dX8_rows_80 fX8_110 E_164 rfl rfl ?_
    rw [up2_s]
    refine aw_goto (n := 94) dX8_rows_83 (by decide) ?_
    refine aw_puti (n := 97) dX8_rows_94 pX8_110 E_164 rfl rfl ?_
    rw [up2_up2]
    refine aw_aload_n (n := 98) dX8_rows_97 rfl rfl ?_
    refine aw_aload_n (n := 99) dX8_rows_98 rfl rfl ?_
    refine aw_geti (n := 102) dX8_rows_99 fX8_110 E_164 rfl rfl ?_
    rw [up2_s]
    refine aw_if_eq (tg := 112) (n := 105) dX8_rows_102 (by decide) rfl (fun c_102 => by exact absurd c_102 hna) (fun c_102 => ?_)
    refine aw_aload_n (n := 106) dX8_rows_105 rfl rfl ?_
    refine aw_geti (n := 109) dX8_rows_106 fX8_110 E_164 rfl rfl ?_
    rw [up2_s]
    refine aw_goto (n := 138) dX8_rows_109 (by decide) ?_
    refine aw_puti (n := 141) dX8_rows_138 pX8_110 E_164 rfl rfl ?_
    rw [up2_up2]
    refine aw_aload_n (n := 142) dX8_rows_141 rfl rfl ?_
    refine aw_geti (n := 145) dX8_rows_142 fX8_110 E_164 rfl rfl ?_
    rw [up2_s]
    refine aw_if_eq (tg := 149) (n := 148) dX8_rows_145 (by decide) rfl (fun c_145 => by exact absurd c_145 hna) (fun c_145 => ?_)
    refine aw_vret dX8_rows_148 rfl ?_
    exact thr_e hQ
  obtain ⟨r, rfl⟩ : ∃ z, va = some (.inr z) := by
    rcases va with _ | x9 | z
    · exact absurd ka (by decide)
    · exact absurd ka (by simp [lk, lk0])
    · exact ⟨z, rfl⟩
  obtain ⟨a1, hr, gx, pl, hpl, gp, hst⟩ := id ha
  have hQ : eQ mk M (.inr (some (.inl (sumR r)))) Q := hQ
  have loop : ∀ m k sm x1 x3, m + k = r.length → sm = sumR (r.take k) → aw l K mX8_rows d 0 0 238 [.ref 164, x1, .int (nI (3 * t)), x3, .int (nI (16 * pl)), .int (nI r.length), .int sm, .int (nI k)] [] EE M Q := by
    intro m
    induction m with
    | zero =>
      intro k sm x1 x3 hk hs
      refine aw_iload (n := 240) dX8_rows_238 rfl rfl ?_
      refine aw_iload (n := 242) dX8_rows_240 rfl rfl ?_
      refine aw_icmp_ge (tg := 266) (n := 245) dX8_rows_242 (by decide) rfl (fun c_242 => ?_) (fun c_242 => by exact absurd (nI_le (by omega) (by omega)) c_242)
      refine aw_aload_n (n := 267) dX8_rows_266 rfl rfl ?_
      refine aw_iload (n := 269) dX8_rows_267 rfl rfl ?_
      refine aw_v1 (d1 := d - 1) (n := 272) (Z := mX8_whole) (ci := 6) (L0 := [_, _]) dX8_rows_269 kX8_whole gX8_149 iyX8_whole eyX8_whole rfl rfl E_164 rfl (Nat.le_of_ble_eq_true rfl) rfl rfl (by omega) (Nat.le_of_ble_eq_true rfl) ?_
      refine aw_aload_n (n := 1) dX8_whole_0 rfl rfl ?_
      refine aw_iconst (n := 2) (v := 0) dX8_whole_1 (by decide) rfl ?_
      refine aw_puti (n := 5) dX8_whole_2 pX8_128 E_164 rfl rfl ?_
      refine aw_aload_n (n := 6) dX8_whole_5 rfl rfl ?_
      refine aw_iload_n (n := 7) dX8_whole_6 rfl rfl ?_
      refine aw_puti (n := 10) dX8_whole_7 pX8_131 E_164 rfl rfl ?_
      refine aw_vret dX8_whole_10 rfl ?_
      dsimp only [aPush]
      refine aw_vret dX8_rows_272 rfl ?_
      rw [hs, List.take_of_length_le (by omega)]; exact eQ_whole hQ (fE_refl _ _) h20 h22
    | succ m ih =>
      intro k sm x1 x3 hk hs
      have hin : vp_in (nI (16 * pl + k)) 1024 := vp_in_nI (by omega) (by decide)
      refine aw_iload (n := 240) dX8_rows_238 rfl rfl ?_
      refine aw_iload (n := 242) dX8_rows_240 rfl rfl ?_
      refine aw_icmp_ge (tg := 266) (n := 245) dX8_rows_242 (by decide) rfl (fun c_242 => by exact absurd c_242 (nI_ge (by omega) (by omega))) (fun c_242 => ?_)
      refine aw_iload (n := 247) dX8_rows_245 rfl rfl ?_
      refine aw_aload_n (n := 248) dX8_rows_247 rfl rfl ?_
      refine aw_getr (n := 251) dX8_rows_248 fX8_49 E_164 rfl rfl ?_
      refine aw_iload (n := 253) dX8_rows_251 rfl rfl ?_
      refine aw_iload (n := 255) dX8_rows_253 rfl rfl ?_
      refine aw_iadd (n := 256) dX8_rows_255 rfl ?_
      rw [nI_add]
      refine aw_iald (n := 257) dX8_rows_256 E_178 (by assumption) rfl ?_
      refine aw_iadd (n := 258) dX8_rows_257 rfl ?_
      refine aw_istore (n := 260) (L' := [_, _, _, _, _, _, _, _]) dX8_rows_258 (Nat.le_of_ble_eq_true rfl) rfl rfl ?_
      refine aw_incp (n := 263) (L' := [_, _, _, _, _, _, _, _]) dX8_rows_260 rfl rfl rfl ?_
      refine aw_goto (n := 238) dX8_rows_263 (by decide) ?_
      rw [nI_1, nI_clamp (by omega), hst k (by omega)]
      exact ih (k + 1) _ _ _ (by omega) (by rw [hs, sumR_take r k (by omega)])
  refine aw_iload_n (n := 1) dX8_rows_0 rfl rfl ?_
  refine aw_s1 (d1 := d - 1) (n := 4) (Z := mX8_parts) (L0 := [_]) dX8_rows_1 kX8_parts gX8_99 syX8_parts rfl (Nat.le_of_ble_eq_true rfl) rfl rfl (by omega) (Nat.le_of_ble_eq_true rfl) ?_
  refine aw_iload_n (n := 1) dX8_parts_0 rfl rfl ?_
  refine aw_iconst (n := 2) (v := 3) dX8_parts_1 (by decide) rfl ?_
  refine aw_icmp_ge (tg := 7) (n := 5) dX8_parts_2 (by decide) rfl (fun _ => ?_) (fun c_2 => by first | exact absurd rfl c_2 | exact absurd c_2 (by decide))
  refine aw_iload_n (n := 8) dX8_parts_7 rfl rfl ?_
  refine aw_bipush (n := 10) (v := 11) dX8_parts_8 (by decide) rfl ?_
  refine aw_icmp_eq (tg := 37) (n := 13) dX8_parts_10 (by decide) rfl (fun c_10 => by first | exact absurd rfl c_10 | exact absurd c_10 (by decide)) (fun _ => ?_)
  refine aw_iload_n (n := 14) dX8_parts_13 rfl rfl ?_
  refine aw_bipush (n := 16) (v := 12) dX8_parts_14 (by decide) rfl ?_
  refine aw_icmp_eq (tg := 37) (n := 19) dX8_parts_16 (by decide) rfl (fun c_16 => by first | exact absurd rfl c_16 | exact absurd c_16 (by decide)) (fun _ => ?_)
  refine aw_iload_n (n := 20) dX8_parts_19 rfl rfl ?_
  refine aw_bipush (n := 22) (v := 16) dX8_parts_20 (by decide) rfl ?_
  refine aw_icmp_eq (tg := 37) (n := 25) dX8_parts_22 (by decide) rfl (fun c_22 => by first | exact absurd rfl c_22 | exact absurd c_22 (by decide)) (fun _ => ?_)
  refine aw_iload_n (n := 26) dX8_parts_25 rfl rfl ?_
  refine aw_bipush (n := 28) (v := 17) dX8_parts_26 (by decide) rfl ?_
  refine aw_icmp_eq (tg := 37) (n := 31) dX8_parts_28 (by decide) rfl (fun c_28 => by first | exact absurd rfl c_28 | exact absurd c_28 (by decide)) (fun _ => ?_)
  refine aw_iload_n (n := 32) dX8_parts_31 rfl rfl ?_
  refine aw_bipush (n := 34) (v := 18) dX8_parts_32 (by decide) rfl ?_
  refine aw_icmp_ne (tg := 39) (n := 37) dX8_parts_34 (by decide) rfl (fun c_34 => by first | exact absurd rfl c_34 | exact absurd c_34 (by decide)) (fun _ => ?_)
  refine aw_iconst (n := 38) (v := 1) dX8_parts_37 (by decide) rfl ?_
  refine aw_iret dX8_parts_38 rfl ?_
  dsimp only [aPush]
  refine aw_istore_n (n := 5) (L' := [_, _, _, _, _, _, _, _]) dX8_rows_4 (Nat.le_of_ble_eq_true rfl) rfl rfl ?_
  refine aw_aload_n (n := 6) dX8_rows_5 rfl rfl ?_
  refine aw_aload_n (n := 7) dX8_rows_6 rfl rfl ?_
  refine aw_iload_n (n := 8) dX8_rows_7 rfl rfl ?_
  refine aw_iload_n (n := 9) dX8_rows_8 rfl rfl ?_
  refine aw_bipush (n := 11) (v := 12) dX8_rows_9 (by decide) rfl ?_
  refine aw_icmp_ne (tg := 18) (n := 14) dX8_rows_11 (by decide) rfl (fun _ => ?_) (fun c_11 => by first | exact absurd rfl c_11 | exact absurd c_11 (by decide))
  refine aw_iconst (n := 19) (v := 1) dX8_rows_18 (by decide) rfl ?_
  refine aw_v2 (d1 := d - 1) (n := 22) (Z := mX8_wrong) (ci := 6) (L0 := [_, _, _]) dX8_rows_19 kX8_wrong gX8_141 iyX8_wrong eyX8_wrong rfl rfl E_164 rfl rfl (Nat.le_of_ble_eq_true rfl) rfl rfl (by omega) (Nat.le_of_ble_eq_true rfl) (m_wrong (need := 1) (by omega) (by decide) ha ?_)
  dsimp only [aPush]
  rw [ka]
  refine aw_puti (n := 25) dX8_rows_22 pX8_110 E_164 rfl rfl ?_
  rw [up2_id (x := nI 0) h20]
  refine aw_aload_n (n := 26) dX8_rows_25 rfl rfl ?_
  refine aw_aload_n (n := 27) dX8_rows_26 rfl rfl ?_
  refine aw_geti (n := 30) dX8_rows_27 fX8_110 E_164 rfl rfl ?_
  rw [h20]
  refine aw_if_ne (tg := 38) (n := 33) dX8_rows_30 (by decide) rfl (fun c_30 => by exact absurd rfl c_30) (fun c_30 => ?_)
  refine aw_iload_n (n := 34) dX8_rows_33 rfl rfl ?_
  refine aw_iconst (n := 35) (v := 2) dX8_rows_34 (by decide) rfl ?_
  refine aw_icmp_ge (tg := 45) (n := 38) dX8_rows_35 (by decide) rfl (fun c_35 => by first | exact absurd rfl c_35 | exact absurd c_35 (by decide)) (fun _ => ?_)
  refine aw_aload_n (n := 39) dX8_rows_38 rfl rfl ?_
  refine aw_geti (n := 42) dX8_rows_39 fX8_110 E_164 rfl rfl ?_
  refine aw_goto (n := 63) dX8_rows_42 (by decide) ?_
  refine aw_puti (n := 66) dX8_rows_63 pX8_110 E_164 rfl rfl ?_
  rw [up2_self]
  refine aw_aload_n (n := 67) dX8_rows_66 rfl rfl ?_
  refine aw_aload_n (n := 68) dX8_rows_67 rfl rfl ?_
  refine aw_geti (n := 71) dX8_rows_68 fX8_110 E_164 rfl rfl ?_
  rw [h20]
  refine aw_if_ne (tg := 79) (n := 74) dX8_rows_71 (by decide) rfl (fun c_71 => by exact absurd rfl c_71) (fun c_71 => ?_)
  refine aw_iload_n (n := 75) dX8_rows_74 rfl rfl ?_
  refine aw_iconst (n := 76) (v := 3) dX8_rows_75 (by decide) rfl ?_
  refine aw_icmp_ge (tg := 86) (n := 79) dX8_rows_76 (by decide) rfl (fun c_76 => by first | exact absurd rfl c_76 | exact absurd c_76 (by decide)) (fun _ => ?_)
  refine aw_aload_n (n := 80) dX8_rows_79 rfl rfl ?_
  refine aw_geti (n := 83) dX8_rows_80 fX8_110 E_164 rfl rfl ?_
  refine aw_goto (n := 94) dX8_rows_83 (by decide) ?_
  refine aw_puti (n := 97) dX8_rows_94 pX8_110 E_164 rfl rfl ?_
  rw [up2_self]
  refine aw_aload_n (n := 98) dX8_rows_97 rfl rfl ?_
  refine aw_aload_n (n := 99) dX8_rows_98 rfl rfl ?_
  refine aw_geti (n := 102) dX8_rows_99 fX8_110 E_164 rfl rfl ?_
  rw [h20]
  refine aw_if_eq (tg := 112) (n := 105) dX8_rows_102 (by decide) rfl (fun c_102 => ?_) (fun c_102 => by exact absurd rfl c_102)
  refine aw_iload_n (n := 113) dX8_rows_112 rfl rfl ?_
  refine aw_aload_n (n := 114) dX8_rows_113 rfl rfl ?_
  refine aw_getr (n := 117) dX8_rows_114 fX8_43 E_164 rfl rfl ?_
  refine aw_iload_n (n := 118) dX8_rows_117 rfl rfl ?_
  refine aw_iald (n := 119) dX8_rows_118 E_176 (by assumption) rfl ?_
  refine aw_aload_n (n := 120) dX8_rows_119 rfl rfl ?_
  refine aw_getr (n := 123) dX8_rows_120 fX8_43 E_164 rfl rfl ?_
  refine aw_iload_n (n := 124) dX8_rows_123 rfl rfl ?_
  refine aw_iconst (n := 125) (v := 1) dX8_rows_124 (by decide) rfl ?_
  refine aw_iadd (n := 126) dX8_rows_125 rfl ?_
  rw [nI_1]
  refine aw_iald (n := 127) dX8_rows_126 E_176 (by assumption) rfl ?_
  refine aw_aload_n (n := 128) dX8_rows_127 rfl rfl ?_
  refine aw_getr (n := 131) dX8_rows_128 fX8_43 E_164 rfl rfl ?_
  refine aw_iload_n (n := 132) dX8_rows_131 rfl rfl ?_
  refine aw_iconst (n := 133) (v := 2) dX8_rows_132 (by decide) rfl ?_
  refine aw_iadd (n := 134) dX8_rows_133 rfl ?_
  rw [show (2 : Int32) = nI 2 from rfl, nI_add]
  refine aw_iald (n := 135) dX8_rows_134 E_176 (by assumption) rfl ?_
  rw [haa, hbb, hcc, gx]
  refine aw_s4 (d1 := d - 1) (n := 138) (Z := mX8_refused) (L0 := [_, _, _, _]) dX8_rows_135 kX8_refused gX8_164 syX8_refused rfl rfl rfl rfl (Nat.le_of_ble_eq_true rfl) rfl rfl (by omega) (Nat.le_of_ble_eq_true rfl) ?_
  refine aw_iload_n (n := 1) dX8_refused_0 rfl rfl ?_
  refine aw_tswOut (n := 127) dX8_refused_1 (by decide) (by decide) ?_
  refine aw_iconst (n := 128) (v := 0) dX8_refused_127 (by decide) rfl ?_
  refine aw_iret dX8_refused_128 rfl ?_
  dsimp only [aPush]
  refine aw_puti (n := 141) dX8_rows_138 pX8_110 E_164 rfl rfl ?_
  rw [up2_id (x := 0) h20]
  refine aw_aload_n (n := 142) dX8_rows_141 rfl rfl ?_
  refine aw_geti (n := 145) dX8_rows_142 fX8_110 E_164 rfl rfl ?_
  rw [h20]
  refine aw_if_eq (tg := 149) (n := 148) dX8_rows_145 (by decide) rfl (fun c_145 => ?_) (fun c_145 => by exact absurd rfl c_145)
  refine aw_bipush (n := 151) (v := 16) dX8_rows_149 (by decide) rfl ?_
  refine aw_aload_n (n := 152) dX8_rows_151 rfl rfl ?_
  refine aw_getr (n := 155) dX8_rows_152 fX8_46 E_164 rfl rfl ?_
  refine aw_iload_n (n := 156) dX8_rows_155 rfl rfl ?_
  refine aw_iald (n := 157) dX8_rows_156 E_177 (by assumption) rfl ?_
  rw [haa, gp]
  refine aw_imul (n := 158) dX8_rows_157 rfl ?_
  rw [show (16 : Int32) = nI 16 from rfl, pk_mul]
  refine aw_istore (n := 160) (L' := [_, _, _, _, _, _, _, _]) dX8_rows_158 (Nat.le_of_ble_eq_true rfl) rfl rfl ?_
  refine aw_aload_n (n := 161) dX8_rows_160 rfl rfl ?_
  refine aw_getr (n := 164) dX8_rows_161 fX8_43 E_164 rfl rfl ?_
  refine aw_iload_n (n := 165) dX8_rows_164 rfl rfl ?_
  refine aw_iald (n := 166) dX8_rows_165 E_176 (by assumption) rfl ?_
  rw [haa, gx]
  refine aw_istore (n := 168) (L' := [_, _, _, _, _, _, _, _]) dX8_rows_166 (Nat.le_of_ble_eq_true rfl) rfl rfl ?_
  refine aw_iload_n (n := 169) dX8_rows_168 rfl rfl ?_
  refine aw_lsw (n := 232) (off := 63) dX8_rows_169 (by decide) (by decide) (by decide) ?_
  refine aw_iconst (n := 233) (v := 0) dX8_rows_232 (by decide) rfl ?_
  refine aw_istore (n := 235) (L' := [_, _, _, _, _, _, _, _]) dX8_rows_233 (Nat.le_of_ble_eq_true rfl) rfl rfl ?_
  refine aw_iconst (n := 236) (v := 0) dX8_rows_235 (by decide) rfl ?_
  refine aw_istore (n := 238) (L' := [_, _, _, _, _, _, _, _]) dX8_rows_236 (Nat.le_of_ble_eq_true rfl) rfl rfl ?_
  exact loop r.length 0 _ _ _ (by omega) rfl
end MROWS
