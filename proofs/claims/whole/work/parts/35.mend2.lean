theorem eQ_pass {mk : Nat} {M : aM} {res : Nat ⊕ vV} {Q Q' : Option Value → aE → aM → Prop} (h : eQ mk M res Q) (hq : ∀ M', Q none EE M' → Q' none EE M') : eQ mk M res Q' :=
  And.intro (fun k M' e a b c => hq M' (h.1 k M' e a b c)) (fun v mk' M' e a b c e1 f g => hq M' (h.2 v mk' M' e a b c e1 f g))
section MEND2
variable {l : Launch} {K : aK} {d : Nat} {M : aM} {Q : Option Value → aE → aM → Prop}
theorem m_end {mk t tt w : Nat} {n : Int32} {inp : Nat → vV} {va vb vc : vV} (hd : 5 ≤ d) (hw : w ≤ 18) (hmk : mk < 60) (ht : t < 60) (htt : tt < 60) (h20 : M 164 20 = 0) (h22 : M 164 22 = nI mk) (hI : mI inp M) (hM : M 165 tt = nI w) (hN : M 169 tt = n) (hn0 : w = 0 → isNo n 3) (ha : 1 ≤ pts w → gV M mk (3 * t) va) (hb : 2 ≤ pts w → gV M mk (3 * t + 1) vb) (hc : 3 ≤ pts w → gV M mk (3 * t + 2) vc) (na : pts w < 1 → va = none) (nb : pts w < 2 → vb = none) (nc : pts w < 3 → vc = none) (hQ : eQ mk M (op w n inp va vb vc) Q) : aw l K mX8_end d 0 0 0 [.ref 164, .int (nI tt), .int (nI t), .null, .null] [] EE M Q := by
  have hin : vp_in (nI tt) 60 := vp_in_nI htt (by decide)
  have htc : (nI tt).toNatClampNeg = tt := nI_clamp (by omega)
  have e3 : (3 : Int32) * nI t = nI (3 * t) := by rw [show (3 : Int32) = nI 3 from rfl, pk_mul]
  rcases (show w = 0 ∨ w = 1 ∨ w = 2 ∨ w = 3 ∨ w = 4 ∨ w = 5 ∨ w = 6 ∨ w = 7 ∨ w = 8 ∨ w = 9 ∨ w = 10 ∨ w = 11 ∨ w = 12 ∨ w = 13 ∨ w = 14 ∨ w = 15 ∨ w = 16 ∨ w = 17 ∨ w = 18 by omega) with rfl | rfl | rfl | rfl | rfl | rfl | rfl | rfl | rfl | rfl | rfl | rfl | rfl | rfl | rfl | rfl | rfl | rfl | rfl
  · obtain ⟨i, hi, rfl⟩ := hn0 rfl
    have hii : (nI i).toNatClampNeg = i := nI_clamp (by omega)
    have hQ : eQ mk M (.inr (inp i)) Q := by
      have h9 : op 0 (nI i) inp va vb vc = .inr (inp i) := by show Sum.inr (inp (nI i).toNatClampNeg) = _; rw [hii]
      rw [← h9]; exact hQ
    refine aw_iconst (n := 1) (v := 3) dX8_end_0 (by decide) rfl ?_
    refine aw_iload_n (n := 2) dX8_end_1 rfl rfl ?_
    refine aw_imul (n := 3) dX8_end_2 rfl ?_
    rw [e3]
    refine aw_istore_n (n := 4) (L' := [_, _, _, _, _]) dX8_end_3 (Nat.le_of_ble_eq_true rfl) rfl rfl ?_
    refine aw_aload_n (n := 5) dX8_end_4 rfl rfl ?_
    refine aw_getr (n := 8) dX8_end_5 fX8_7 E_164 rfl rfl ?_
    refine aw_iload_n (n := 9) dX8_end_8 rfl rfl ?_
    refine aw_iald (n := 10) dX8_end_9 E_165 (by assumption) rfl ?_
    rw [htc, hM]
    refine aw_istore (n := 12) (L' := [_, _, _, _, _]) dX8_end_10 (Nat.le_of_ble_eq_true rfl) rfl rfl ?_
    refine aw_iload (n := 14) dX8_end_12 rfl rfl ?_
    refine aw_if_ne (tg := 30) (n := 17) dX8_end_14 (by decide) rfl (fun c_14 => by first | exact absurd rfl c_14 | exact absurd c_14 (by decide)) (fun _ => ?_)
    refine aw_aload_n (n := 18) dX8_end_17 rfl rfl ?_
    refine aw_aload_n (n := 19) dX8_end_18 rfl rfl ?_
    refine aw_getr (n := 22) dX8_end_19 fX8_22 E_164 rfl rfl ?_
    refine aw_iload_n (n := 23) dX8_end_22 rfl rfl ?_
    refine aw_iald (n := 24) dX8_end_23 E_169 (by assumption) rfl ?_
    rw [htc, hN]
    refine aw_v1 (d1 := d - 1) (n := 27) (Z := mX8_input) (ci := 6) (L0 := [_, _]) dX8_end_24 kX8_input gX8_147 iyX8_input eyX8_input rfl rfl E_164 rfl (Nat.le_of_ble_eq_true rfl) rfl rfl (by omega) (Nat.le_of_ble_eq_true rfl) (m_input hi h20 h22 hI (eQ_pass hQ fun M1 h => ?_))
    dsimp only [aPush]
    refine aw_goto (n := 169) dX8_end_27 (by decide) ?_
    refine aw_vret dX8_end_169 rfl ?_
    exact h
  · have hQ : eQ mk M (.inr (some (.inl n))) Q := hQ
    refine aw_iconst (n := 1) (v := 3) dX8_end_0 (by decide) rfl ?_
    refine aw_iload_n (n := 2) dX8_end_1 rfl rfl ?_
    refine aw_imul (n := 3) dX8_end_2 rfl ?_
    rw [e3]
    refine aw_istore_n (n := 4) (L' := [_, _, _, _, _]) dX8_end_3 (Nat.le_of_ble_eq_true rfl) rfl rfl ?_
    refine aw_aload_n (n := 5) dX8_end_4 rfl rfl ?_
    refine aw_getr (n := 8) dX8_end_5 fX8_7 E_164 rfl rfl ?_
    refine aw_iload_n (n := 9) dX8_end_8 rfl rfl ?_
    refine aw_iald (n := 10) dX8_end_9 E_165 (by assumption) rfl ?_
    rw [htc, hM]
    refine aw_istore (n := 12) (L' := [_, _, _, _, _]) dX8_end_10 (Nat.le_of_ble_eq_true rfl) rfl rfl ?_
    refine aw_iload (n := 14) dX8_end_12 rfl rfl ?_
    refine aw_if_ne (tg := 30) (n := 17) dX8_end_14 (by decide) rfl (fun _ => ?_) (fun c_14 => by first | exact absurd rfl c_14 | exact absurd c_14 (by decide))
    refine aw_iload (n := 32) dX8_end_30 rfl rfl ?_
    refine aw_iconst (n := 33) (v := 1) dX8_end_32 (by decide) rfl ?_
    refine aw_icmp_ne (tg := 49) (n := 36) dX8_end_33 (by decide) rfl (fun c_33 => by first | exact absurd rfl c_33 | exact absurd c_33 (by decide)) (fun _ => ?_)
    refine aw_aload_n (n := 37) dX8_end_36 rfl rfl ?_
    refine aw_aload_n (n := 38) dX8_end_37 rfl rfl ?_
    refine aw_getr (n := 41) dX8_end_38 fX8_22 E_164 rfl rfl ?_
    refine aw_iload_n (n := 42) dX8_end_41 rfl rfl ?_
    refine aw_iald (n := 43) dX8_end_42 E_169 (by assumption) rfl ?_
    rw [htc, hN]
    refine aw_v1 (d1 := d - 1) (n := 46) (Z := mX8_whole) (ci := 6) (L0 := [_, _]) dX8_end_43 kX8_whole gX8_149 iyX8_whole eyX8_whole rfl rfl E_164 rfl (Nat.le_of_ble_eq_true rfl) rfl rfl (by omega) (Nat.le_of_ble_eq_true rfl) ?_
    refine aw_aload_n (n := 1) dX8_whole_0 rfl rfl ?_
    refine aw_iconst (n := 2) (v := 0) dX8_whole_1 (by decide) rfl ?_
    refine aw_puti (n := 5) dX8_whole_2 pX8_128 E_164 rfl rfl ?_
    refine aw_aload_n (n := 6) dX8_whole_5 rfl rfl ?_
    refine aw_iload_n (n := 7) dX8_whole_6 rfl rfl ?_
    refine aw_puti (n := 10) dX8_whole_7 pX8_131 E_164 rfl rfl ?_
    refine aw_vret dX8_whole_10 rfl ?_
    dsimp only [aPush]
    refine aw_goto (n := 169) dX8_end_46 (by decide) ?_
    refine aw_vret dX8_end_169 rfl ?_
    exact eQ_whole hQ (fE_refl _ _) h20 h22
  · have hQ : eQ mk M (.inr none) Q := hQ
    refine aw_iconst (n := 1) (v := 3) dX8_end_0 (by decide) rfl ?_
    refine aw_iload_n (n := 2) dX8_end_1 rfl rfl ?_
    refine aw_imul (n := 3) dX8_end_2 rfl ?_
    rw [e3]
    refine aw_istore_n (n := 4) (L' := [_, _, _, _, _]) dX8_end_3 (Nat.le_of_ble_eq_true rfl) rfl rfl ?_
    refine aw_aload_n (n := 5) dX8_end_4 rfl rfl ?_
    refine aw_getr (n := 8) dX8_end_5 fX8_7 E_164 rfl rfl ?_
    refine aw_iload_n (n := 9) dX8_end_8 rfl rfl ?_
    refine aw_iald (n := 10) dX8_end_9 E_165 (by assumption) rfl ?_
    rw [htc, hM]
    refine aw_istore (n := 12) (L' := [_, _, _, _, _]) dX8_end_10 (Nat.le_of_ble_eq_true rfl) rfl rfl ?_
    refine aw_iload (n := 14) dX8_end_12 rfl rfl ?_
    refine aw_if_ne (tg := 30) (n := 17) dX8_end_14 (by decide) rfl (fun _ => ?_) (fun c_14 => by first | exact absurd rfl c_14 | exact absurd c_14 (by decide))
    refine aw_iload (n := 32) dX8_end_30 rfl rfl ?_
    refine aw_iconst (n := 33) (v := 1) dX8_end_32 (by decide) rfl ?_
    refine aw_icmp_ne (tg := 49) (n := 36) dX8_end_33 (by decide) rfl (fun _ => ?_) (fun c_33 => by first | exact absurd rfl c_33 | exact absurd c_33 (by decide))
    refine aw_iload (n := 51) dX8_end_49 rfl rfl ?_
    refine aw_iconst (n := 52) (v := 2) dX8_end_51 (by decide) rfl ?_
    refine aw_icmp_ne (tg := 63) (n := 55) dX8_end_52 (by decide) rfl (fun c_52 => by first | exact absurd rfl c_52 | exact absurd c_52 (by decide)) (fun _ => ?_)
    refine aw_aload_n (n := 56) dX8_end_55 rfl rfl ?_
    refine aw_iconst (n := 57) (v := 2) dX8_end_56 (by decide) rfl ?_
    refine aw_puti (n := 60) dX8_end_57 pX8_128 E_164 rfl rfl ?_
    refine aw_goto (n := 169) dX8_end_60 (by decide) ?_
    refine aw_vret dX8_end_169 rfl ?_
    refine hQ.2 _ mk _ rfl (by rw [up2_k _ _ (by decide)]; exact h20) (by rw [up2_k _ _ (by decide)]; exact h22) (Nat.le_refl _) (by omega) (up2_s _ _ _ _) (fE_up (fE_refl _ _) (by omega))
  · skip
    refine aw_iconst (n := 1) (v := 3) dX8_end_0 (by decide) rfl ?_
    refine aw_iload_n (n := 2) dX8_end_1 rfl rfl ?_
    refine aw_imul (n := 3) dX8_end_2 rfl ?_
    rw [e3]
    refine aw_istore_n (n := 4) (L' := [_, _, _, _, _]) dX8_end_3 (Nat.le_of_ble_eq_true rfl) rfl rfl ?_
    refine aw_aload_n (n := 5) dX8_end_4 rfl rfl ?_
    refine aw_getr (n := 8) dX8_end_5 fX8_7 E_164 rfl rfl ?_
    refine aw_iload_n (n := 9) dX8_end_8 rfl rfl ?_
    refine aw_iald (n := 10) dX8_end_9 E_165 (by assumption) rfl ?_
    rw [htc, hM]
    refine aw_istore (n := 12) (L' := [_, _, _, _, _]) dX8_end_10 (Nat.le_of_ble_eq_true rfl) rfl rfl ?_
    refine aw_iload (n := 14) dX8_end_12 rfl rfl ?_
    refine aw_if_ne (tg := 30) (n := 17) dX8_end_14 (by decide) rfl (fun _ => ?_) (fun c_14 => by first | exact absurd rfl c_14 | exact absurd c_14 (by decide))
    refine aw_iload (n := 32) dX8_end_30 rfl rfl ?_
    refine aw_iconst (n := 33) (v := 1) dX8_end_32 (by decide) rfl ?_
    refine aw_icmp_ne (tg := 49) (n := 36) dX8_end_33 (by decide) rfl (fun _ => ?_) (fun c_33 => by first | exact absurd rfl c_33 | exact absurd c_33 (by decide))
    refine aw_iload (n := 51) dX8_end_49 rfl rfl ?_
    refine aw_iconst (n := 52) (v := 2) dX8_end_51 (by decide) rfl ?_
    refine aw_icmp_ne (tg := 63) (n := 55) dX8_end_52 (by decide) rfl (fun _ => ?_) (fun c_52 => by first | exact absurd rfl c_52 | exact absurd c_52 (by decide))
    refine aw_iload (n := 65) dX8_end_63 rfl rfl ?_
    refine aw_bipush (n := 67) (v := 9) dX8_end_65 (by decide) rfl ?_
    refine aw_icmp_ge (tg := 80) (n := 70) dX8_end_67 (by decide) rfl (fun c_67 => by first | exact absurd rfl c_67 | exact absurd c_67 (by decide)) (fun _ => ?_)
    refine aw_aload_n (n := 71) dX8_end_70 rfl rfl ?_
    refine aw_iload (n := 73) dX8_end_71 rfl rfl ?_
    refine aw_iload_n (n := 74) dX8_end_73 rfl rfl ?_
    refine aw_v2 (d1 := d - 1) (n := 77) (Z := mX8_numbers) (ci := 6) (L0 := [_, _, _, .null, .null]) dX8_end_74 kX8_numbers gX8_152 iyX8_numbers eyX8_numbers rfl rfl E_164 rfl rfl (Nat.le_of_ble_eq_true rfl) rfl rfl (by omega) (Nat.le_of_ble_eq_true rfl) (m_numbers (w := 3) (by omega) ht (by decide) h20 h22 (ha (by decide)) (hb (by decide)) (eQ_pass hQ fun M1 h => ?_))
    dsimp only [aPush]
    refine aw_goto (n := 169) dX8_end_77 (by decide) ?_
    refine aw_vret dX8_end_169 rfl ?_
    exact h
  · skip
    refine aw_iconst (n := 1) (v := 3) dX8_end_0 (by decide) rfl ?_
    refine aw_iload_n (n := 2) dX8_end_1 rfl rfl ?_
    refine aw_imul (n := 3) dX8_end_2 rfl ?_
    rw [e3]
    refine aw_istore_n (n := 4) (L' := [_, _, _, _, _]) dX8_end_3 (Nat.le_of_ble_eq_true rfl) rfl rfl ?_
    refine aw_aload_n (n := 5) dX8_end_4 rfl rfl ?_
    refine aw_getr (n := 8) dX8_end_5 fX8_7 E_164 rfl rfl ?_
    refine aw_iload_n (n := 9) dX8_end_8 rfl rfl ?_
    refine aw_iald (n := 10) dX8_end_9 E_165 (by assumption) rfl ?_
    rw [htc, hM]
    refine aw_istore (n := 12) (L' := [_, _, _, _, _]) dX8_end_10 (Nat.le_of_ble_eq_true rfl) rfl rfl ?_
    refine aw_iload (n := 14) dX8_end_12 rfl rfl ?_
    refine aw_if_ne (tg := 30) (n := 17) dX8_end_14 (by decide) rfl (fun _ => ?_) (fun c_14 => by first | exact absurd rfl c_14 | exact absurd c_14 (by decide))
    refine aw_iload (n := 32) dX8_end_30 rfl rfl ?_
    refine aw_iconst (n := 33) (v := 1) dX8_end_32 (by decide) rfl ?_
    refine aw_icmp_ne (tg := 49) (n := 36) dX8_end_33 (by decide) rfl (fun _ => ?_) (fun c_33 => by first | exact absurd rfl c_33 | exact absurd c_33 (by decide))
    refine aw_iload (n := 51) dX8_end_49 rfl rfl ?_
    refine aw_iconst (n := 52) (v := 2) dX8_end_51 (by decide) rfl ?_
    refine aw_icmp_ne (tg := 63) (n := 55) dX8_end_52 (by decide) rfl (fun _ => ?_) (fun c_52 => by first | exact absurd rfl c_52 | exact absurd c_52 (by decide))
    refine aw_iload (n := 65) dX8_end_63 rfl rfl ?_
    refine aw_bipush (n := 67) (v := 9) dX8_end_65 (by decide) rfl ?_
    refine aw_icmp_ge (tg := 80) (n := 70) dX8_end_67 (by decide) rfl (fun c_67 => by first | exact absurd rfl c_67 | exact absurd c_67 (by decide)) (fun _ => ?_)
    refine aw_aload_n (n := 71) dX8_end_70 rfl rfl ?_
    refine aw_iload (n := 73) dX8_end_71 rfl rfl ?_
    refine aw_iload_n (n := 74) dX8_end_73 rfl rfl ?_
    refine aw_v2 (d1 := d - 1) (n := 77) (Z := mX8_numbers) (ci := 6) (L0 := [_, _, _, .null, .null]) dX8_end_74 kX8_numbers gX8_152 iyX8_numbers eyX8_numbers rfl rfl E_164 rfl rfl (Nat.le_of_ble_eq_true rfl) rfl rfl (by omega) (Nat.le_of_ble_eq_true rfl) (m_numbers (w := 4) (by omega) ht (by decide) h20 h22 (ha (by decide)) (hb (by decide)) (eQ_pass hQ fun M1 h => ?_))
    dsimp only [aPush]
    refine aw_goto (n := 169) dX8_end_77 (by decide) ?_
    refine aw_vret dX8_end_169 rfl ?_
    exact h
  · skip
    refine aw_iconst (n := 1) (v := 3) dX8_end_0 (by decide) rfl ?_
    refine aw_iload_n (n := 2) dX8_end_1 rfl rfl ?_
    refine aw_imul (n := 3) dX8_end_2 rfl ?_
    rw [e3]
    refine aw_istore_n (n := 4) (L' := [_, _, _, _, _]) dX8_end_3 (Nat.le_of_ble_eq_true rfl) rfl rfl ?_
    refine aw_aload_n (n := 5) dX8_end_4 rfl rfl ?_
    refine aw_getr (n := 8) dX8_end_5 fX8_7 E_164 rfl rfl ?_
    refine aw_iload_n (n := 9) dX8_end_8 rfl rfl ?_
    refine aw_iald (n := 10) dX8_end_9 E_165 (by assumption) rfl ?_
    rw [htc, hM]
    refine aw_istore (n := 12) (L' := [_, _, _, _, _]) dX8_end_10 (Nat.le_of_ble_eq_true rfl) rfl rfl ?_
    refine aw_iload (n := 14) dX8_end_12 rfl rfl ?_
    refine aw_if_ne (tg := 30) (n := 17) dX8_end_14 (by decide) rfl (fun _ => ?_) (fun c_14 => by first | exact absurd rfl c_14 | exact absurd c_14 (by decide))
    refine aw_iload (n := 32) dX8_end_30 rfl rfl ?_
    refine aw_iconst (n := 33) (v := 1) dX8_end_32 (by decide) rfl ?_
    refine aw_icmp_ne (tg := 49) (n := 36) dX8_end_33 (by decide) rfl (fun _ => ?_) (fun c_33 => by first | exact absurd rfl c_33 | exact absurd c_33 (by decide))
    refine aw_iload (n := 51) dX8_end_49 rfl rfl ?_
    refine aw_iconst (n := 52) (v := 2) dX8_end_51 (by decide) rfl ?_
    refine aw_icmp_ne (tg := 63) (n := 55) dX8_end_52 (by decide) rfl (fun _ => ?_) (fun c_52 => by first | exact absurd rfl c_52 | exact absurd c_52 (by decide))
    refine aw_iload (n := 65) dX8_end_63 rfl rfl ?_
    refine aw_bipush (n := 67) (v := 9) dX8_end_65 (by decide) rfl ?_
    refine aw_icmp_ge (tg := 80) (n := 70) dX8_end_67 (by decide) rfl (fun c_67 => by first | exact absurd rfl c_67 | exact absurd c_67 (by decide)) (fun _ => ?_)
    refine aw_aload_n (n := 71) dX8_end_70 rfl rfl ?_
    refine aw_iload (n := 73) dX8_end_71 rfl rfl ?_
    refine aw_iload_n (n := 74) dX8_end_73 rfl rfl ?_
    refine aw_v2 (d1 := d - 1) (n := 77) (Z := mX8_numbers) (ci := 6) (L0 := [_, _, _, .null, .null]) dX8_end_74 kX8_numbers gX8_152 iyX8_numbers eyX8_numbers rfl rfl E_164 rfl rfl (Nat.le_of_ble_eq_true rfl) rfl rfl (by omega) (Nat.le_of_ble_eq_true rfl) (m_numbers (w := 5) (by omega) ht (by decide) h20 h22 (ha (by decide)) (hb (by decide)) (eQ_pass hQ fun M1 h => ?_))
    dsimp only [aPush]
    refine aw_goto (n := 169) dX8_end_77 (by decide) ?_
    refine aw_vret dX8_end_169 rfl ?_
    exact h
  · skip
    refine aw_iconst (n := 1) (v := 3) dX8_end_0 (by decide) rfl ?_
    refine aw_iload_n (n := 2) dX8_end_1 rfl rfl ?_
    refine aw_imul (n := 3) dX8_end_2 rfl ?_
    rw [e3]
    refine aw_istore_n (n := 4) (L' := [_, _, _, _, _]) dX8_end_3 (Nat.le_of_ble_eq_true rfl) rfl rfl ?_
    refine aw_aload_n (n := 5) dX8_end_4 rfl rfl ?_
    refine aw_getr (n := 8) dX8_end_5 fX8_7 E_164 rfl rfl ?_
    refine aw_iload_n (n := 9) dX8_end_8 rfl rfl ?_
    refine aw_iald (n := 10) dX8_end_9 E_165 (by assumption) rfl ?_
    rw [htc, hM]
    refine aw_istore (n := 12) (L' := [_, _, _, _, _]) dX8_end_10 (Nat.le_of_ble_eq_true rfl) rfl rfl ?_
    refine aw_iload (n := 14) dX8_end_12 rfl rfl ?_
    refine aw_if_ne (tg := 30) (n := 17) dX8_end_14 (by decide) rfl (fun _ => ?_) (fun c_14 => by first | exact absurd rfl c_14 | exact absurd c_14 (by decide))
    refine aw_iload (n := 32) dX8_end_30 rfl rfl ?_
    refine aw_iconst (n := 33) (v := 1) dX8_end_32 (by decide) rfl ?_
    refine aw_icmp_ne (tg := 49) (n := 36) dX8_end_33 (by decide) rfl (fun _ => ?_) (fun c_33 => by first | exact absurd rfl c_33 | exact absurd c_33 (by decide))
    refine aw_iload (n := 51) dX8_end_49 rfl rfl ?_
    refine aw_iconst (n := 52) (v := 2) dX8_end_51 (by decide) rfl ?_
    refine aw_icmp_ne (tg := 63) (n := 55) dX8_end_52 (by decide) rfl (fun _ => ?_) (fun c_52 => by first | exact absurd rfl c_52 | exact absurd c_52 (by decide))
    refine aw_iload (n := 65) dX8_end_63 rfl rfl ?_
    refine aw_bipush (n := 67) (v := 9) dX8_end_65 (by decide) rfl ?_
    refine aw_icmp_ge (tg := 80) (n := 70) dX8_end_67 (by decide) rfl (fun c_67 => by first | exact absurd rfl c_67 | exact absurd c_67 (by decide)) (fun _ => ?_)
    refine aw_aload_n (n := 71) dX8_end_70 rfl rfl ?_
    refine aw_iload (n := 73) dX8_end_71 rfl rfl ?_
    refine aw_iload_n (n := 74) dX8_end_73 rfl rfl ?_
    refine aw_v2 (d1 := d - 1) (n := 77) (Z := mX8_numbers) (ci := 6) (L0 := [_, _, _, .null, .null]) dX8_end_74 kX8_numbers gX8_152 iyX8_numbers eyX8_numbers rfl rfl E_164 rfl rfl (Nat.le_of_ble_eq_true rfl) rfl rfl (by omega) (Nat.le_of_ble_eq_true rfl) (m_numbers (w := 6) (by omega) ht (by decide) h20 h22 (ha (by decide)) (hb (by decide)) (eQ_pass hQ fun M1 h => ?_))
    dsimp only [aPush]
    refine aw_goto (n := 169) dX8_end_77 (by decide) ?_
    refine aw_vret dX8_end_169 rfl ?_
    exact h
  · skip
    refine aw_iconst (n := 1) (v := 3) dX8_end_0 (by decide) rfl ?_
    refine aw_iload_n (n := 2) dX8_end_1 rfl rfl ?_
    refine aw_imul (n := 3) dX8_end_2 rfl ?_
    rw [e3]
    refine aw_istore_n (n := 4) (L' := [_, _, _, _, _]) dX8_end_3 (Nat.le_of_ble_eq_true rfl) rfl rfl ?_
    refine aw_aload_n (n := 5) dX8_end_4 rfl rfl ?_
    refine aw_getr (n := 8) dX8_end_5 fX8_7 E_164 rfl rfl ?_
    refine aw_iload_n (n := 9) dX8_end_8 rfl rfl ?_
    refine aw_iald (n := 10) dX8_end_9 E_165 (by assumption) rfl ?_
    rw [htc, hM]
    refine aw_istore (n := 12) (L' := [_, _, _, _, _]) dX8_end_10 (Nat.le_of_ble_eq_true rfl) rfl rfl ?_
    refine aw_iload (n := 14) dX8_end_12 rfl rfl ?_
    refine aw_if_ne (tg := 30) (n := 17) dX8_end_14 (by decide) rfl (fun _ => ?_) (fun c_14 => by first | exact absurd rfl c_14 | exact absurd c_14 (by decide))
    refine aw_iload (n := 32) dX8_end_30 rfl rfl ?_
    refine aw_iconst (n := 33) (v := 1) dX8_end_32 (by decide) rfl ?_
    refine aw_icmp_ne (tg := 49) (n := 36) dX8_end_33 (by decide) rfl (fun _ => ?_) (fun c_33 => by first | exact absurd rfl c_33 | exact absurd c_33 (by decide))
    refine aw_iload (n := 51) dX8_end_49 rfl rfl ?_
    refine aw_iconst (n := 52) (v := 2) dX8_end_51 (by decide) rfl ?_
    refine aw_icmp_ne (tg := 63) (n := 55) dX8_end_52 (by decide) rfl (fun _ => ?_) (fun c_52 => by first | exact absurd rfl c_52 | exact absurd c_52 (by decide))
    refine aw_iload (n := 65) dX8_end_63 rfl rfl ?_
    refine aw_bipush (n := 67) (v := 9) dX8_end_65 (by decide) rfl ?_
    refine aw_icmp_ge (tg := 80) (n := 70) dX8_end_67 (by decide) rfl (fun c_67 => by first | exact absurd rfl c_67 | exact absurd c_67 (by decide)) (fun _ => ?_)
    refine aw_aload_n (n := 71) dX8_end_70 rfl rfl ?_
    refine aw_iload (n := 73) dX8_end_71 rfl rfl ?_
    refine aw_iload_n (n := 74) dX8_end_73 rfl rfl ?_
    refine aw_v2 (d1 := d - 1) (n := 77) (Z := mX8_numbers) (ci := 6) (L0 := [_, _, _, .null, .null]) dX8_end_74 kX8_numbers gX8_152 iyX8_numbers eyX8_numbers rfl rfl E_164 rfl rfl (Nat.le_of_ble_eq_true rfl) rfl rfl (by omega) (Nat.le_of_ble_eq_true rfl) (m_numbers (w := 7) (by omega) ht (by decide) h20 h22 (ha (by decide)) (hb (by decide)) (eQ_pass hQ fun M1 h => ?_))
    dsimp only [aPush]
    refine aw_goto (n := 169) dX8_end_77 (by decide) ?_
    refine aw_vret dX8_end_169 rfl ?_
    exact h
  · skip
    refine aw_iconst (n := 1) (v := 3) dX8_end_0 (by decide) rfl ?_
    refine aw_iload_n (n := 2) dX8_end_1 rfl rfl ?_
    refine aw_imul (n := 3) dX8_end_2 rfl ?_
    rw [e3]
    refine aw_istore_n (n := 4) (L' := [_, _, _, _, _]) dX8_end_3 (Nat.le_of_ble_eq_true rfl) rfl rfl ?_
    refine aw_aload_n (n := 5) dX8_end_4 rfl rfl ?_
    refine aw_getr (n := 8) dX8_end_5 fX8_7 E_164 rfl rfl ?_
    refine aw_iload_n (n := 9) dX8_end_8 rfl rfl ?_
    refine aw_iald (n := 10) dX8_end_9 E_165 (by assumption) rfl ?_
    rw [htc, hM]
    refine aw_istore (n := 12) (L' := [_, _, _, _, _]) dX8_end_10 (Nat.le_of_ble_eq_true rfl) rfl rfl ?_
    refine aw_iload (n := 14) dX8_end_12 rfl rfl ?_
    refine aw_if_ne (tg := 30) (n := 17) dX8_end_14 (by decide) rfl (fun _ => ?_) (fun c_14 => by first | exact absurd rfl c_14 | exact absurd c_14 (by decide))
    refine aw_iload (n := 32) dX8_end_30 rfl rfl ?_
    refine aw_iconst (n := 33) (v := 1) dX8_end_32 (by decide) rfl ?_
    refine aw_icmp_ne (tg := 49) (n := 36) dX8_end_33 (by decide) rfl (fun _ => ?_) (fun c_33 => by first | exact absurd rfl c_33 | exact absurd c_33 (by decide))
    refine aw_iload (n := 51) dX8_end_49 rfl rfl ?_
    refine aw_iconst (n := 52) (v := 2) dX8_end_51 (by decide) rfl ?_
    refine aw_icmp_ne (tg := 63) (n := 55) dX8_end_52 (by decide) rfl (fun _ => ?_) (fun c_52 => by first | exact absurd rfl c_52 | exact absurd c_52 (by decide))
    refine aw_iload (n := 65) dX8_end_63 rfl rfl ?_
    refine aw_bipush (n := 67) (v := 9) dX8_end_65 (by decide) rfl ?_
    refine aw_icmp_ge (tg := 80) (n := 70) dX8_end_67 (by decide) rfl (fun c_67 => by first | exact absurd rfl c_67 | exact absurd c_67 (by decide)) (fun _ => ?_)
    refine aw_aload_n (n := 71) dX8_end_70 rfl rfl ?_
    refine aw_iload (n := 73) dX8_end_71 rfl rfl ?_
    refine aw_iload_n (n := 74) dX8_end_73 rfl rfl ?_
    refine aw_v2 (d1 := d - 1) (n := 77) (Z := mX8_numbers) (ci := 6) (L0 := [_, _, _, .null, .null]) dX8_end_74 kX8_numbers gX8_152 iyX8_numbers eyX8_numbers rfl rfl E_164 rfl rfl (Nat.le_of_ble_eq_true rfl) rfl rfl (by omega) (Nat.le_of_ble_eq_true rfl) (m_numbers (w := 8) (by omega) ht (by decide) h20 h22 (ha (by decide)) (hb (by decide)) (eQ_pass hQ fun M1 h => ?_))
    dsimp only [aPush]
    refine aw_goto (n := 169) dX8_end_77 (by decide) ?_
    refine aw_vret dX8_end_169 rfl ?_
    exact h
  · skip
    refine aw_iconst (n := 1) (v := 3) dX8_end_0 (by decide) rfl ?_
    refine aw_iload_n (n := 2) dX8_end_1 rfl rfl ?_
    refine aw_imul (n := 3) dX8_end_2 rfl ?_
    rw [e3]
    refine aw_istore_n (n := 4) (L' := [_, _, _, _, _]) dX8_end_3 (Nat.le_of_ble_eq_true rfl) rfl rfl ?_
    refine aw_aload_n (n := 5) dX8_end_4 rfl rfl ?_
    refine aw_getr (n := 8) dX8_end_5 fX8_7 E_164 rfl rfl ?_
    refine aw_iload_n (n := 9) dX8_end_8 rfl rfl ?_
    refine aw_iald (n := 10) dX8_end_9 E_165 (by assumption) rfl ?_
    rw [htc, hM]
    refine aw_istore (n := 12) (L' := [_, _, _, _, _]) dX8_end_10 (Nat.le_of_ble_eq_true rfl) rfl rfl ?_
    refine aw_iload (n := 14) dX8_end_12 rfl rfl ?_
    refine aw_if_ne (tg := 30) (n := 17) dX8_end_14 (by decide) rfl (fun _ => ?_) (fun c_14 => by first | exact absurd rfl c_14 | exact absurd c_14 (by decide))
    refine aw_iload (n := 32) dX8_end_30 rfl rfl ?_
    refine aw_iconst (n := 33) (v := 1) dX8_end_32 (by decide) rfl ?_
    refine aw_icmp_ne (tg := 49) (n := 36) dX8_end_33 (by decide) rfl (fun _ => ?_) (fun c_33 => by first | exact absurd rfl c_33 | exact absurd c_33 (by decide))
    refine aw_iload (n := 51) dX8_end_49 rfl rfl ?_
    refine aw_iconst (n := 52) (v := 2) dX8_end_51 (by decide) rfl ?_
    refine aw_icmp_ne (tg := 63) (n := 55) dX8_end_52 (by decide) rfl (fun _ => ?_) (fun c_52 => by first | exact absurd rfl c_52 | exact absurd c_52 (by decide))
    refine aw_iload (n := 65) dX8_end_63 rfl rfl ?_
    refine aw_bipush (n := 67) (v := 9) dX8_end_65 (by decide) rfl ?_
    refine aw_icmp_ge (tg := 80) (n := 70) dX8_end_67 (by decide) rfl (fun _ => ?_) (fun c_67 => by first | exact absurd rfl c_67 | exact absurd c_67 (by decide))
    refine aw_iload (n := 82) dX8_end_80 rfl rfl ?_
    refine aw_bipush (n := 84) (v := 9) dX8_end_82 (by decide) rfl ?_
    refine aw_icmp_ne (tg := 95) (n := 87) dX8_end_84 (by decide) rfl (fun c_84 => by first | exact absurd rfl c_84 | exact absurd c_84 (by decide)) (fun _ => ?_)
    refine aw_aload_n (n := 88) dX8_end_87 rfl rfl ?_
    refine aw_iload_n (n := 89) dX8_end_88 rfl rfl ?_
    refine aw_v1 (d1 := d - 1) (n := 92) (Z := mX8_like) (ci := 6) (L0 := [_, _, .null, .null]) dX8_end_89 kX8_like gX8_155 iyX8_like eyX8_like rfl rfl E_164 rfl (Nat.le_of_ble_eq_true rfl) rfl rfl (by omega) (Nat.le_of_ble_eq_true rfl) (m_like (by omega) (by omega) ht h20 h22 (ha (by decide)) (hb (by decide)) (eQ_pass hQ fun M1 h => ?_))
    dsimp only [aPush]
    refine aw_goto (n := 169) dX8_end_92 (by decide) ?_
    refine aw_vret dX8_end_169 rfl ?_
    exact h
  · skip
    obtain rfl := nc (by decide)
    refine aw_iconst (n := 1) (v := 3) dX8_end_0 (by decide) rfl ?_
    refine aw_iload_n (n := 2) dX8_end_1 rfl rfl ?_
    refine aw_imul (n := 3) dX8_end_2 rfl ?_
    rw [e3]
    refine aw_istore_n (n := 4) (L' := [_, _, _, _, _]) dX8_end_3 (Nat.le_of_ble_eq_true rfl) rfl rfl ?_
    refine aw_aload_n (n := 5) dX8_end_4 rfl rfl ?_
    refine aw_getr (n := 8) dX8_end_5 fX8_7 E_164 rfl rfl ?_
    refine aw_iload_n (n := 9) dX8_end_8 rfl rfl ?_
    refine aw_iald (n := 10) dX8_end_9 E_165 (by assumption) rfl ?_
    rw [htc, hM]
    refine aw_istore (n := 12) (L' := [_, _, _, _, _]) dX8_end_10 (Nat.le_of_ble_eq_true rfl) rfl rfl ?_
    refine aw_iload (n := 14) dX8_end_12 rfl rfl ?_
    refine aw_if_ne (tg := 30) (n := 17) dX8_end_14 (by decide) rfl (fun _ => ?_) (fun c_14 => by first | exact absurd rfl c_14 | exact absurd c_14 (by decide))
    refine aw_iload (n := 32) dX8_end_30 rfl rfl ?_
    refine aw_iconst (n := 33) (v := 1) dX8_end_32 (by decide) rfl ?_
    refine aw_icmp_ne (tg := 49) (n := 36) dX8_end_33 (by decide) rfl (fun _ => ?_) (fun c_33 => by first | exact absurd rfl c_33 | exact absurd c_33 (by decide))
    refine aw_iload (n := 51) dX8_end_49 rfl rfl ?_
    refine aw_iconst (n := 52) (v := 2) dX8_end_51 (by decide) rfl ?_
    refine aw_icmp_ne (tg := 63) (n := 55) dX8_end_52 (by decide) rfl (fun _ => ?_) (fun c_52 => by first | exact absurd rfl c_52 | exact absurd c_52 (by decide))
    refine aw_iload (n := 65) dX8_end_63 rfl rfl ?_
    refine aw_bipush (n := 67) (v := 9) dX8_end_65 (by decide) rfl ?_
    refine aw_icmp_ge (tg := 80) (n := 70) dX8_end_67 (by decide) rfl (fun _ => ?_) (fun c_67 => by first | exact absurd rfl c_67 | exact absurd c_67 (by decide))
    refine aw_iload (n := 82) dX8_end_80 rfl rfl ?_
    refine aw_bipush (n := 84) (v := 9) dX8_end_82 (by decide) rfl ?_
    refine aw_icmp_ne (tg := 95) (n := 87) dX8_end_84 (by decide) rfl (fun _ => ?_) (fun c_84 => by first | exact absurd rfl c_84 | exact absurd c_84 (by decide))
    refine aw_iload (n := 97) dX8_end_95 rfl rfl ?_
    refine aw_bipush (n := 99) (v := 19) dX8_end_97 (by decide) rfl ?_
    refine aw_icmp_ne (tg := 141) (n := 102) dX8_end_99 (by decide) rfl (fun _ => ?_) (fun c_99 => by first | exact absurd rfl c_99 | exact absurd c_99 (by decide))
    refine aw_iload (n := 143) dX8_end_141 rfl rfl ?_
    refine aw_bipush (n := 145) (v := 20) dX8_end_143 (by decide) rfl ?_
    refine aw_icmp_ne (tg := 162) (n := 148) dX8_end_145 (by decide) rfl (fun _ => ?_) (fun c_145 => by first | exact absurd rfl c_145 | exact absurd c_145 (by decide))
    refine aw_aload_n (n := 163) dX8_end_162 rfl rfl ?_
    refine aw_iload (n := 165) dX8_end_163 rfl rfl ?_
    refine aw_iload_n (n := 166) dX8_end_165 rfl rfl ?_
    refine aw_v2 (d1 := d - 1) (n := 169) (Z := mX8_rows) (ci := 6) (L0 := [_, _, _, .null, .null, .null, .null, .null]) dX8_end_166 kX8_rows gX8_161 iyX8_rows eyX8_rows rfl rfl E_164 rfl rfl (Nat.le_of_ble_eq_true rfl) rfl rfl (by omega) (Nat.le_of_ble_eq_true rfl) (m_rows10 (n0 := n) (inp := inp) (by omega) hmk ht h20 h22 (ha (by decide)) (hb (by decide)) (eQ_pass hQ fun M1 h => ?_))
    dsimp only [aPush]
    refine aw_vret dX8_end_169 rfl ?_
    exact h
  · skip
    obtain rfl := nc (by decide)
    obtain rfl := nb (by decide)
    refine aw_iconst (n := 1) (v := 3) dX8_end_0 (by decide) rfl ?_
    refine aw_iload_n (n := 2) dX8_end_1 rfl rfl ?_
    refine aw_imul (n := 3) dX8_end_2 rfl ?_
    rw [e3]
    refine aw_istore_n (n := 4) (L' := [_, _, _, _, _]) dX8_end_3 (Nat.le_of_ble_eq_true rfl) rfl rfl ?_
    refine aw_aload_n (n := 5) dX8_end_4 rfl rfl ?_
    refine aw_getr (n := 8) dX8_end_5 fX8_7 E_164 rfl rfl ?_
    refine aw_iload_n (n := 9) dX8_end_8 rfl rfl ?_
    refine aw_iald (n := 10) dX8_end_9 E_165 (by assumption) rfl ?_
    rw [htc, hM]
    refine aw_istore (n := 12) (L' := [_, _, _, _, _]) dX8_end_10 (Nat.le_of_ble_eq_true rfl) rfl rfl ?_
    refine aw_iload (n := 14) dX8_end_12 rfl rfl ?_
    refine aw_if_ne (tg := 30) (n := 17) dX8_end_14 (by decide) rfl (fun _ => ?_) (fun c_14 => by first | exact absurd rfl c_14 | exact absurd c_14 (by decide))
    refine aw_iload (n := 32) dX8_end_30 rfl rfl ?_
    refine aw_iconst (n := 33) (v := 1) dX8_end_32 (by decide) rfl ?_
    refine aw_icmp_ne (tg := 49) (n := 36) dX8_end_33 (by decide) rfl (fun _ => ?_) (fun c_33 => by first | exact absurd rfl c_33 | exact absurd c_33 (by decide))
    refine aw_iload (n := 51) dX8_end_49 rfl rfl ?_
    refine aw_iconst (n := 52) (v := 2) dX8_end_51 (by decide) rfl ?_
    refine aw_icmp_ne (tg := 63) (n := 55) dX8_end_52 (by decide) rfl (fun _ => ?_) (fun c_52 => by first | exact absurd rfl c_52 | exact absurd c_52 (by decide))
    refine aw_iload (n := 65) dX8_end_63 rfl rfl ?_
    refine aw_bipush (n := 67) (v := 9) dX8_end_65 (by decide) rfl ?_
    refine aw_icmp_ge (tg := 80) (n := 70) dX8_end_67 (by decide) rfl (fun _ => ?_) (fun c_67 => by first | exact absurd rfl c_67 | exact absurd c_67 (by decide))
    refine aw_iload (n := 82) dX8_end_80 rfl rfl ?_
    refine aw_bipush (n := 84) (v := 9) dX8_end_82 (by decide) rfl ?_
    refine aw_icmp_ne (tg := 95) (n := 87) dX8_end_84 (by decide) rfl (fun _ => ?_) (fun c_84 => by first | exact absurd rfl c_84 | exact absurd c_84 (by decide))
    refine aw_iload (n := 97) dX8_end_95 rfl rfl ?_
    refine aw_bipush (n := 99) (v := 19) dX8_end_97 (by decide) rfl ?_
    refine aw_icmp_ne (tg := 141) (n := 102) dX8_end_99 (by decide) rfl (fun _ => ?_) (fun c_99 => by first | exact absurd rfl c_99 | exact absurd c_99 (by decide))
    refine aw_iload (n := 143) dX8_end_141 rfl rfl ?_
    refine aw_bipush (n := 145) (v := 20) dX8_end_143 (by decide) rfl ?_
    refine aw_icmp_ne (tg := 162) (n := 148) dX8_end_145 (by decide) rfl (fun _ => ?_) (fun c_145 => by first | exact absurd rfl c_145 | exact absurd c_145 (by decide))
    refine aw_aload_n (n := 163) dX8_end_162 rfl rfl ?_
    refine aw_iload (n := 165) dX8_end_163 rfl rfl ?_
    refine aw_iload_n (n := 166) dX8_end_165 rfl rfl ?_
    refine aw_v2 (d1 := d - 1) (n := 169) (Z := mX8_rows) (ci := 6) (L0 := [_, _, _, .null, .null, .null, .null, .null]) dX8_end_166 kX8_rows gX8_161 iyX8_rows eyX8_rows rfl rfl E_164 rfl rfl (Nat.le_of_ble_eq_true rfl) rfl rfl (by omega) (Nat.le_of_ble_eq_true rfl) (m_rows11 (n0 := n) (inp := inp) (by omega) hmk ht h20 h22 (ha (by decide)) (eQ_pass hQ fun M1 h => ?_))
    dsimp only [aPush]
    refine aw_vret dX8_end_169 rfl ?_
    exact h
  · skip
    obtain rfl := nc (by decide)
    obtain rfl := nb (by decide)
    refine aw_iconst (n := 1) (v := 3) dX8_end_0 (by decide) rfl ?_
    refine aw_iload_n (n := 2) dX8_end_1 rfl rfl ?_
    refine aw_imul (n := 3) dX8_end_2 rfl ?_
    rw [e3]
    refine aw_istore_n (n := 4) (L' := [_, _, _, _, _]) dX8_end_3 (Nat.le_of_ble_eq_true rfl) rfl rfl ?_
    refine aw_aload_n (n := 5) dX8_end_4 rfl rfl ?_
    refine aw_getr (n := 8) dX8_end_5 fX8_7 E_164 rfl rfl ?_
    refine aw_iload_n (n := 9) dX8_end_8 rfl rfl ?_
    refine aw_iald (n := 10) dX8_end_9 E_165 (by assumption) rfl ?_
    rw [htc, hM]
    refine aw_istore (n := 12) (L' := [_, _, _, _, _]) dX8_end_10 (Nat.le_of_ble_eq_true rfl) rfl rfl ?_
    refine aw_iload (n := 14) dX8_end_12 rfl rfl ?_
    refine aw_if_ne (tg := 30) (n := 17) dX8_end_14 (by decide) rfl (fun _ => ?_) (fun c_14 => by first | exact absurd rfl c_14 | exact absurd c_14 (by decide))
    refine aw_iload (n := 32) dX8_end_30 rfl rfl ?_
    refine aw_iconst (n := 33) (v := 1) dX8_end_32 (by decide) rfl ?_
    refine aw_icmp_ne (tg := 49) (n := 36) dX8_end_33 (by decide) rfl (fun _ => ?_) (fun c_33 => by first | exact absurd rfl c_33 | exact absurd c_33 (by decide))
    refine aw_iload (n := 51) dX8_end_49 rfl rfl ?_
    refine aw_iconst (n := 52) (v := 2) dX8_end_51 (by decide) rfl ?_
    refine aw_icmp_ne (tg := 63) (n := 55) dX8_end_52 (by decide) rfl (fun _ => ?_) (fun c_52 => by first | exact absurd rfl c_52 | exact absurd c_52 (by decide))
    refine aw_iload (n := 65) dX8_end_63 rfl rfl ?_
    refine aw_bipush (n := 67) (v := 9) dX8_end_65 (by decide) rfl ?_
    refine aw_icmp_ge (tg := 80) (n := 70) dX8_end_67 (by decide) rfl (fun _ => ?_) (fun c_67 => by first | exact absurd rfl c_67 | exact absurd c_67 (by decide))
    refine aw_iload (n := 82) dX8_end_80 rfl rfl ?_
    refine aw_bipush (n := 84) (v := 9) dX8_end_82 (by decide) rfl ?_
    refine aw_icmp_ne (tg := 95) (n := 87) dX8_end_84 (by decide) rfl (fun _ => ?_) (fun c_84 => by first | exact absurd rfl c_84 | exact absurd c_84 (by decide))
    refine aw_iload (n := 97) dX8_end_95 rfl rfl ?_
    refine aw_bipush (n := 99) (v := 19) dX8_end_97 (by decide) rfl ?_
    refine aw_icmp_ne (tg := 141) (n := 102) dX8_end_99 (by decide) rfl (fun _ => ?_) (fun c_99 => by first | exact absurd rfl c_99 | exact absurd c_99 (by decide))
    refine aw_iload (n := 143) dX8_end_141 rfl rfl ?_
    refine aw_bipush (n := 145) (v := 20) dX8_end_143 (by decide) rfl ?_
    refine aw_icmp_ne (tg := 162) (n := 148) dX8_end_145 (by decide) rfl (fun _ => ?_) (fun c_145 => by first | exact absurd rfl c_145 | exact absurd c_145 (by decide))
    refine aw_aload_n (n := 163) dX8_end_162 rfl rfl ?_
    refine aw_iload (n := 165) dX8_end_163 rfl rfl ?_
    refine aw_iload_n (n := 166) dX8_end_165 rfl rfl ?_
    refine aw_v2 (d1 := d - 1) (n := 169) (Z := mX8_rows) (ci := 6) (L0 := [_, _, _, .null, .null, .null, .null, .null]) dX8_end_166 kX8_rows gX8_161 iyX8_rows eyX8_rows rfl rfl E_164 rfl rfl (Nat.le_of_ble_eq_true rfl) rfl rfl (by omega) (Nat.le_of_ble_eq_true rfl) (m_rows12 (n0 := n) (inp := inp) (by omega) hmk ht h20 h22 (ha (by decide)) (eQ_pass hQ fun M1 h => ?_))
    dsimp only [aPush]
    refine aw_vret dX8_end_169 rfl ?_
    exact h
  · skip
    refine aw_iconst (n := 1) (v := 3) dX8_end_0 (by decide) rfl ?_
    refine aw_iload_n (n := 2) dX8_end_1 rfl rfl ?_
    refine aw_imul (n := 3) dX8_end_2 rfl ?_
    rw [e3]
    refine aw_istore_n (n := 4) (L' := [_, _, _, _, _]) dX8_end_3 (Nat.le_of_ble_eq_true rfl) rfl rfl ?_
    refine aw_aload_n (n := 5) dX8_end_4 rfl rfl ?_
    refine aw_getr (n := 8) dX8_end_5 fX8_7 E_164 rfl rfl ?_
    refine aw_iload_n (n := 9) dX8_end_8 rfl rfl ?_
    refine aw_iald (n := 10) dX8_end_9 E_165 (by assumption) rfl ?_
    rw [htc, hM]
    refine aw_istore (n := 12) (L' := [_, _, _, _, _]) dX8_end_10 (Nat.le_of_ble_eq_true rfl) rfl rfl ?_
    refine aw_iload (n := 14) dX8_end_12 rfl rfl ?_
    refine aw_if_ne (tg := 30) (n := 17) dX8_end_14 (by decide) rfl (fun _ => ?_) (fun c_14 => by first | exact absurd rfl c_14 | exact absurd c_14 (by decide))
    refine aw_iload (n := 32) dX8_end_30 rfl rfl ?_
    refine aw_iconst (n := 33) (v := 1) dX8_end_32 (by decide) rfl ?_
    refine aw_icmp_ne (tg := 49) (n := 36) dX8_end_33 (by decide) rfl (fun _ => ?_) (fun c_33 => by first | exact absurd rfl c_33 | exact absurd c_33 (by decide))
    refine aw_iload (n := 51) dX8_end_49 rfl rfl ?_
    refine aw_iconst (n := 52) (v := 2) dX8_end_51 (by decide) rfl ?_
    refine aw_icmp_ne (tg := 63) (n := 55) dX8_end_52 (by decide) rfl (fun _ => ?_) (fun c_52 => by first | exact absurd rfl c_52 | exact absurd c_52 (by decide))
    refine aw_iload (n := 65) dX8_end_63 rfl rfl ?_
    refine aw_bipush (n := 67) (v := 9) dX8_end_65 (by decide) rfl ?_
    refine aw_icmp_ge (tg := 80) (n := 70) dX8_end_67 (by decide) rfl (fun _ => ?_) (fun c_67 => by first | exact absurd rfl c_67 | exact absurd c_67 (by decide))
    refine aw_iload (n := 82) dX8_end_80 rfl rfl ?_
    refine aw_bipush (n := 84) (v := 9) dX8_end_82 (by decide) rfl ?_
    refine aw_icmp_ne (tg := 95) (n := 87) dX8_end_84 (by decide) rfl (fun _ => ?_) (fun c_84 => by first | exact absurd rfl c_84 | exact absurd c_84 (by decide))
    refine aw_iload (n := 97) dX8_end_95 rfl rfl ?_
    refine aw_bipush (n := 99) (v := 19) dX8_end_97 (by decide) rfl ?_
    refine aw_icmp_ne (tg := 141) (n := 102) dX8_end_99 (by decide) rfl (fun _ => ?_) (fun c_99 => by first | exact absurd rfl c_99 | exact absurd c_99 (by decide))
    refine aw_iload (n := 143) dX8_end_141 rfl rfl ?_
    refine aw_bipush (n := 145) (v := 20) dX8_end_143 (by decide) rfl ?_
    refine aw_icmp_ne (tg := 162) (n := 148) dX8_end_145 (by decide) rfl (fun _ => ?_) (fun c_145 => by first | exact absurd rfl c_145 | exact absurd c_145 (by decide))
    refine aw_aload_n (n := 163) dX8_end_162 rfl rfl ?_
    refine aw_iload (n := 165) dX8_end_163 rfl rfl ?_
    refine aw_iload_n (n := 166) dX8_end_165 rfl rfl ?_
    refine aw_v2 (d1 := d - 1) (n := 169) (Z := mX8_rows) (ci := 6) (L0 := [_, _, _, .null, .null, .null, .null, .null]) dX8_end_166 kX8_rows gX8_161 iyX8_rows eyX8_rows rfl rfl E_164 rfl rfl (Nat.le_of_ble_eq_true rfl) rfl rfl (by omega) (Nat.le_of_ble_eq_true rfl) (m_rows13 (n0 := n) (inp := inp) (by omega) hmk ht h20 h22 (ha (by decide)) (hb (by decide)) (hc (by decide)) (eQ_pass hQ fun M1 h => ?_))
    dsimp only [aPush]
    refine aw_vret dX8_end_169 rfl ?_
    exact h
  · skip
    obtain rfl := nc (by decide)
    refine aw_iconst (n := 1) (v := 3) dX8_end_0 (by decide) rfl ?_
    refine aw_iload_n (n := 2) dX8_end_1 rfl rfl ?_
    refine aw_imul (n := 3) dX8_end_2 rfl ?_
    rw [e3]
    refine aw_istore_n (n := 4) (L' := [_, _, _, _, _]) dX8_end_3 (Nat.le_of_ble_eq_true rfl) rfl rfl ?_
    refine aw_aload_n (n := 5) dX8_end_4 rfl rfl ?_
    refine aw_getr (n := 8) dX8_end_5 fX8_7 E_164 rfl rfl ?_
    refine aw_iload_n (n := 9) dX8_end_8 rfl rfl ?_
    refine aw_iald (n := 10) dX8_end_9 E_165 (by assumption) rfl ?_
    rw [htc, hM]
    refine aw_istore (n := 12) (L' := [_, _, _, _, _]) dX8_end_10 (Nat.le_of_ble_eq_true rfl) rfl rfl ?_
    refine aw_iload (n := 14) dX8_end_12 rfl rfl ?_
    refine aw_if_ne (tg := 30) (n := 17) dX8_end_14 (by decide) rfl (fun _ => ?_) (fun c_14 => by first | exact absurd rfl c_14 | exact absurd c_14 (by decide))
    refine aw_iload (n := 32) dX8_end_30 rfl rfl ?_
    refine aw_iconst (n := 33) (v := 1) dX8_end_32 (by decide) rfl ?_
    refine aw_icmp_ne (tg := 49) (n := 36) dX8_end_33 (by decide) rfl (fun _ => ?_) (fun c_33 => by first | exact absurd rfl c_33 | exact absurd c_33 (by decide))
    refine aw_iload (n := 51) dX8_end_49 rfl rfl ?_
    refine aw_iconst (n := 52) (v := 2) dX8_end_51 (by decide) rfl ?_
    refine aw_icmp_ne (tg := 63) (n := 55) dX8_end_52 (by decide) rfl (fun _ => ?_) (fun c_52 => by first | exact absurd rfl c_52 | exact absurd c_52 (by decide))
    refine aw_iload (n := 65) dX8_end_63 rfl rfl ?_
    refine aw_bipush (n := 67) (v := 9) dX8_end_65 (by decide) rfl ?_
    refine aw_icmp_ge (tg := 80) (n := 70) dX8_end_67 (by decide) rfl (fun _ => ?_) (fun c_67 => by first | exact absurd rfl c_67 | exact absurd c_67 (by decide))
    refine aw_iload (n := 82) dX8_end_80 rfl rfl ?_
    refine aw_bipush (n := 84) (v := 9) dX8_end_82 (by decide) rfl ?_
    refine aw_icmp_ne (tg := 95) (n := 87) dX8_end_84 (by decide) rfl (fun _ => ?_) (fun c_84 => by first | exact absurd rfl c_84 | exact absurd c_84 (by decide))
    refine aw_iload (n := 97) dX8_end_95 rfl rfl ?_
    refine aw_bipush (n := 99) (v := 19) dX8_end_97 (by decide) rfl ?_
    refine aw_icmp_ne (tg := 141) (n := 102) dX8_end_99 (by decide) rfl (fun _ => ?_) (fun c_99 => by first | exact absurd rfl c_99 | exact absurd c_99 (by decide))
    refine aw_iload (n := 143) dX8_end_141 rfl rfl ?_
    refine aw_bipush (n := 145) (v := 20) dX8_end_143 (by decide) rfl ?_
    refine aw_icmp_ne (tg := 162) (n := 148) dX8_end_145 (by decide) rfl (fun _ => ?_) (fun c_145 => by first | exact absurd rfl c_145 | exact absurd c_145 (by decide))
    refine aw_aload_n (n := 163) dX8_end_162 rfl rfl ?_
    refine aw_iload (n := 165) dX8_end_163 rfl rfl ?_
    refine aw_iload_n (n := 166) dX8_end_165 rfl rfl ?_
    refine aw_v2 (d1 := d - 1) (n := 169) (Z := mX8_rows) (ci := 6) (L0 := [_, _, _, .null, .null, .null, .null, .null]) dX8_end_166 kX8_rows gX8_161 iyX8_rows eyX8_rows rfl rfl E_164 rfl rfl (Nat.le_of_ble_eq_true rfl) rfl rfl (by omega) (Nat.le_of_ble_eq_true rfl) (m_rows14 (n0 := n) (inp := inp) (by omega) hmk ht h20 h22 (ha (by decide)) (hb (by decide)) (eQ_pass hQ fun M1 h => ?_))
    dsimp only [aPush]
    refine aw_vret dX8_end_169 rfl ?_
    exact h
  · skip
    refine aw_iconst (n := 1) (v := 3) dX8_end_0 (by decide) rfl ?_
    refine aw_iload_n (n := 2) dX8_end_1 rfl rfl ?_
    refine aw_imul (n := 3) dX8_end_2 rfl ?_
    rw [e3]
    refine aw_istore_n (n := 4) (L' := [_, _, _, _, _]) dX8_end_3 (Nat.le_of_ble_eq_true rfl) rfl rfl ?_
    refine aw_aload_n (n := 5) dX8_end_4 rfl rfl ?_
    refine aw_getr (n := 8) dX8_end_5 fX8_7 E_164 rfl rfl ?_
    refine aw_iload_n (n := 9) dX8_end_8 rfl rfl ?_
    refine aw_iald (n := 10) dX8_end_9 E_165 (by assumption) rfl ?_
    rw [htc, hM]
    refine aw_istore (n := 12) (L' := [_, _, _, _, _]) dX8_end_10 (Nat.le_of_ble_eq_true rfl) rfl rfl ?_
    refine aw_iload (n := 14) dX8_end_12 rfl rfl ?_
    refine aw_if_ne (tg := 30) (n := 17) dX8_end_14 (by decide) rfl (fun _ => ?_) (fun c_14 => by first | exact absurd rfl c_14 | exact absurd c_14 (by decide))
    refine aw_iload (n := 32) dX8_end_30 rfl rfl ?_
    refine aw_iconst (n := 33) (v := 1) dX8_end_32 (by decide) rfl ?_
    refine aw_icmp_ne (tg := 49) (n := 36) dX8_end_33 (by decide) rfl (fun _ => ?_) (fun c_33 => by first | exact absurd rfl c_33 | exact absurd c_33 (by decide))
    refine aw_iload (n := 51) dX8_end_49 rfl rfl ?_
    refine aw_iconst (n := 52) (v := 2) dX8_end_51 (by decide) rfl ?_
    refine aw_icmp_ne (tg := 63) (n := 55) dX8_end_52 (by decide) rfl (fun _ => ?_) (fun c_52 => by first | exact absurd rfl c_52 | exact absurd c_52 (by decide))
    refine aw_iload (n := 65) dX8_end_63 rfl rfl ?_
    refine aw_bipush (n := 67) (v := 9) dX8_end_65 (by decide) rfl ?_
    refine aw_icmp_ge (tg := 80) (n := 70) dX8_end_67 (by decide) rfl (fun _ => ?_) (fun c_67 => by first | exact absurd rfl c_67 | exact absurd c_67 (by decide))
    refine aw_iload (n := 82) dX8_end_80 rfl rfl ?_
    refine aw_bipush (n := 84) (v := 9) dX8_end_82 (by decide) rfl ?_
    refine aw_icmp_ne (tg := 95) (n := 87) dX8_end_84 (by decide) rfl (fun _ => ?_) (fun c_84 => by first | exact absurd rfl c_84 | exact absurd c_84 (by decide))
    refine aw_iload (n := 97) dX8_end_95 rfl rfl ?_
    refine aw_bipush (n := 99) (v := 19) dX8_end_97 (by decide) rfl ?_
    refine aw_icmp_ne (tg := 141) (n := 102) dX8_end_99 (by decide) rfl (fun _ => ?_) (fun c_99 => by first | exact absurd rfl c_99 | exact absurd c_99 (by decide))
    refine aw_iload (n := 143) dX8_end_141 rfl rfl ?_
    refine aw_bipush (n := 145) (v := 20) dX8_end_143 (by decide) rfl ?_
    refine aw_icmp_ne (tg := 162) (n := 148) dX8_end_145 (by decide) rfl (fun _ => ?_) (fun c_145 => by first | exact absurd rfl c_145 | exact absurd c_145 (by decide))
    refine aw_aload_n (n := 163) dX8_end_162 rfl rfl ?_
    refine aw_iload (n := 165) dX8_end_163 rfl rfl ?_
    refine aw_iload_n (n := 166) dX8_end_165 rfl rfl ?_
    refine aw_v2 (d1 := d - 1) (n := 169) (Z := mX8_rows) (ci := 6) (L0 := [_, _, _, .null, .null, .null, .null, .null]) dX8_end_166 kX8_rows gX8_161 iyX8_rows eyX8_rows rfl rfl E_164 rfl rfl (Nat.le_of_ble_eq_true rfl) rfl rfl (by omega) (Nat.le_of_ble_eq_true rfl) (m_rows15 (n0 := n) (inp := inp) (by omega) hmk ht h20 h22 (ha (by decide)) (hb (by decide)) (hc (by decide)) (eQ_pass hQ fun M1 h => ?_))
    dsimp only [aPush]
    refine aw_vret dX8_end_169 rfl ?_
    exact h
  · skip
    obtain rfl := nc (by decide)
    obtain rfl := nb (by decide)
    refine aw_iconst (n := 1) (v := 3) dX8_end_0 (by decide) rfl ?_
    refine aw_iload_n (n := 2) dX8_end_1 rfl rfl ?_
    refine aw_imul (n := 3) dX8_end_2 rfl ?_
    rw [e3]
    refine aw_istore_n (n := 4) (L' := [_, _, _, _, _]) dX8_end_3 (Nat.le_of_ble_eq_true rfl) rfl rfl ?_
    refine aw_aload_n (n := 5) dX8_end_4 rfl rfl ?_
    refine aw_getr (n := 8) dX8_end_5 fX8_7 E_164 rfl rfl ?_
    refine aw_iload_n (n := 9) dX8_end_8 rfl rfl ?_
    refine aw_iald (n := 10) dX8_end_9 E_165 (by assumption) rfl ?_
    rw [htc, hM]
    refine aw_istore (n := 12) (L' := [_, _, _, _, _]) dX8_end_10 (Nat.le_of_ble_eq_true rfl) rfl rfl ?_
    refine aw_iload (n := 14) dX8_end_12 rfl rfl ?_
    refine aw_if_ne (tg := 30) (n := 17) dX8_end_14 (by decide) rfl (fun _ => ?_) (fun c_14 => by first | exact absurd rfl c_14 | exact absurd c_14 (by decide))
    refine aw_iload (n := 32) dX8_end_30 rfl rfl ?_
    refine aw_iconst (n := 33) (v := 1) dX8_end_32 (by decide) rfl ?_
    refine aw_icmp_ne (tg := 49) (n := 36) dX8_end_33 (by decide) rfl (fun _ => ?_) (fun c_33 => by first | exact absurd rfl c_33 | exact absurd c_33 (by decide))
    refine aw_iload (n := 51) dX8_end_49 rfl rfl ?_
    refine aw_iconst (n := 52) (v := 2) dX8_end_51 (by decide) rfl ?_
    refine aw_icmp_ne (tg := 63) (n := 55) dX8_end_52 (by decide) rfl (fun _ => ?_) (fun c_52 => by first | exact absurd rfl c_52 | exact absurd c_52 (by decide))
    refine aw_iload (n := 65) dX8_end_63 rfl rfl ?_
    refine aw_bipush (n := 67) (v := 9) dX8_end_65 (by decide) rfl ?_
    refine aw_icmp_ge (tg := 80) (n := 70) dX8_end_67 (by decide) rfl (fun _ => ?_) (fun c_67 => by first | exact absurd rfl c_67 | exact absurd c_67 (by decide))
    refine aw_iload (n := 82) dX8_end_80 rfl rfl ?_
    refine aw_bipush (n := 84) (v := 9) dX8_end_82 (by decide) rfl ?_
    refine aw_icmp_ne (tg := 95) (n := 87) dX8_end_84 (by decide) rfl (fun _ => ?_) (fun c_84 => by first | exact absurd rfl c_84 | exact absurd c_84 (by decide))
    refine aw_iload (n := 97) dX8_end_95 rfl rfl ?_
    refine aw_bipush (n := 99) (v := 19) dX8_end_97 (by decide) rfl ?_
    refine aw_icmp_ne (tg := 141) (n := 102) dX8_end_99 (by decide) rfl (fun _ => ?_) (fun c_99 => by first | exact absurd rfl c_99 | exact absurd c_99 (by decide))
    refine aw_iload (n := 143) dX8_end_141 rfl rfl ?_
    refine aw_bipush (n := 145) (v := 20) dX8_end_143 (by decide) rfl ?_
    refine aw_icmp_ne (tg := 162) (n := 148) dX8_end_145 (by decide) rfl (fun _ => ?_) (fun c_145 => by first | exact absurd rfl c_145 | exact absurd c_145 (by decide))
    refine aw_aload_n (n := 163) dX8_end_162 rfl rfl ?_
    refine aw_iload (n := 165) dX8_end_163 rfl rfl ?_
    refine aw_iload_n (n := 166) dX8_end_165 rfl rfl ?_
    refine aw_v2 (d1 := d - 1) (n := 169) (Z := mX8_rows) (ci := 6) (L0 := [_, _, _, .null, .null, .null, .null, .null]) dX8_end_166 kX8_rows gX8_161 iyX8_rows eyX8_rows rfl rfl E_164 rfl rfl (Nat.le_of_ble_eq_true rfl) rfl rfl (by omega) (Nat.le_of_ble_eq_true rfl) (m_rows16 (n0 := n) (inp := inp) (by omega) hmk ht h20 h22 (ha (by decide)) (eQ_pass hQ fun M1 h => ?_))
    dsimp only [aPush]
    refine aw_vret dX8_end_169 rfl ?_
    exact h
  · skip
    obtain rfl := nc (by decide)
    obtain rfl := nb (by decide)
    refine aw_iconst (n := 1) (v := 3) dX8_end_0 (by decide) rfl ?_
    refine aw_iload_n (n := 2) dX8_end_1 rfl rfl ?_
    refine aw_imul (n := 3) dX8_end_2 rfl ?_
    rw [e3]
    refine aw_istore_n (n := 4) (L' := [_, _, _, _, _]) dX8_end_3 (Nat.le_of_ble_eq_true rfl) rfl rfl ?_
    refine aw_aload_n (n := 5) dX8_end_4 rfl rfl ?_
    refine aw_getr (n := 8) dX8_end_5 fX8_7 E_164 rfl rfl ?_
    refine aw_iload_n (n := 9) dX8_end_8 rfl rfl ?_
    refine aw_iald (n := 10) dX8_end_9 E_165 (by assumption) rfl ?_
    rw [htc, hM]
    refine aw_istore (n := 12) (L' := [_, _, _, _, _]) dX8_end_10 (Nat.le_of_ble_eq_true rfl) rfl rfl ?_
    refine aw_iload (n := 14) dX8_end_12 rfl rfl ?_
    refine aw_if_ne (tg := 30) (n := 17) dX8_end_14 (by decide) rfl (fun _ => ?_) (fun c_14 => by first | exact absurd rfl c_14 | exact absurd c_14 (by decide))
    refine aw_iload (n := 32) dX8_end_30 rfl rfl ?_
    refine aw_iconst (n := 33) (v := 1) dX8_end_32 (by decide) rfl ?_
    refine aw_icmp_ne (tg := 49) (n := 36) dX8_end_33 (by decide) rfl (fun _ => ?_) (fun c_33 => by first | exact absurd rfl c_33 | exact absurd c_33 (by decide))
    refine aw_iload (n := 51) dX8_end_49 rfl rfl ?_
    refine aw_iconst (n := 52) (v := 2) dX8_end_51 (by decide) rfl ?_
    refine aw_icmp_ne (tg := 63) (n := 55) dX8_end_52 (by decide) rfl (fun _ => ?_) (fun c_52 => by first | exact absurd rfl c_52 | exact absurd c_52 (by decide))
    refine aw_iload (n := 65) dX8_end_63 rfl rfl ?_
    refine aw_bipush (n := 67) (v := 9) dX8_end_65 (by decide) rfl ?_
    refine aw_icmp_ge (tg := 80) (n := 70) dX8_end_67 (by decide) rfl (fun _ => ?_) (fun c_67 => by first | exact absurd rfl c_67 | exact absurd c_67 (by decide))
    refine aw_iload (n := 82) dX8_end_80 rfl rfl ?_
    refine aw_bipush (n := 84) (v := 9) dX8_end_82 (by decide) rfl ?_
    refine aw_icmp_ne (tg := 95) (n := 87) dX8_end_84 (by decide) rfl (fun _ => ?_) (fun c_84 => by first | exact absurd rfl c_84 | exact absurd c_84 (by decide))
    refine aw_iload (n := 97) dX8_end_95 rfl rfl ?_
    refine aw_bipush (n := 99) (v := 19) dX8_end_97 (by decide) rfl ?_
    refine aw_icmp_ne (tg := 141) (n := 102) dX8_end_99 (by decide) rfl (fun _ => ?_) (fun c_99 => by first | exact absurd rfl c_99 | exact absurd c_99 (by decide))
    refine aw_iload (n := 143) dX8_end_141 rfl rfl ?_
    refine aw_bipush (n := 145) (v := 20) dX8_end_143 (by decide) rfl ?_
    refine aw_icmp_ne (tg := 162) (n := 148) dX8_end_145 (by decide) rfl (fun _ => ?_) (fun c_145 => by first | exact absurd rfl c_145 | exact absurd c_145 (by decide))
    refine aw_aload_n (n := 163) dX8_end_162 rfl rfl ?_
    refine aw_iload (n := 165) dX8_end_163 rfl rfl ?_
    refine aw_iload_n (n := 166) dX8_end_165 rfl rfl ?_
    refine aw_v2 (d1 := d - 1) (n := 169) (Z := mX8_rows) (ci := 6) (L0 := [_, _, _, .null, .null, .null, .null, .null]) dX8_end_166 kX8_rows gX8_161 iyX8_rows eyX8_rows rfl rfl E_164 rfl rfl (Nat.le_of_ble_eq_true rfl) rfl rfl (by omega) (Nat.le_of_ble_eq_true rfl) (m_rows17 (n0 := n) (inp := inp) (by omega) hmk ht h20 h22 (ha (by decide)) (eQ_pass hQ fun M1 h => ?_))
    dsimp only [aPush]
    refine aw_vret dX8_end_169 rfl ?_
    exact h
  · skip
    obtain rfl := nc (by decide)
    obtain rfl := nb (by decide)
    refine aw_iconst (n := 1) (v := 3) dX8_end_0 (by decide) rfl ?_
    refine aw_iload_n (n := 2) dX8_end_1 rfl rfl ?_
    refine aw_imul (n := 3) dX8_end_2 rfl ?_
    rw [e3]
    refine aw_istore_n (n := 4) (L' := [_, _, _, _, _]) dX8_end_3 (Nat.le_of_ble_eq_true rfl) rfl rfl ?_
    refine aw_aload_n (n := 5) dX8_end_4 rfl rfl ?_
    refine aw_getr (n := 8) dX8_end_5 fX8_7 E_164 rfl rfl ?_
    refine aw_iload_n (n := 9) dX8_end_8 rfl rfl ?_
    refine aw_iald (n := 10) dX8_end_9 E_165 (by assumption) rfl ?_
    rw [htc, hM]
    refine aw_istore (n := 12) (L' := [_, _, _, _, _]) dX8_end_10 (Nat.le_of_ble_eq_true rfl) rfl rfl ?_
    refine aw_iload (n := 14) dX8_end_12 rfl rfl ?_
    refine aw_if_ne (tg := 30) (n := 17) dX8_end_14 (by decide) rfl (fun _ => ?_) (fun c_14 => by first | exact absurd rfl c_14 | exact absurd c_14 (by decide))
    refine aw_iload (n := 32) dX8_end_30 rfl rfl ?_
    refine aw_iconst (n := 33) (v := 1) dX8_end_32 (by decide) rfl ?_
    refine aw_icmp_ne (tg := 49) (n := 36) dX8_end_33 (by decide) rfl (fun _ => ?_) (fun c_33 => by first | exact absurd rfl c_33 | exact absurd c_33 (by decide))
    refine aw_iload (n := 51) dX8_end_49 rfl rfl ?_
    refine aw_iconst (n := 52) (v := 2) dX8_end_51 (by decide) rfl ?_
    refine aw_icmp_ne (tg := 63) (n := 55) dX8_end_52 (by decide) rfl (fun _ => ?_) (fun c_52 => by first | exact absurd rfl c_52 | exact absurd c_52 (by decide))
    refine aw_iload (n := 65) dX8_end_63 rfl rfl ?_
    refine aw_bipush (n := 67) (v := 9) dX8_end_65 (by decide) rfl ?_
    refine aw_icmp_ge (tg := 80) (n := 70) dX8_end_67 (by decide) rfl (fun _ => ?_) (fun c_67 => by first | exact absurd rfl c_67 | exact absurd c_67 (by decide))
    refine aw_iload (n := 82) dX8_end_80 rfl rfl ?_
    refine aw_bipush (n := 84) (v := 9) dX8_end_82 (by decide) rfl ?_
    refine aw_icmp_ne (tg := 95) (n := 87) dX8_end_84 (by decide) rfl (fun _ => ?_) (fun c_84 => by first | exact absurd rfl c_84 | exact absurd c_84 (by decide))
    refine aw_iload (n := 97) dX8_end_95 rfl rfl ?_
    refine aw_bipush (n := 99) (v := 19) dX8_end_97 (by decide) rfl ?_
    refine aw_icmp_ne (tg := 141) (n := 102) dX8_end_99 (by decide) rfl (fun _ => ?_) (fun c_99 => by first | exact absurd rfl c_99 | exact absurd c_99 (by decide))
    refine aw_iload (n := 143) dX8_end_141 rfl rfl ?_
    refine aw_bipush (n := 145) (v := 20) dX8_end_143 (by decide) rfl ?_
    refine aw_icmp_ne (tg := 162) (n := 148) dX8_end_145 (by decide) rfl (fun _ => ?_) (fun c_145 => by first | exact absurd rfl c_145 | exact absurd c_145 (by decide))
    refine aw_aload_n (n := 163) dX8_end_162 rfl rfl ?_
    refine aw_iload (n := 165) dX8_end_163 rfl rfl ?_
    refine aw_iload_n (n := 166) dX8_end_165 rfl rfl ?_
    refine aw_v2 (d1 := d - 1) (n := 169) (Z := mX8_rows) (ci := 6) (L0 := [_, _, _, .null, .null, .null, .null, .null]) dX8_end_166 kX8_rows gX8_161 iyX8_rows eyX8_rows rfl rfl E_164 rfl rfl (Nat.le_of_ble_eq_true rfl) rfl rfl (by omega) (Nat.le_of_ble_eq_true rfl) (m_rows18 (n0 := n) (inp := inp) (by omega) hmk ht h20 h22 (ha (by decide)) (eQ_pass hQ fun M1 h => ?_))
    dsimp only [aPush]
    refine aw_vret dX8_end_169 rfl ?_
    exact h
theorem m_end19 {mk t tt : Nat} {vb : vV} (ht : t < 60) (htt : tt < 60) (h20 : M 164 20 = 0) (h22 : M 164 22 = nI mk) (hM : M 165 tt = nI 19) (hb : gV M mk (3 * t + 1) vb) (hQ : eQ mk M (.inr vb) Q) : aw l K mX8_end d 0 0 0 [.ref 164, .int (nI tt), .int (nI t), .null, .null] [] EE M Q := by
  have hin : vp_in (nI tt) 60 := vp_in_nI htt (by decide)
  have htc : (nI tt).toNatClampNeg = tt := nI_clamp (by omega)
  have e3 : (3 : Int32) * nI t = nI (3 * t) := by rw [show (3 : Int32) = nI 3 from rfl, pk_mul]
  have hinb : vp_in (nI (3 * t + 1)) 183 := vp_in_nI (by omega) (by decide)
  have hbb : (nI (3 * t + 1)).toNatClampNeg = 3 * t + 1 := nI_clamp (by omega)
  refine aw_iconst (n := 1) (v := 3) dX8_end_0 (by decide) rfl ?_
  refine aw_iload_n (n := 2) dX8_end_1 rfl rfl ?_
  refine aw_imul (n := 3) dX8_end_2 rfl ?_
  rw [e3]
  refine aw_istore_n (n := 4) (L' := [_, _, _, _, _]) dX8_end_3 (Nat.le_of_ble_eq_true rfl) rfl rfl ?_
  refine aw_aload_n (n := 5) dX8_end_4 rfl rfl ?_
  refine aw_getr (n := 8) dX8_end_5 fX8_7 E_164 rfl rfl ?_
  refine aw_iload_n (n := 9) dX8_end_8 rfl rfl ?_
  refine aw_iald (n := 10) dX8_end_9 E_165 (by assumption) rfl ?_
  rw [htc, hM]
  refine aw_istore (n := 12) (L' := [_, _, _, _, _]) dX8_end_10 (Nat.le_of_ble_eq_true rfl) rfl rfl ?_
  refine aw_iload (n := 14) dX8_end_12 rfl rfl ?_
  refine aw_if_ne (tg := 30) (n := 17) dX8_end_14 (by decide) rfl (fun _ => ?_) (fun c_14 => by first | exact absurd rfl c_14 | exact absurd c_14 (by decide))
  refine aw_iload (n := 32) dX8_end_30 rfl rfl ?_
  refine aw_iconst (n := 33) (v := 1) dX8_end_32 (by decide) rfl ?_
  refine aw_icmp_ne (tg := 49) (n := 36) dX8_end_33 (by decide) rfl (fun _ => ?_) (fun c_33 => by first | exact absurd rfl c_33 | exact absurd c_33 (by decide))
  refine aw_iload (n := 51) dX8_end_49 rfl rfl ?_
  refine aw_iconst (n := 52) (v := 2) dX8_end_51 (by decide) rfl ?_
  refine aw_icmp_ne (tg := 63) (n := 55) dX8_end_52 (by decide) rfl (fun _ => ?_) (fun c_52 => by first | exact absurd rfl c_52 | exact absurd c_52 (by decide))
  refine aw_iload (n := 65) dX8_end_63 rfl rfl ?_
  refine aw_bipush (n := 67) (v := 9) dX8_end_65 (by decide) rfl ?_
  refine aw_icmp_ge (tg := 80) (n := 70) dX8_end_67 (by decide) rfl (fun _ => ?_) (fun c_67 => by first | exact absurd rfl c_67 | exact absurd c_67 (by decide))
  refine aw_iload (n := 82) dX8_end_80 rfl rfl ?_
  refine aw_bipush (n := 84) (v := 9) dX8_end_82 (by decide) rfl ?_
  refine aw_icmp_ne (tg := 95) (n := 87) dX8_end_84 (by decide) rfl (fun _ => ?_) (fun c_84 => by first | exact absurd rfl c_84 | exact absurd c_84 (by decide))
  refine aw_iload (n := 97) dX8_end_95 rfl rfl ?_
  refine aw_bipush (n := 99) (v := 19) dX8_end_97 (by decide) rfl ?_
  refine aw_icmp_ne (tg := 141) (n := 102) dX8_end_99 (by decide) rfl (fun c_99 => by first | exact absurd rfl c_99 | exact absurd c_99 (by decide)) (fun _ => ?_)
  refine aw_aload_n (n := 103) dX8_end_102 rfl rfl ?_
  refine aw_aload_n (n := 104) dX8_end_103 rfl rfl ?_
  refine aw_getr (n := 107) dX8_end_104 fX8_40 E_164 rfl rfl ?_
  refine aw_iload_n (n := 108) dX8_end_107 rfl rfl ?_
  refine aw_iconst (n := 109) (v := 1) dX8_end_108 (by decide) rfl ?_
  refine aw_iadd (n := 110) dX8_end_109 rfl ?_
  rw [nI_1]
  refine aw_iald (n := 111) dX8_end_110 E_175 (by assumption) rfl ?_
  rw [hbb]
  refine aw_puti (n := 114) dX8_end_111 pX8_128 E_164 rfl rfl ?_
  refine aw_aload_n (n := 115) dX8_end_114 rfl rfl ?_
  refine aw_aload_n (n := 116) dX8_end_115 rfl rfl ?_
  refine aw_getr (n := 119) dX8_end_116 fX8_43 E_164 rfl rfl ?_
  refine aw_iload_n (n := 120) dX8_end_119 rfl rfl ?_
  refine aw_iconst (n := 121) (v := 1) dX8_end_120 (by decide) rfl ?_
  refine aw_iadd (n := 122) dX8_end_121 rfl ?_
  rw [nI_1]
  refine aw_iald (n := 123) dX8_end_122 E_176 (by assumption) rfl ?_
  rw [hbb, up2_a _ _ (by decide)]
  refine aw_puti (n := 126) dX8_end_123 pX8_131 E_164 rfl rfl ?_
  refine aw_aload_n (n := 127) dX8_end_126 rfl rfl ?_
  refine aw_aload_n (n := 128) dX8_end_127 rfl rfl ?_
  refine aw_getr (n := 131) dX8_end_128 fX8_46 E_164 rfl rfl ?_
  refine aw_iload_n (n := 132) dX8_end_131 rfl rfl ?_
  refine aw_iconst (n := 133) (v := 1) dX8_end_132 (by decide) rfl ?_
  refine aw_iadd (n := 134) dX8_end_133 rfl ?_
  rw [nI_1]
  refine aw_iald (n := 135) dX8_end_134 E_177 (by assumption) rfl ?_
  rw [hbb, up2_a _ _ (by decide), up2_a _ _ (by decide)]
  refine aw_puti (n := 138) dX8_end_135 pX8_134 E_164 rfl rfl ?_
  refine aw_goto (n := 169) dX8_end_138 (by decide) ?_
  refine aw_vret dX8_end_169 rfl ?_
  refine hQ.2 _ mk _ rfl ?_ ?_ (Nat.le_refl _) (by omega) ?_ (fE_up (fE_up (fE_up (fE_refl _ _) (by omega)) (by omega)) (by omega))
  · rw [up2_k _ _ (by decide), up2_k _ _ (by decide), up2_k _ _ (by decide)]; exact h20
  · rw [up2_k _ _ (by decide), up2_k _ _ (by decide), up2_k _ _ (by decide)]; exact h22
  · obtain ⟨M3, hM3⟩ : ∃ M3, M3 = up2 (up2 (up2 M 164 17 (M 175 (3 * t + 1))) 164 18 (M 176 (3 * t + 1))) 164 19 (M 177 (3 * t + 1)) := ⟨_, rfl⟩
    rw [← hM3]
    unfold rV
    rw [show M3 164 17 = M 175 (3 * t + 1) by rw [hM3, up2_k _ _ (by decide), up2_k _ _ (by decide), up2_s], show M3 164 18 = M 176 (3 * t + 1) by rw [hM3, up2_k _ _ (by decide), up2_s], show M3 164 19 = M 177 (3 * t + 1) by rw [hM3, up2_s]]
    exact mV_mono hb (Nat.le_refl _) (fun j _ => by rw [hM3, up2_a _ _ (by decide), up2_a _ _ (by decide), up2_a _ _ (by decide)])
theorem m_end20a {mk t tt : Nat} (hd : 2 ≤ d) (ht : t < 60) (htt : tt < 60) (h20 : M 164 20 = 0) (h22 : M 164 22 = nI mk) (hM : M 165 tt = nI 20) (hp : M 174 t = nI 1) (hQ : eQ mk M (.inr (some (.inl 0))) Q) : aw l K mX8_end d 0 0 0 [.ref 164, .int (nI tt), .int (nI t), .null, .null] [] EE M Q := by
  have hin : vp_in (nI tt) 60 := vp_in_nI htt (by decide)
  have htc : (nI tt).toNatClampNeg = tt := nI_clamp (by omega)
  have hit : vp_in (nI t) 61 := vp_in_nI (by omega) (by decide)
  have hic : (nI t).toNatClampNeg = t := nI_clamp (by omega)
  have e3 : (3 : Int32) * nI t = nI (3 * t) := by rw [show (3 : Int32) = nI 3 from rfl, pk_mul]
  refine aw_iconst (n := 1) (v := 3) dX8_end_0 (by decide) rfl ?_
  refine aw_iload_n (n := 2) dX8_end_1 rfl rfl ?_
  refine aw_imul (n := 3) dX8_end_2 rfl ?_
  rw [e3]
  refine aw_istore_n (n := 4) (L' := [_, _, _, _, _]) dX8_end_3 (Nat.le_of_ble_eq_true rfl) rfl rfl ?_
  refine aw_aload_n (n := 5) dX8_end_4 rfl rfl ?_
  refine aw_getr (n := 8) dX8_end_5 fX8_7 E_164 rfl rfl ?_
  refine aw_iload_n (n := 9) dX8_end_8 rfl rfl ?_
  refine aw_iald (n := 10) dX8_end_9 E_165 (by assumption) rfl ?_
  rw [htc, hM]
  refine aw_istore (n := 12) (L' := [_, _, _, _, _]) dX8_end_10 (Nat.le_of_ble_eq_true rfl) rfl rfl ?_
  refine aw_iload (n := 14) dX8_end_12 rfl rfl ?_
  refine aw_if_ne (tg := 30) (n := 17) dX8_end_14 (by decide) rfl (fun _ => ?_) (fun c_14 => by first | exact absurd rfl c_14 | exact absurd c_14 (by decide))
  refine aw_iload (n := 32) dX8_end_30 rfl rfl ?_
  refine aw_iconst (n := 33) (v := 1) dX8_end_32 (by decide) rfl ?_
  refine aw_icmp_ne (tg := 49) (n := 36) dX8_end_33 (by decide) rfl (fun _ => ?_) (fun c_33 => by first | exact absurd rfl c_33 | exact absurd c_33 (by decide))
  refine aw_iload (n := 51) dX8_end_49 rfl rfl ?_
  refine aw_iconst (n := 52) (v := 2) dX8_end_51 (by decide) rfl ?_
  refine aw_icmp_ne (tg := 63) (n := 55) dX8_end_52 (by decide) rfl (fun _ => ?_) (fun c_52 => by first | exact absurd rfl c_52 | exact absurd c_52 (by decide))
  refine aw_iload (n := 65) dX8_end_63 rfl rfl ?_
  refine aw_bipush (n := 67) (v := 9) dX8_end_65 (by decide) rfl ?_
  refine aw_icmp_ge (tg := 80) (n := 70) dX8_end_67 (by decide) rfl (fun _ => ?_) (fun c_67 => by first | exact absurd rfl c_67 | exact absurd c_67 (by decide))
  refine aw_iload (n := 82) dX8_end_80 rfl rfl ?_
  refine aw_bipush (n := 84) (v := 9) dX8_end_82 (by decide) rfl ?_
  refine aw_icmp_ne (tg := 95) (n := 87) dX8_end_84 (by decide) rfl (fun _ => ?_) (fun c_84 => by first | exact absurd rfl c_84 | exact absurd c_84 (by decide))
  refine aw_iload (n := 97) dX8_end_95 rfl rfl ?_
  refine aw_bipush (n := 99) (v := 19) dX8_end_97 (by decide) rfl ?_
  refine aw_icmp_ne (tg := 141) (n := 102) dX8_end_99 (by decide) rfl (fun _ => ?_) (fun c_99 => by first | exact absurd rfl c_99 | exact absurd c_99 (by decide))
  refine aw_iload (n := 143) dX8_end_141 rfl rfl ?_
  refine aw_bipush (n := 145) (v := 20) dX8_end_143 (by decide) rfl ?_
  refine aw_icmp_ne (tg := 162) (n := 148) dX8_end_145 (by decide) rfl (fun c_145 => by first | exact absurd rfl c_145 | exact absurd c_145 (by decide)) (fun _ => ?_)
  refine aw_aload_n (n := 149) dX8_end_148 rfl rfl ?_
  refine aw_iload_n (n := 150) dX8_end_149 rfl rfl ?_
  refine aw_aload_n (n := 151) dX8_end_150 rfl rfl ?_
  refine aw_getr (n := 154) dX8_end_151 fX8_37 E_164 rfl rfl ?_
  refine aw_iload_n (n := 155) dX8_end_154 rfl rfl ?_
  refine aw_iald (n := 156) dX8_end_155 E_174 (by assumption) rfl ?_
  rw [hic, hp]
  refine aw_v2 (d1 := d - 1) (n := 159) (Z := mX8_both) (ci := 6) (L0 := [_, _, _]) dX8_end_156 kX8_both gX8_158 iyX8_both eyX8_both rfl rfl E_164 rfl rfl (Nat.le_of_ble_eq_true rfl) rfl rfl (by omega) (Nat.le_of_ble_eq_true rfl) (m_both1 (by omega) h20 h22 (eQ_pass hQ fun M1 h => ?_))
  dsimp only [aPush]
  refine aw_goto (n := 169) dX8_end_159 (by decide) ?_
  refine aw_vret dX8_end_169 rfl ?_
  exact h
theorem m_end20b {mk t tt : Nat} {vb : vV} (hd : 2 ≤ d) (ht : t < 60) (htt : tt < 60) (h20 : M 164 20 = 0) (h22 : M 164 22 = nI mk) (hM : M 165 tt = nI 20) (hp : M 174 t = nI 2) (hb : gV M mk (3 * t + 1) vb) (hQ : eQ mk M (bW vb fun y => .inr (some (.inl (if y = 0 then 0 else 1)))) Q) : aw l K mX8_end d 0 0 0 [.ref 164, .int (nI tt), .int (nI t), .null, .null] [] EE M Q := by
  have hin : vp_in (nI tt) 60 := vp_in_nI htt (by decide)
  have htc : (nI tt).toNatClampNeg = tt := nI_clamp (by omega)
  have hit : vp_in (nI t) 61 := vp_in_nI (by omega) (by decide)
  have hic : (nI t).toNatClampNeg = t := nI_clamp (by omega)
  have e3 : (3 : Int32) * nI t = nI (3 * t) := by rw [show (3 : Int32) = nI 3 from rfl, pk_mul]
  refine aw_iconst (n := 1) (v := 3) dX8_end_0 (by decide) rfl ?_
  refine aw_iload_n (n := 2) dX8_end_1 rfl rfl ?_
  refine aw_imul (n := 3) dX8_end_2 rfl ?_
  rw [e3]
  refine aw_istore_n (n := 4) (L' := [_, _, _, _, _]) dX8_end_3 (Nat.le_of_ble_eq_true rfl) rfl rfl ?_
  refine aw_aload_n (n := 5) dX8_end_4 rfl rfl ?_
  refine aw_getr (n := 8) dX8_end_5 fX8_7 E_164 rfl rfl ?_
  refine aw_iload_n (n := 9) dX8_end_8 rfl rfl ?_
  refine aw_iald (n := 10) dX8_end_9 E_165 (by assumption) rfl ?_
  rw [htc, hM]
  refine aw_istore (n := 12) (L' := [_, _, _, _, _]) dX8_end_10 (Nat.le_of_ble_eq_true rfl) rfl rfl ?_
  refine aw_iload (n := 14) dX8_end_12 rfl rfl ?_
  refine aw_if_ne (tg := 30) (n := 17) dX8_end_14 (by decide) rfl (fun _ => ?_) (fun c_14 => by first | exact absurd rfl c_14 | exact absurd c_14 (by decide))
  refine aw_iload (n := 32) dX8_end_30 rfl rfl ?_
  refine aw_iconst (n := 33) (v := 1) dX8_end_32 (by decide) rfl ?_
  refine aw_icmp_ne (tg := 49) (n := 36) dX8_end_33 (by decide) rfl (fun _ => ?_) (fun c_33 => by first | exact absurd rfl c_33 | exact absurd c_33 (by decide))
  refine aw_iload (n := 51) dX8_end_49 rfl rfl ?_
  refine aw_iconst (n := 52) (v := 2) dX8_end_51 (by decide) rfl ?_
  refine aw_icmp_ne (tg := 63) (n := 55) dX8_end_52 (by decide) rfl (fun _ => ?_) (fun c_52 => by first | exact absurd rfl c_52 | exact absurd c_52 (by decide))
  refine aw_iload (n := 65) dX8_end_63 rfl rfl ?_
  refine aw_bipush (n := 67) (v := 9) dX8_end_65 (by decide) rfl ?_
  refine aw_icmp_ge (tg := 80) (n := 70) dX8_end_67 (by decide) rfl (fun _ => ?_) (fun c_67 => by first | exact absurd rfl c_67 | exact absurd c_67 (by decide))
  refine aw_iload (n := 82) dX8_end_80 rfl rfl ?_
  refine aw_bipush (n := 84) (v := 9) dX8_end_82 (by decide) rfl ?_
  refine aw_icmp_ne (tg := 95) (n := 87) dX8_end_84 (by decide) rfl (fun _ => ?_) (fun c_84 => by first | exact absurd rfl c_84 | exact absurd c_84 (by decide))
  refine aw_iload (n := 97) dX8_end_95 rfl rfl ?_
  refine aw_bipush (n := 99) (v := 19) dX8_end_97 (by decide) rfl ?_
  refine aw_icmp_ne (tg := 141) (n := 102) dX8_end_99 (by decide) rfl (fun _ => ?_) (fun c_99 => by first | exact absurd rfl c_99 | exact absurd c_99 (by decide))
  refine aw_iload (n := 143) dX8_end_141 rfl rfl ?_
  refine aw_bipush (n := 145) (v := 20) dX8_end_143 (by decide) rfl ?_
  refine aw_icmp_ne (tg := 162) (n := 148) dX8_end_145 (by decide) rfl (fun c_145 => by first | exact absurd rfl c_145 | exact absurd c_145 (by decide)) (fun _ => ?_)
  refine aw_aload_n (n := 149) dX8_end_148 rfl rfl ?_
  refine aw_iload_n (n := 150) dX8_end_149 rfl rfl ?_
  refine aw_aload_n (n := 151) dX8_end_150 rfl rfl ?_
  refine aw_getr (n := 154) dX8_end_151 fX8_37 E_164 rfl rfl ?_
  refine aw_iload_n (n := 155) dX8_end_154 rfl rfl ?_
  refine aw_iald (n := 156) dX8_end_155 E_174 (by assumption) rfl ?_
  rw [hic, hp]
  refine aw_v2 (d1 := d - 1) (n := 159) (Z := mX8_both) (ci := 6) (L0 := [_, _, _]) dX8_end_156 kX8_both gX8_158 iyX8_both eyX8_both rfl rfl E_164 rfl rfl (Nat.le_of_ble_eq_true rfl) rfl rfl (by omega) (Nat.le_of_ble_eq_true rfl) (m_both2 (by omega) ht h20 h22 hb (eQ_pass hQ fun M1 h => ?_))
  dsimp only [aPush]
  refine aw_goto (n := 169) dX8_end_159 (by decide) ?_
  refine aw_vret dX8_end_169 rfl ?_
  exact h
end MEND2
