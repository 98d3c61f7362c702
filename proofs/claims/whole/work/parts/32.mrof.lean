section MROF
variable {l : Launch} {K : aK} {d : Nat} {M : aM} {Q : Option Value → aE → aM → Prop}
theorem m_row {mk : Nat} {x : Int32} (hmk : mk < 60) (h22 : M 164 22 = nI mk) (hQ : ∀ M', M' 164 17 = 1 → M' 164 18 = x → M' 164 19 = nI (3 + mk) → M' 164 22 = nI (mk + 1) → (∀ j, j ≠ 17 → j ≠ 18 → j ≠ 19 → j ≠ 22 → M' 164 j = M 164 j) → (∀ q, q ≠ 164 → M' q = M q) → Q (some (.int (nI (16 * (3 + mk))))) EE M') : aw l K mX8_row d 0 0 0 [.ref 164, .int x] [] EE M Q := by
  have e164 := E_164
  have e3 : (3 : Int32) + nI mk = nI (3 + mk) := by rw [show (3 : Int32) = nI 3 from rfl, nI_add]
  refine aw_aload_n (n := 1) dX8_row_0 rfl rfl ?_
  refine aw_iconst (n := 2) (v := 1) dX8_row_1 (by decide) rfl ?_
  refine aw_puti (n := 5) dX8_row_2 pX8_128 E_164 rfl rfl ?_
  refine aw_aload_n (n := 6) dX8_row_5 rfl rfl ?_
  refine aw_iload_n (n := 7) dX8_row_6 rfl rfl ?_
  refine aw_puti (n := 10) dX8_row_7 pX8_131 E_164 rfl rfl ?_
  refine aw_aload_n (n := 11) dX8_row_10 rfl rfl ?_
  refine aw_iconst (n := 12) (v := 3) dX8_row_11 (by decide) rfl ?_
  refine aw_aload_n (n := 13) dX8_row_12 rfl rfl ?_
  refine aw_geti (n := 16) dX8_row_13 fX8_144 E_164 rfl rfl ?_
  rw [up2_k _ _ (by decide), up2_k _ _ (by decide), h22]
  refine aw_iadd (n := 17) dX8_row_16 rfl ?_
  rw [e3]
  refine aw_puti (n := 20) dX8_row_17 pX8_134 E_164 rfl rfl ?_
  refine aw_aload_n (n := 21) dX8_row_20 rfl rfl ?_
  refine aw_dup (n := 22) dX8_row_21 rfl rfl ?_
  refine aw_geti (n := 25) dX8_row_22 fX8_144 E_164 rfl rfl ?_
  rw [up2_k _ _ (by decide), up2_k _ _ (by decide), up2_k _ _ (by decide), h22]
  refine aw_iconst (n := 26) (v := 1) dX8_row_25 (by decide) rfl ?_
  refine aw_iadd (n := 27) dX8_row_26 rfl ?_
  refine aw_puti (n := 30) dX8_row_27 pX8_144 E_164 rfl rfl ?_
  refine aw_bipush (n := 32) (v := 16) dX8_row_30 (by decide) rfl ?_
  refine aw_aload_n (n := 33) dX8_row_32 rfl rfl ?_
  refine aw_geti (n := 36) dX8_row_33 fX8_134 E_164 rfl rfl ?_
  rw [up2_k _ _ (by decide), up2_s]
  refine aw_imul (n := 37) dX8_row_36 rfl ?_
  refine aw_iret dX8_row_37 rfl ?_
  rw [show (16 : Int32) = nI 16 from rfl, pk_mul, nI_1]
  refine hQ _ ?_ ?_ ?_ ?_ (fun j a b c e => ?_) (fun q hq => ?_)
  · rw [up2_k _ _ (by decide), up2_k _ _ (by decide), up2_k _ _ (by decide), up2_s]
  · rw [up2_k _ _ (by decide), up2_k _ _ (by decide), up2_s]
  · rw [up2_k _ _ (by decide), up2_s]
  · rw [up2_s]
  · rw [up2_k _ _ e, up2_k _ _ c, up2_k _ _ b, up2_k _ _ a]
  · rw [up2_ra _ _ hq, up2_ra _ _ hq, up2_ra _ _ hq, up2_ra _ _ hq]
theorem m_rowOf12 {mk t sz : Nat} (hd : 1 ≤ d) (hmk : mk < 60) (ht : t < 60) (h20 : M 164 20 = 0) (h22 : M 164 22 = nI mk) {fr : Int32} (hs : sz ≤ 16) (hQ : eQ mk M (.inr (some (.inr (List.replicate sz 0)))) Q) : aw l K mX8_rowOf d 0 0 0 [.ref 164, .int (nI 12), .int (nI (3 * t)), .int fr, .int (nI sz), .null, .null, .null, .null, .null, .null, .null, .null] [] EE M Q := by
  have e164 := E_164
  have e176 := E_176
  have e177 := E_177
  have e178 := E_178
  have hinb : vp_in (nI (3 * t) + 1) 183 := by rw [nI_1]; exact vp_in_nI (by omega) (by decide)
  have hinc : vp_in (nI (3 * t) + 2) 183 := by rw [show (2 : Int32) = nI 2 from rfl, nI_add]; exact vp_in_nI (by omega) (by decide)
  have hbb : (nI (3 * t) + 1).toNatClampNeg = 3 * t + 1 := by rw [nI_1]; exact nI_clamp (by omega)
  have hcc : (nI (3 * t) + 2).toNatClampNeg = 3 * t + 2 := by rw [show (2 : Int32) = nI 2 from rfl, nI_add]; exact nI_clamp (by omega)
  have hR : List.replicate sz 0 = lR sz (fun _ => 0) := by
    refine ext_getD (by rw [List.length_replicate, len_lR]) (fun j hj => ?_)
    rw [List.length_replicate] at hj
    rw [getD_rep, getD_lR _ _ _ hj]
  rw [hR] at hQ
  refine aw_aload_n (n := 1) dX8_rowOf_0 rfl rfl ?_
  refine aw_getr (n := 4) dX8_rowOf_1 fX8_43 E_164 rfl rfl ?_
  refine aw_iload_n (n := 5) dX8_rowOf_4 rfl rfl ?_
  refine aw_iconst (n := 6) (v := 1) dX8_rowOf_5 (by decide) rfl ?_
  refine aw_iadd (n := 7) dX8_rowOf_6 rfl ?_
  refine aw_iald (n := 8) dX8_rowOf_7 E_176 (by assumption) rfl ?_
  rw [hbb]
  refine aw_istore (n := 10) (L' := [_, _, _, _, _, _, _, _, _, _, _, _, _]) dX8_rowOf_8 (Nat.le_of_ble_eq_true rfl) rfl rfl ?_
  refine aw_aload_n (n := 11) dX8_rowOf_10 rfl rfl ?_
  refine aw_getr (n := 14) dX8_rowOf_11 fX8_43 E_164 rfl rfl ?_
  refine aw_iload_n (n := 15) dX8_rowOf_14 rfl rfl ?_
  refine aw_iconst (n := 16) (v := 2) dX8_rowOf_15 (by decide) rfl ?_
  refine aw_iadd (n := 17) dX8_rowOf_16 rfl ?_
  refine aw_iald (n := 18) dX8_rowOf_17 E_176 (by assumption) rfl ?_
  rw [hcc]
  refine aw_istore (n := 20) (L' := [_, _, _, _, _, _, _, _, _, _, _, _, _]) dX8_rowOf_18 (Nat.le_of_ble_eq_true rfl) rfl rfl ?_
  refine aw_iload_n (n := 21) dX8_rowOf_20 rfl rfl ?_
  refine aw_bipush (n := 23) (v := 14) dX8_rowOf_21 (by decide) rfl ?_
  refine aw_icmp_ne (tg := 34) (n := 26) dX8_rowOf_23 (by decide) rfl (fun _ => ?_) (fun c_23 => by first | exact absurd rfl c_23 | exact absurd c_23 (by decide))
  refine aw_iload_n (n := 35) dX8_rowOf_34 rfl rfl ?_
  refine aw_bipush (n := 37) (v := 15) dX8_rowOf_35 (by decide) rfl ?_
  refine aw_icmp_ne (tg := 45) (n := 40) dX8_rowOf_37 (by decide) rfl (fun _ => ?_) (fun c_37 => by first | exact absurd rfl c_37 | exact absurd c_37 (by decide))
  refine aw_iload (n := 47) dX8_rowOf_45 rfl rfl ?_
  refine aw_istore (n := 49) (L' := [_, _, _, _, _, _, _, _, _, _, _, _, _]) dX8_rowOf_47 (Nat.le_of_ble_eq_true rfl) rfl rfl ?_
  refine aw_bipush (n := 51) (v := 16) dX8_rowOf_49 (by decide) rfl ?_
  refine aw_aload_n (n := 52) dX8_rowOf_51 rfl rfl ?_
  refine aw_getr (n := 55) dX8_rowOf_52 fX8_46 E_164 rfl rfl ?_
  refine aw_iload_n (n := 56) dX8_rowOf_55 rfl rfl ?_
  refine aw_iconst (n := 57) (v := 1) dX8_rowOf_56 (by decide) rfl ?_
  refine aw_iadd (n := 58) dX8_rowOf_57 rfl ?_
  refine aw_iald (n := 59) dX8_rowOf_58 E_177 (by assumption) rfl ?_
  rw [hbb]
  refine aw_imul (n := 60) dX8_rowOf_59 rfl ?_
  refine aw_istore (n := 62) (L' := [_, _, _, _, _, _, _, _, _, _, _, _, _]) dX8_rowOf_60 (Nat.le_of_ble_eq_true rfl) rfl rfl ?_
  refine aw_aload_n (n := 63) dX8_rowOf_62 rfl rfl ?_
  refine aw_iload (n := 65) dX8_rowOf_63 rfl rfl ?_
  refine aw_v1 (d1 := d - 1) (n := 68) (Z := mX8_row) (ci := 6) (L0 := [_, _]) dX8_rowOf_65 kX8_row gX8_172 iyX8_row eyX8_row rfl rfl E_164 rfl (Nat.le_of_ble_eq_true rfl) rfl rfl (by omega) (Nat.le_of_ble_eq_true rfl) (m_row hmk h22 (fun M1 r17 r18 r19 r22 rj rq => ?_))
  dsimp only [aPush]
  refine aw_istore (n := 70) (L' := [_, _, _, _, _, _, _, _, _, _, _, _, _]) dX8_rowOf_68 (Nat.le_of_ble_eq_true rfl) rfl rfl ?_
  refine m_fill1 (F := (fun _ => 0)) (by omega) (fun k Mk x11 hk hf h => ?_) (fun Mk x10 x11 hf hF => ?_)
  · have st : ∀ j, Mk 178 j = M 178 j := fun j => by rw [hf 178 (by decide), rq 178 (by decide)]
    refine aw_iload_n (n := 81) dX8_rowOf_80 rfl rfl ?_
    refine aw_bipush (n := 83) (v := 12) dX8_rowOf_81 (by decide) rfl ?_
    refine aw_icmp_ne (tg := 90) (n := 86) dX8_rowOf_83 (by decide) rfl (fun c_83 => by first | exact absurd rfl c_83 | exact absurd c_83 (by decide)) (fun _ => ?_)
    refine aw_iconst (n := 87) (v := 0) dX8_rowOf_86 (by decide) rfl ?_
    refine aw_goto (n := 214) dX8_rowOf_87 (by decide) ?_
    exact h
  · refine aw_iconst (n := 232) (v := 1) dX8_rowOf_231 (by decide) rfl ?_
    refine aw_istore (n := 234) (L' := [_, _, _, _, _, _, _, _, _, _, _, _, _]) dX8_rowOf_232 (Nat.le_of_ble_eq_true rfl) rfl rfl ?_
    refine aw_iload_n (n := 235) dX8_rowOf_234 rfl rfl ?_
    refine aw_bipush (n := 237) (v := 16) dX8_rowOf_235 (by decide) rfl ?_
    refine aw_icmp_ne (tg := 316) (n := 240) dX8_rowOf_237 (by decide) rfl (fun _ => ?_) (fun c_237 => by first | exact absurd rfl c_237 | exact absurd c_237 (by decide))
    exact m_fill3 (M0 := M) hmk (by omega) ⟨fun q a b c => by rw [hf q c]; exact rq q a, fun j a b c e g => by rw [hf 164 (by decide)]; exact rj j a b c g, fun j _ => by rw [hf 178 (by decide), rq 178 (by decide)]⟩ (by rw [hf 164 (by decide)]; exact r17) (by rw [hf 164 (by decide)]; exact r18) (by rw [hf 164 (by decide)]; exact r19) (by rw [hf 164 (by decide)]; exact (rj 20 (by decide) (by decide) (by decide) (by decide)).trans h20) (by rw [hf 164 (by decide)]; exact r22) hF hQ
theorem m_rowOf13 {mk t pl i : Nat} (hd : 1 ≤ d) (hmk : mk < 60) (ht : t < 60) (h20 : M 164 20 = 0) (h22 : M 164 22 = nI mk) {r : List Int32} (hr : r.length ≤ 16) (hpl : pl < 3 + mk) (hst : ∀ j, j < r.length → M 178 (16 * pl + j) = r.getD j 0) {x : Int32} (hi : i < r.length) (gy : M 176 (3 * t + 1) = nI i) (gz : M 176 (3 * t + 2) = x) (hQ : eQ mk M (.inr (some (.inr (r.set i x)))) Q) : aw l K mX8_rowOf d 0 0 0 [.ref 164, .int (nI 13), .int (nI (3 * t)), .int (nI (16 * pl)), .int (nI r.length), .null, .null, .null, .null, .null, .null, .null, .null] [] EE M Q := by
  have e164 := E_164
  have e176 := E_176
  have e177 := E_177
  have e178 := E_178
  have hinb : vp_in (nI (3 * t) + 1) 183 := by rw [nI_1]; exact vp_in_nI (by omega) (by decide)
  have hinc : vp_in (nI (3 * t) + 2) 183 := by rw [show (2 : Int32) = nI 2 from rfl, nI_add]; exact vp_in_nI (by omega) (by decide)
  have hbb : (nI (3 * t) + 1).toNatClampNeg = 3 * t + 1 := by rw [nI_1]; exact nI_clamp (by omega)
  have hcc : (nI (3 * t) + 2).toNatClampNeg = 3 * t + 2 := by rw [show (2 : Int32) = nI 2 from rfl, nI_add]; exact nI_clamp (by omega)
  have hR : r.set i x = lR r.length (fun k => if k = i then x else r.getD k 0) := by
    refine ext_getD (by rw [List.length_set, len_lR]) (fun j hj => ?_)
    rw [List.length_set] at hj
    rw [getD_set _ _ _ _ hi, getD_lR _ _ _ hj]
  rw [hR] at hQ
  refine aw_aload_n (n := 1) dX8_rowOf_0 rfl rfl ?_
  refine aw_getr (n := 4) dX8_rowOf_1 fX8_43 E_164 rfl rfl ?_
  refine aw_iload_n (n := 5) dX8_rowOf_4 rfl rfl ?_
  refine aw_iconst (n := 6) (v := 1) dX8_rowOf_5 (by decide) rfl ?_
  refine aw_iadd (n := 7) dX8_rowOf_6 rfl ?_
  refine aw_iald (n := 8) dX8_rowOf_7 E_176 (by assumption) rfl ?_
  rw [hbb]
  refine aw_istore (n := 10) (L' := [_, _, _, _, _, _, _, _, _, _, _, _, _]) dX8_rowOf_8 (Nat.le_of_ble_eq_true rfl) rfl rfl ?_
  rw [gy]
  refine aw_aload_n (n := 11) dX8_rowOf_10 rfl rfl ?_
  refine aw_getr (n := 14) dX8_rowOf_11 fX8_43 E_164 rfl rfl ?_
  refine aw_iload_n (n := 15) dX8_rowOf_14 rfl rfl ?_
  refine aw_iconst (n := 16) (v := 2) dX8_rowOf_15 (by decide) rfl ?_
  refine aw_iadd (n := 17) dX8_rowOf_16 rfl ?_
  refine aw_iald (n := 18) dX8_rowOf_17 E_176 (by assumption) rfl ?_
  rw [hcc]
  refine aw_istore (n := 20) (L' := [_, _, _, _, _, _, _, _, _, _, _, _, _]) dX8_rowOf_18 (Nat.le_of_ble_eq_true rfl) rfl rfl ?_
  rw [gz]
  refine aw_iload_n (n := 21) dX8_rowOf_20 rfl rfl ?_
  refine aw_bipush (n := 23) (v := 14) dX8_rowOf_21 (by decide) rfl ?_
  refine aw_icmp_ne (tg := 34) (n := 26) dX8_rowOf_23 (by decide) rfl (fun _ => ?_) (fun c_23 => by first | exact absurd rfl c_23 | exact absurd c_23 (by decide))
  refine aw_iload_n (n := 35) dX8_rowOf_34 rfl rfl ?_
  refine aw_bipush (n := 37) (v := 15) dX8_rowOf_35 (by decide) rfl ?_
  refine aw_icmp_ne (tg := 45) (n := 40) dX8_rowOf_37 (by decide) rfl (fun _ => ?_) (fun c_37 => by first | exact absurd rfl c_37 | exact absurd c_37 (by decide))
  refine aw_iload (n := 47) dX8_rowOf_45 rfl rfl ?_
  refine aw_istore (n := 49) (L' := [_, _, _, _, _, _, _, _, _, _, _, _, _]) dX8_rowOf_47 (Nat.le_of_ble_eq_true rfl) rfl rfl ?_
  refine aw_bipush (n := 51) (v := 16) dX8_rowOf_49 (by decide) rfl ?_
  refine aw_aload_n (n := 52) dX8_rowOf_51 rfl rfl ?_
  refine aw_getr (n := 55) dX8_rowOf_52 fX8_46 E_164 rfl rfl ?_
  refine aw_iload_n (n := 56) dX8_rowOf_55 rfl rfl ?_
  refine aw_iconst (n := 57) (v := 1) dX8_rowOf_56 (by decide) rfl ?_
  refine aw_iadd (n := 58) dX8_rowOf_57 rfl ?_
  refine aw_iald (n := 59) dX8_rowOf_58 E_177 (by assumption) rfl ?_
  rw [hbb]
  refine aw_imul (n := 60) dX8_rowOf_59 rfl ?_
  refine aw_istore (n := 62) (L' := [_, _, _, _, _, _, _, _, _, _, _, _, _]) dX8_rowOf_60 (Nat.le_of_ble_eq_true rfl) rfl rfl ?_
  refine aw_aload_n (n := 63) dX8_rowOf_62 rfl rfl ?_
  refine aw_iload (n := 65) dX8_rowOf_63 rfl rfl ?_
  refine aw_v1 (d1 := d - 1) (n := 68) (Z := mX8_row) (ci := 6) (L0 := [_, _]) dX8_rowOf_65 kX8_row gX8_172 iyX8_row eyX8_row rfl rfl E_164 rfl (Nat.le_of_ble_eq_true rfl) rfl rfl (by omega) (Nat.le_of_ble_eq_true rfl) (m_row hmk h22 (fun M1 r17 r18 r19 r22 rj rq => ?_))
  dsimp only [aPush]
  refine aw_istore (n := 70) (L' := [_, _, _, _, _, _, _, _, _, _, _, _, _]) dX8_rowOf_68 (Nat.le_of_ble_eq_true rfl) rfl rfl ?_
  refine m_fill1 (F := (fun k => if k = i then x else r.getD k 0)) (by omega) (fun k Mk x11 hk hf h => ?_) (fun Mk x10 x11 hf hF => ?_)
  · have st : ∀ j, Mk 178 j = M 178 j := fun j => by rw [hf 178 (by decide), rq 178 (by decide)]
    refine aw_iload_n (n := 81) dX8_rowOf_80 rfl rfl ?_
    refine aw_bipush (n := 83) (v := 12) dX8_rowOf_81 (by decide) rfl ?_
    refine aw_icmp_ne (tg := 90) (n := 86) dX8_rowOf_83 (by decide) rfl (fun _ => ?_) (fun c_83 => by first | exact absurd rfl c_83 | exact absurd c_83 (by decide))
    refine aw_iload_n (n := 91) dX8_rowOf_90 rfl rfl ?_
    refine aw_bipush (n := 93) (v := 13) dX8_rowOf_91 (by decide) rfl ?_
    refine aw_icmp_ne (tg := 120) (n := 96) dX8_rowOf_93 (by decide) rfl (fun c_93 => by first | exact absurd rfl c_93 | exact absurd c_93 (by decide)) (fun _ => ?_)
    refine aw_iload (n := 98) dX8_rowOf_96 rfl rfl ?_
    refine aw_iload (n := 100) dX8_rowOf_98 rfl rfl ?_
    refine aw_icmp_ne (tg := 108) (n := 103) dX8_rowOf_100 (by decide) rfl (fun c_100 => ?_) (fun c_100 => ?_)
    · refine aw_aload_n (n := 109) dX8_rowOf_108 rfl rfl ?_
      refine aw_getr (n := 112) dX8_rowOf_109 fX8_49 E_164 rfl rfl ?_
      refine aw_iload_n (n := 113) dX8_rowOf_112 rfl rfl ?_
      refine aw_iload (n := 115) dX8_rowOf_113 rfl rfl ?_
      refine aw_iadd (n := 116) dX8_rowOf_115 rfl ?_
      rw [nI_add]
      refine aw_iald (n := 117) dX8_rowOf_116 E_178 (vp_in_nI (show 16 * pl + k < 1024 by omega) (by decide)) rfl ?_
      refine aw_goto (n := 214) dX8_rowOf_117 (by decide) ?_
      rw [show (if k = i then x else r.getD k 0) = r.getD k 0 from if_neg (fun q => c_100 (by rw [q]))] at h
      rw [nI_clamp (by omega), st, hst k hk]; exact h
    · refine aw_iload (n := 105) dX8_rowOf_103 rfl rfl ?_
      refine aw_goto (n := 214) dX8_rowOf_105 (by decide) ?_
      rw [show (if k = i then x else r.getD k 0) = x from if_pos ((nI_eq (by omega) (by omega)).mp c_100)] at h; exact h
  · refine aw_iconst (n := 232) (v := 1) dX8_rowOf_231 (by decide) rfl ?_
    refine aw_istore (n := 234) (L' := [_, _, _, _, _, _, _, _, _, _, _, _, _]) dX8_rowOf_232 (Nat.le_of_ble_eq_true rfl) rfl rfl ?_
    refine aw_iload_n (n := 235) dX8_rowOf_234 rfl rfl ?_
    refine aw_bipush (n := 237) (v := 16) dX8_rowOf_235 (by decide) rfl ?_
    refine aw_icmp_ne (tg := 316) (n := 240) dX8_rowOf_237 (by decide) rfl (fun _ => ?_) (fun c_237 => by first | exact absurd rfl c_237 | exact absurd c_237 (by decide))
    exact m_fill3 (M0 := M) hmk (by omega) ⟨fun q a b c => by rw [hf q c]; exact rq q a, fun j a b c e g => by rw [hf 164 (by decide)]; exact rj j a b c g, fun j _ => by rw [hf 178 (by decide), rq 178 (by decide)]⟩ (by rw [hf 164 (by decide)]; exact r17) (by rw [hf 164 (by decide)]; exact r18) (by rw [hf 164 (by decide)]; exact r19) (by rw [hf 164 (by decide)]; exact (rj 20 (by decide) (by decide) (by decide) (by decide)).trans h20) (by rw [hf 164 (by decide)]; exact r22) hF hQ
theorem m_rowOf14 {mk t pl pm : Nat} (hd : 1 ≤ d) (hmk : mk < 60) (ht : t < 60) (h20 : M 164 20 = 0) (h22 : M 164 22 = nI mk) {r : List Int32} (hr : r.length ≤ 16) (hpl : pl < 3 + mk) (hst : ∀ j, j < r.length → M 178 (16 * pl + j) = r.getD j 0) {s : List Int32} (hs : r.length + s.length ≤ 16) (hpm : pm < 3 + mk) (hsu : ∀ j, j < s.length → M 178 (16 * pm + j) = s.getD j 0) (gy : M 176 (3 * t + 1) = nI s.length) (gp : M 177 (3 * t + 1) = nI pm) (hQ : eQ mk M (.inr (some (.inr (r ++ s)))) Q) : aw l K mX8_rowOf d 0 0 0 [.ref 164, .int (nI 14), .int (nI (3 * t)), .int (nI (16 * pl)), .int (nI r.length), .null, .null, .null, .null, .null, .null, .null, .null] [] EE M Q := by
  have e164 := E_164
  have e176 := E_176
  have e177 := E_177
  have e178 := E_178
  have hinb : vp_in (nI (3 * t) + 1) 183 := by rw [nI_1]; exact vp_in_nI (by omega) (by decide)
  have hinc : vp_in (nI (3 * t) + 2) 183 := by rw [show (2 : Int32) = nI 2 from rfl, nI_add]; exact vp_in_nI (by omega) (by decide)
  have hbb : (nI (3 * t) + 1).toNatClampNeg = 3 * t + 1 := by rw [nI_1]; exact nI_clamp (by omega)
  have hcc : (nI (3 * t) + 2).toNatClampNeg = 3 * t + 2 := by rw [show (2 : Int32) = nI 2 from rfl, nI_add]; exact nI_clamp (by omega)
  have hR : r ++ s = lR (r.length + s.length) (fun k => if k < r.length then r.getD k 0 else s.getD (k - r.length) 0) := by
    refine ext_getD (by rw [List.length_append, len_lR]) (fun j hj => ?_)
    rw [List.length_append] at hj
    rw [getD_app, getD_lR _ _ _ hj]
  rw [hR] at hQ
  refine aw_aload_n (n := 1) dX8_rowOf_0 rfl rfl ?_
  refine aw_getr (n := 4) dX8_rowOf_1 fX8_43 E_164 rfl rfl ?_
  refine aw_iload_n (n := 5) dX8_rowOf_4 rfl rfl ?_
  refine aw_iconst (n := 6) (v := 1) dX8_rowOf_5 (by decide) rfl ?_
  refine aw_iadd (n := 7) dX8_rowOf_6 rfl ?_
  refine aw_iald (n := 8) dX8_rowOf_7 E_176 (by assumption) rfl ?_
  rw [hbb]
  refine aw_istore (n := 10) (L' := [_, _, _, _, _, _, _, _, _, _, _, _, _]) dX8_rowOf_8 (Nat.le_of_ble_eq_true rfl) rfl rfl ?_
  rw [gy]
  refine aw_aload_n (n := 11) dX8_rowOf_10 rfl rfl ?_
  refine aw_getr (n := 14) dX8_rowOf_11 fX8_43 E_164 rfl rfl ?_
  refine aw_iload_n (n := 15) dX8_rowOf_14 rfl rfl ?_
  refine aw_iconst (n := 16) (v := 2) dX8_rowOf_15 (by decide) rfl ?_
  refine aw_iadd (n := 17) dX8_rowOf_16 rfl ?_
  refine aw_iald (n := 18) dX8_rowOf_17 E_176 (by assumption) rfl ?_
  rw [hcc]
  refine aw_istore (n := 20) (L' := [_, _, _, _, _, _, _, _, _, _, _, _, _]) dX8_rowOf_18 (Nat.le_of_ble_eq_true rfl) rfl rfl ?_
  refine aw_iload_n (n := 21) dX8_rowOf_20 rfl rfl ?_
  refine aw_bipush (n := 23) (v := 14) dX8_rowOf_21 (by decide) rfl ?_
  refine aw_icmp_ne (tg := 34) (n := 26) dX8_rowOf_23 (by decide) rfl (fun c_23 => by first | exact absurd rfl c_23 | exact absurd c_23 (by decide)) (fun _ => ?_)
  refine aw_iload (n := 28) dX8_rowOf_26 rfl rfl ?_
  refine aw_iload (n := 30) dX8_rowOf_28 rfl rfl ?_
  refine aw_iadd (n := 31) dX8_rowOf_30 rfl ?_
  refine aw_goto (n := 47) dX8_rowOf_31 (by decide) ?_
  rw [nI_add]
  refine aw_istore (n := 49) (L' := [_, _, _, _, _, _, _, _, _, _, _, _, _]) dX8_rowOf_47 (Nat.le_of_ble_eq_true rfl) rfl rfl ?_
  refine aw_bipush (n := 51) (v := 16) dX8_rowOf_49 (by decide) rfl ?_
  refine aw_aload_n (n := 52) dX8_rowOf_51 rfl rfl ?_
  refine aw_getr (n := 55) dX8_rowOf_52 fX8_46 E_164 rfl rfl ?_
  refine aw_iload_n (n := 56) dX8_rowOf_55 rfl rfl ?_
  refine aw_iconst (n := 57) (v := 1) dX8_rowOf_56 (by decide) rfl ?_
  refine aw_iadd (n := 58) dX8_rowOf_57 rfl ?_
  refine aw_iald (n := 59) dX8_rowOf_58 E_177 (by assumption) rfl ?_
  rw [hbb]
  refine aw_imul (n := 60) dX8_rowOf_59 rfl ?_
  rw [gp, show (16 : Int32) = nI 16 from rfl, pk_mul]
  refine aw_istore (n := 62) (L' := [_, _, _, _, _, _, _, _, _, _, _, _, _]) dX8_rowOf_60 (Nat.le_of_ble_eq_true rfl) rfl rfl ?_
  refine aw_aload_n (n := 63) dX8_rowOf_62 rfl rfl ?_
  refine aw_iload (n := 65) dX8_rowOf_63 rfl rfl ?_
  refine aw_v1 (d1 := d - 1) (n := 68) (Z := mX8_row) (ci := 6) (L0 := [_, _]) dX8_rowOf_65 kX8_row gX8_172 iyX8_row eyX8_row rfl rfl E_164 rfl (Nat.le_of_ble_eq_true rfl) rfl rfl (by omega) (Nat.le_of_ble_eq_true rfl) (m_row hmk h22 (fun M1 r17 r18 r19 r22 rj rq => ?_))
  dsimp only [aPush]
  refine aw_istore (n := 70) (L' := [_, _, _, _, _, _, _, _, _, _, _, _, _]) dX8_rowOf_68 (Nat.le_of_ble_eq_true rfl) rfl rfl ?_
  refine m_fill1 (F := (fun k => if k < r.length then r.getD k 0 else s.getD (k - r.length) 0)) (by omega) (fun k Mk x11 hk hf h => ?_) (fun Mk x10 x11 hf hF => ?_)
  · have st : ∀ j, Mk 178 j = M 178 j := fun j => by rw [hf 178 (by decide), rq 178 (by decide)]
    refine aw_iload_n (n := 81) dX8_rowOf_80 rfl rfl ?_
    refine aw_bipush (n := 83) (v := 12) dX8_rowOf_81 (by decide) rfl ?_
    refine aw_icmp_ne (tg := 90) (n := 86) dX8_rowOf_83 (by decide) rfl (fun _ => ?_) (fun c_83 => by first | exact absurd rfl c_83 | exact absurd c_83 (by decide))
    refine aw_iload_n (n := 91) dX8_rowOf_90 rfl rfl ?_
    refine aw_bipush (n := 93) (v := 13) dX8_rowOf_91 (by decide) rfl ?_
    refine aw_icmp_ne (tg := 120) (n := 96) dX8_rowOf_93 (by decide) rfl (fun _ => ?_) (fun c_93 => by first | exact absurd rfl c_93 | exact absurd c_93 (by decide))
    refine aw_iload_n (n := 121) dX8_rowOf_120 rfl rfl ?_
    refine aw_bipush (n := 123) (v := 14) dX8_rowOf_121 (by decide) rfl ?_
    refine aw_icmp_ne (tg := 161) (n := 126) dX8_rowOf_123 (by decide) rfl (fun c_123 => by first | exact absurd rfl c_123 | exact absurd c_123 (by decide)) (fun _ => ?_)
    refine aw_iload (n := 128) dX8_rowOf_126 rfl rfl ?_
    refine aw_iload (n := 130) dX8_rowOf_128 rfl rfl ?_
    refine aw_icmp_ge (tg := 145) (n := 133) dX8_rowOf_130 (by decide) rfl (fun c_130 => ?_) (fun c_130 => ?_)
    · refine aw_aload_n (n := 146) dX8_rowOf_145 rfl rfl ?_
      refine aw_getr (n := 149) dX8_rowOf_146 fX8_49 E_164 rfl rfl ?_
      refine aw_iload (n := 151) dX8_rowOf_149 rfl rfl ?_
      refine aw_iload (n := 153) dX8_rowOf_151 rfl rfl ?_
      refine aw_iadd (n := 154) dX8_rowOf_153 rfl ?_
      refine aw_iload (n := 156) dX8_rowOf_154 rfl rfl ?_
      refine aw_isub (n := 157) dX8_rowOf_156 rfl ?_
      rw [nI_add, pk_sub (by have := (nI_leI (by omega) (by omega)).mp c_130; omega)]
      refine aw_iald (n := 158) dX8_rowOf_157 E_178 (vp_in_nI (show 16 * pm + k - r.length < 1024 by omega) (by decide)) rfl ?_
      refine aw_goto (n := 214) dX8_rowOf_158 (by decide) ?_
      have hge : r.length ≤ k := (nI_leI (by omega) (by omega)).mp c_130
      rw [if_neg (by omega)] at h
      rw [nI_clamp (by omega), st, show 16 * pm + k - r.length = 16 * pm + (k - r.length) by omega, hsu _ (by omega)]; exact h
    · refine aw_aload_n (n := 134) dX8_rowOf_133 rfl rfl ?_
      refine aw_getr (n := 137) dX8_rowOf_134 fX8_49 E_164 rfl rfl ?_
      refine aw_iload_n (n := 138) dX8_rowOf_137 rfl rfl ?_
      refine aw_iload (n := 140) dX8_rowOf_138 rfl rfl ?_
      refine aw_iadd (n := 141) dX8_rowOf_140 rfl ?_
      rw [nI_add]
      refine aw_iald (n := 142) dX8_rowOf_141 E_178 (vp_in_nI (show 16 * pl + k < 1024 by have := (nI_ltI (by omega) (by omega)).mp (i_nle.mp c_130); omega) (by decide)) rfl ?_
      refine aw_goto (n := 214) dX8_rowOf_142 (by decide) ?_
      have hlt : k < r.length := (nI_ltI (by omega) (by omega)).mp (i_nle.mp c_130)
      rw [if_pos hlt] at h
      rw [nI_clamp (by omega), st, hst k hlt]; exact h
  · refine aw_iconst (n := 232) (v := 1) dX8_rowOf_231 (by decide) rfl ?_
    refine aw_istore (n := 234) (L' := [_, _, _, _, _, _, _, _, _, _, _, _, _]) dX8_rowOf_232 (Nat.le_of_ble_eq_true rfl) rfl rfl ?_
    refine aw_iload_n (n := 235) dX8_rowOf_234 rfl rfl ?_
    refine aw_bipush (n := 237) (v := 16) dX8_rowOf_235 (by decide) rfl ?_
    refine aw_icmp_ne (tg := 316) (n := 240) dX8_rowOf_237 (by decide) rfl (fun _ => ?_) (fun c_237 => by first | exact absurd rfl c_237 | exact absurd c_237 (by decide))
    exact m_fill3 (M0 := M) hmk (by omega) ⟨fun q a b c => by rw [hf q c]; exact rq q a, fun j a b c e g => by rw [hf 164 (by decide)]; exact rj j a b c g, fun j _ => by rw [hf 178 (by decide), rq 178 (by decide)]⟩ (by rw [hf 164 (by decide)]; exact r17) (by rw [hf 164 (by decide)]; exact r18) (by rw [hf 164 (by decide)]; exact r19) (by rw [hf 164 (by decide)]; exact (rj 20 (by decide) (by decide) (by decide) (by decide)).trans h20) (by rw [hf 164 (by decide)]; exact r22) hF hQ
theorem m_rowOf15 {mk t pl b c : Nat} (hd : 1 ≤ d) (hmk : mk < 60) (ht : t < 60) (h20 : M 164 20 = 0) (h22 : M 164 22 = nI mk) {r : List Int32} (hr : r.length ≤ 16) (hpl : pl < 3 + mk) (hst : ∀ j, j < r.length → M 178 (16 * pl + j) = r.getD j 0) (hb : b + c ≤ r.length) (hc : c ≤ 16) (gy : M 176 (3 * t + 1) = nI b) (gz : M 176 (3 * t + 2) = nI c) (hQ : eQ mk M (.inr (some (.inr ((r.drop b).take c)))) Q) : aw l K mX8_rowOf d 0 0 0 [.ref 164, .int (nI 15), .int (nI (3 * t)), .int (nI (16 * pl)), .int (nI r.length), .null, .null, .null, .null, .null, .null, .null, .null] [] EE M Q := by
  have e164 := E_164
  have e176 := E_176
  have e177 := E_177
  have e178 := E_178
  have hinb : vp_in (nI (3 * t) + 1) 183 := by rw [nI_1]; exact vp_in_nI (by omega) (by decide)
  have hinc : vp_in (nI (3 * t) + 2) 183 := by rw [show (2 : Int32) = nI 2 from rfl, nI_add]; exact vp_in_nI (by omega) (by decide)
  have hbb : (nI (3 * t) + 1).toNatClampNeg = 3 * t + 1 := by rw [nI_1]; exact nI_clamp (by omega)
  have hcc : (nI (3 * t) + 2).toNatClampNeg = 3 * t + 2 := by rw [show (2 : Int32) = nI 2 from rfl, nI_add]; exact nI_clamp (by omega)
  have hR : (r.drop b).take c = lR c (fun k => r.getD (b + k) 0) := by
    refine ext_getD (by rw [List.length_take, List.length_drop, len_lR]; omega) (fun j hj => ?_)
    rw [List.length_take, List.length_drop] at hj
    rw [getD_dt _ _ _ _ (by omega), getD_lR _ _ _ (by omega)]
  rw [hR] at hQ
  refine aw_aload_n (n := 1) dX8_rowOf_0 rfl rfl ?_
  refine aw_getr (n := 4) dX8_rowOf_1 fX8_43 E_164 rfl rfl ?_
  refine aw_iload_n (n := 5) dX8_rowOf_4 rfl rfl ?_
  refine aw_iconst (n := 6) (v := 1) dX8_rowOf_5 (by decide) rfl ?_
  refine aw_iadd (n := 7) dX8_rowOf_6 rfl ?_
  refine aw_iald (n := 8) dX8_rowOf_7 E_176 (by assumption) rfl ?_
  rw [hbb]
  refine aw_istore (n := 10) (L' := [_, _, _, _, _, _, _, _, _, _, _, _, _]) dX8_rowOf_8 (Nat.le_of_ble_eq_true rfl) rfl rfl ?_
  rw [gy]
  refine aw_aload_n (n := 11) dX8_rowOf_10 rfl rfl ?_
  refine aw_getr (n := 14) dX8_rowOf_11 fX8_43 E_164 rfl rfl ?_
  refine aw_iload_n (n := 15) dX8_rowOf_14 rfl rfl ?_
  refine aw_iconst (n := 16) (v := 2) dX8_rowOf_15 (by decide) rfl ?_
  refine aw_iadd (n := 17) dX8_rowOf_16 rfl ?_
  refine aw_iald (n := 18) dX8_rowOf_17 E_176 (by assumption) rfl ?_
  rw [hcc]
  refine aw_istore (n := 20) (L' := [_, _, _, _, _, _, _, _, _, _, _, _, _]) dX8_rowOf_18 (Nat.le_of_ble_eq_true rfl) rfl rfl ?_
  rw [gz]
  refine aw_iload_n (n := 21) dX8_rowOf_20 rfl rfl ?_
  refine aw_bipush (n := 23) (v := 14) dX8_rowOf_21 (by decide) rfl ?_
  refine aw_icmp_ne (tg := 34) (n := 26) dX8_rowOf_23 (by decide) rfl (fun _ => ?_) (fun c_23 => by first | exact absurd rfl c_23 | exact absurd c_23 (by decide))
  refine aw_iload_n (n := 35) dX8_rowOf_34 rfl rfl ?_
  refine aw_bipush (n := 37) (v := 15) dX8_rowOf_35 (by decide) rfl ?_
  refine aw_icmp_ne (tg := 45) (n := 40) dX8_rowOf_37 (by decide) rfl (fun c_37 => by first | exact absurd rfl c_37 | exact absurd c_37 (by decide)) (fun _ => ?_)
  refine aw_iload (n := 42) dX8_rowOf_40 rfl rfl ?_
  refine aw_goto (n := 47) dX8_rowOf_42 (by decide) ?_
  refine aw_istore (n := 49) (L' := [_, _, _, _, _, _, _, _, _, _, _, _, _]) dX8_rowOf_47 (Nat.le_of_ble_eq_true rfl) rfl rfl ?_
  refine aw_bipush (n := 51) (v := 16) dX8_rowOf_49 (by decide) rfl ?_
  refine aw_aload_n (n := 52) dX8_rowOf_51 rfl rfl ?_
  refine aw_getr (n := 55) dX8_rowOf_52 fX8_46 E_164 rfl rfl ?_
  refine aw_iload_n (n := 56) dX8_rowOf_55 rfl rfl ?_
  refine aw_iconst (n := 57) (v := 1) dX8_rowOf_56 (by decide) rfl ?_
  refine aw_iadd (n := 58) dX8_rowOf_57 rfl ?_
  refine aw_iald (n := 59) dX8_rowOf_58 E_177 (by assumption) rfl ?_
  rw [hbb]
  refine aw_imul (n := 60) dX8_rowOf_59 rfl ?_
  refine aw_istore (n := 62) (L' := [_, _, _, _, _, _, _, _, _, _, _, _, _]) dX8_rowOf_60 (Nat.le_of_ble_eq_true rfl) rfl rfl ?_
  refine aw_aload_n (n := 63) dX8_rowOf_62 rfl rfl ?_
  refine aw_iload (n := 65) dX8_rowOf_63 rfl rfl ?_
  refine aw_v1 (d1 := d - 1) (n := 68) (Z := mX8_row) (ci := 6) (L0 := [_, _]) dX8_rowOf_65 kX8_row gX8_172 iyX8_row eyX8_row rfl rfl E_164 rfl (Nat.le_of_ble_eq_true rfl) rfl rfl (by omega) (Nat.le_of_ble_eq_true rfl) (m_row hmk h22 (fun M1 r17 r18 r19 r22 rj rq => ?_))
  dsimp only [aPush]
  refine aw_istore (n := 70) (L' := [_, _, _, _, _, _, _, _, _, _, _, _, _]) dX8_rowOf_68 (Nat.le_of_ble_eq_true rfl) rfl rfl ?_
  refine m_fill1 (F := (fun k => r.getD (b + k) 0)) (by omega) (fun k Mk x11 hk hf h => ?_) (fun Mk x10 x11 hf hF => ?_)
  · have st : ∀ j, Mk 178 j = M 178 j := fun j => by rw [hf 178 (by decide), rq 178 (by decide)]
    refine aw_iload_n (n := 81) dX8_rowOf_80 rfl rfl ?_
    refine aw_bipush (n := 83) (v := 12) dX8_rowOf_81 (by decide) rfl ?_
    refine aw_icmp_ne (tg := 90) (n := 86) dX8_rowOf_83 (by decide) rfl (fun _ => ?_) (fun c_83 => by first | exact absurd rfl c_83 | exact absurd c_83 (by decide))
    refine aw_iload_n (n := 91) dX8_rowOf_90 rfl rfl ?_
    refine aw_bipush (n := 93) (v := 13) dX8_rowOf_91 (by decide) rfl ?_
    refine aw_icmp_ne (tg := 120) (n := 96) dX8_rowOf_93 (by decide) rfl (fun _ => ?_) (fun c_93 => by first | exact absurd rfl c_93 | exact absurd c_93 (by decide))
    refine aw_iload_n (n := 121) dX8_rowOf_120 rfl rfl ?_
    refine aw_bipush (n := 123) (v := 14) dX8_rowOf_121 (by decide) rfl ?_
    refine aw_icmp_ne (tg := 161) (n := 126) dX8_rowOf_123 (by decide) rfl (fun _ => ?_) (fun c_123 => by first | exact absurd rfl c_123 | exact absurd c_123 (by decide))
    refine aw_iload_n (n := 162) dX8_rowOf_161 rfl rfl ?_
    refine aw_bipush (n := 164) (v := 15) dX8_rowOf_162 (by decide) rfl ?_
    refine aw_icmp_ne (tg := 182) (n := 167) dX8_rowOf_164 (by decide) rfl (fun c_164 => by first | exact absurd rfl c_164 | exact absurd c_164 (by decide)) (fun _ => ?_)
    refine aw_aload_n (n := 168) dX8_rowOf_167 rfl rfl ?_
    refine aw_getr (n := 171) dX8_rowOf_168 fX8_49 E_164 rfl rfl ?_
    refine aw_iload_n (n := 172) dX8_rowOf_171 rfl rfl ?_
    refine aw_iload (n := 174) dX8_rowOf_172 rfl rfl ?_
    refine aw_iadd (n := 175) dX8_rowOf_174 rfl ?_
    refine aw_iload (n := 177) dX8_rowOf_175 rfl rfl ?_
    refine aw_iadd (n := 178) dX8_rowOf_177 rfl ?_
    rw [nI_add, nI_add]
    refine aw_iald (n := 179) dX8_rowOf_178 E_178 (vp_in_nI (show 16 * pl + b + k < 1024 by omega) (by decide)) rfl ?_
    refine aw_goto (n := 214) dX8_rowOf_179 (by decide) ?_
    rw [nI_clamp (by omega), st, show 16 * pl + b + k = 16 * pl + (b + k) by omega, hst _ (by omega)]; exact h
  · refine aw_iconst (n := 232) (v := 1) dX8_rowOf_231 (by decide) rfl ?_
    refine aw_istore (n := 234) (L' := [_, _, _, _, _, _, _, _, _, _, _, _, _]) dX8_rowOf_232 (Nat.le_of_ble_eq_true rfl) rfl rfl ?_
    refine aw_iload_n (n := 235) dX8_rowOf_234 rfl rfl ?_
    refine aw_bipush (n := 237) (v := 16) dX8_rowOf_235 (by decide) rfl ?_
    refine aw_icmp_ne (tg := 316) (n := 240) dX8_rowOf_237 (by decide) rfl (fun _ => ?_) (fun c_237 => by first | exact absurd rfl c_237 | exact absurd c_237 (by decide))
    exact m_fill3 (M0 := M) hmk (by omega) ⟨fun q a b c => by rw [hf q c]; exact rq q a, fun j a b c e g => by rw [hf 164 (by decide)]; exact rj j a b c g, fun j _ => by rw [hf 178 (by decide), rq 178 (by decide)]⟩ (by rw [hf 164 (by decide)]; exact r17) (by rw [hf 164 (by decide)]; exact r18) (by rw [hf 164 (by decide)]; exact r19) (by rw [hf 164 (by decide)]; exact (rj 20 (by decide) (by decide) (by decide) (by decide)).trans h20) (by rw [hf 164 (by decide)]; exact r22) hF hQ
theorem m_rowOf16 {mk t pl : Nat} (hd : 1 ≤ d) (hmk : mk < 60) (ht : t < 60) (h20 : M 164 20 = 0) (h22 : M 164 22 = nI mk) {r : List Int32} (hr : r.length ≤ 16) (hpl : pl < 3 + mk) (hst : ∀ j, j < r.length → M 178 (16 * pl + j) = r.getD j 0) (hQ : eQ mk M (.inr (some (.inr (lR r.length (srt (fR r) (r.length - 1)))))) Q) : aw l K mX8_rowOf d 0 0 0 [.ref 164, .int (nI 16), .int (nI (3 * t)), .int (nI (16 * pl)), .int (nI r.length), .null, .null, .null, .null, .null, .null, .null, .null] [] EE M Q := by
  have e164 := E_164
  have e176 := E_176
  have e177 := E_177
  have e178 := E_178
  have hinb : vp_in (nI (3 * t) + 1) 183 := by rw [nI_1]; exact vp_in_nI (by omega) (by decide)
  have hinc : vp_in (nI (3 * t) + 2) 183 := by rw [show (2 : Int32) = nI 2 from rfl, nI_add]; exact vp_in_nI (by omega) (by decide)
  have hbb : (nI (3 * t) + 1).toNatClampNeg = 3 * t + 1 := by rw [nI_1]; exact nI_clamp (by omega)
  have hcc : (nI (3 * t) + 2).toNatClampNeg = 3 * t + 2 := by rw [show (2 : Int32) = nI 2 from rfl, nI_add]; exact nI_clamp (by omega)
  have hR : lR r.length (srt (fR r) (r.length - 1)) = lR r.length (srt (fR r) (r.length - 1)) := by
    rfl
  rw [hR] at hQ
  refine aw_aload_n (n := 1) dX8_rowOf_0 rfl rfl ?_
  refine aw_getr (n := 4) dX8_rowOf_1 fX8_43 E_164 rfl rfl ?_
  refine aw_iload_n (n := 5) dX8_rowOf_4 rfl rfl ?_
  refine aw_iconst (n := 6) (v := 1) dX8_rowOf_5 (by decide) rfl ?_
  refine aw_iadd (n := 7) dX8_rowOf_6 rfl ?_
  refine aw_iald (n := 8) dX8_rowOf_7 E_176 (by assumption) rfl ?_
  rw [hbb]
  refine aw_istore (n := 10) (L' := [_, _, _, _, _, _, _, _, _, _, _, _, _]) dX8_rowOf_8 (Nat.le_of_ble_eq_true rfl) rfl rfl ?_
  refine aw_aload_n (n := 11) dX8_rowOf_10 rfl rfl ?_
  refine aw_getr (n := 14) dX8_rowOf_11 fX8_43 E_164 rfl rfl ?_
  refine aw_iload_n (n := 15) dX8_rowOf_14 rfl rfl ?_
  refine aw_iconst (n := 16) (v := 2) dX8_rowOf_15 (by decide) rfl ?_
  refine aw_iadd (n := 17) dX8_rowOf_16 rfl ?_
  refine aw_iald (n := 18) dX8_rowOf_17 E_176 (by assumption) rfl ?_
  rw [hcc]
  refine aw_istore (n := 20) (L' := [_, _, _, _, _, _, _, _, _, _, _, _, _]) dX8_rowOf_18 (Nat.le_of_ble_eq_true rfl) rfl rfl ?_
  refine aw_iload_n (n := 21) dX8_rowOf_20 rfl rfl ?_
  refine aw_bipush (n := 23) (v := 14) dX8_rowOf_21 (by decide) rfl ?_
  refine aw_icmp_ne (tg := 34) (n := 26) dX8_rowOf_23 (by decide) rfl (fun _ => ?_) (fun c_23 => by first | exact absurd rfl c_23 | exact absurd c_23 (by decide))
  refine aw_iload_n (n := 35) dX8_rowOf_34 rfl rfl ?_
  refine aw_bipush (n := 37) (v := 15) dX8_rowOf_35 (by decide) rfl ?_
  refine aw_icmp_ne (tg := 45) (n := 40) dX8_rowOf_37 (by decide) rfl (fun _ => ?_) (fun c_37 => by first | exact absurd rfl c_37 | exact absurd c_37 (by decide))
  refine aw_iload (n := 47) dX8_rowOf_45 rfl rfl ?_
  refine aw_istore (n := 49) (L' := [_, _, _, _, _, _, _, _, _, _, _, _, _]) dX8_rowOf_47 (Nat.le_of_ble_eq_true rfl) rfl rfl ?_
  refine aw_bipush (n := 51) (v := 16) dX8_rowOf_49 (by decide) rfl ?_
  refine aw_aload_n (n := 52) dX8_rowOf_51 rfl rfl ?_
  refine aw_getr (n := 55) dX8_rowOf_52 fX8_46 E_164 rfl rfl ?_
  refine aw_iload_n (n := 56) dX8_rowOf_55 rfl rfl ?_
  refine aw_iconst (n := 57) (v := 1) dX8_rowOf_56 (by decide) rfl ?_
  refine aw_iadd (n := 58) dX8_rowOf_57 rfl ?_
  refine aw_iald (n := 59) dX8_rowOf_58 E_177 (by assumption) rfl ?_
  rw [hbb]
  refine aw_imul (n := 60) dX8_rowOf_59 rfl ?_
  refine aw_istore (n := 62) (L' := [_, _, _, _, _, _, _, _, _, _, _, _, _]) dX8_rowOf_60 (Nat.le_of_ble_eq_true rfl) rfl rfl ?_
  refine aw_aload_n (n := 63) dX8_rowOf_62 rfl rfl ?_
  refine aw_iload (n := 65) dX8_rowOf_63 rfl rfl ?_
  refine aw_v1 (d1 := d - 1) (n := 68) (Z := mX8_row) (ci := 6) (L0 := [_, _]) dX8_rowOf_65 kX8_row gX8_172 iyX8_row eyX8_row rfl rfl E_164 rfl (Nat.le_of_ble_eq_true rfl) rfl rfl (by omega) (Nat.le_of_ble_eq_true rfl) (m_row hmk h22 (fun M1 r17 r18 r19 r22 rj rq => ?_))
  dsimp only [aPush]
  refine aw_istore (n := 70) (L' := [_, _, _, _, _, _, _, _, _, _, _, _, _]) dX8_rowOf_68 (Nat.le_of_ble_eq_true rfl) rfl rfl ?_
  refine m_fill1 (F := fR r) (by omega) (fun k Mk x11 hk hf h => ?_) (fun Mk x10 x11 hf hF => ?_)
  · have st : ∀ j, Mk 178 j = M 178 j := fun j => by rw [hf 178 (by decide), rq 178 (by decide)]
    refine aw_iload_n (n := 81) dX8_rowOf_80 rfl rfl ?_
    refine aw_bipush (n := 83) (v := 12) dX8_rowOf_81 (by decide) rfl ?_
    refine aw_icmp_ne (tg := 90) (n := 86) dX8_rowOf_83 (by decide) rfl (fun _ => ?_) (fun c_83 => by first | exact absurd rfl c_83 | exact absurd c_83 (by decide))
    refine aw_iload_n (n := 91) dX8_rowOf_90 rfl rfl ?_
    refine aw_bipush (n := 93) (v := 13) dX8_rowOf_91 (by decide) rfl ?_
    refine aw_icmp_ne (tg := 120) (n := 96) dX8_rowOf_93 (by decide) rfl (fun _ => ?_) (fun c_93 => by first | exact absurd rfl c_93 | exact absurd c_93 (by decide))
    refine aw_iload_n (n := 121) dX8_rowOf_120 rfl rfl ?_
    refine aw_bipush (n := 123) (v := 14) dX8_rowOf_121 (by decide) rfl ?_
    refine aw_icmp_ne (tg := 161) (n := 126) dX8_rowOf_123 (by decide) rfl (fun _ => ?_) (fun c_123 => by first | exact absurd rfl c_123 | exact absurd c_123 (by decide))
    refine aw_iload_n (n := 162) dX8_rowOf_161 rfl rfl ?_
    refine aw_bipush (n := 164) (v := 15) dX8_rowOf_162 (by decide) rfl ?_
    refine aw_icmp_ne (tg := 182) (n := 167) dX8_rowOf_164 (by decide) rfl (fun _ => ?_) (fun c_164 => by first | exact absurd rfl c_164 | exact absurd c_164 (by decide))
    refine aw_iload_n (n := 183) dX8_rowOf_182 rfl rfl ?_
    refine aw_bipush (n := 185) (v := 17) dX8_rowOf_183 (by decide) rfl ?_
    refine aw_icmp_ne (tg := 205) (n := 188) dX8_rowOf_185 (by decide) rfl (fun _ => ?_) (fun c_185 => by first | exact absurd rfl c_185 | exact absurd c_185 (by decide))
    refine aw_aload_n (n := 206) dX8_rowOf_205 rfl rfl ?_
    refine aw_getr (n := 209) dX8_rowOf_206 fX8_49 E_164 rfl rfl ?_
    refine aw_iload_n (n := 210) dX8_rowOf_209 rfl rfl ?_
    refine aw_iload (n := 212) dX8_rowOf_210 rfl rfl ?_
    refine aw_iadd (n := 213) dX8_rowOf_212 rfl ?_
    rw [nI_add]
    refine aw_iald (n := 214) dX8_rowOf_213 E_178 (vp_in_nI (show 16 * pl + k < 1024 by omega) (by decide)) rfl ?_
    rw [nI_clamp (by omega), st, hst _ (by omega)]; exact h
  · refine m_sort (f0 := fR r) (M1 := M1) (by omega) (fun Mk x10 x11 x12 hf hF => ?_) hf hF
    exact m_fill3 (M0 := M) hmk (by omega) ⟨fun q a b c => by rw [hf q c]; exact rq q a, fun j a b c e g => by rw [hf 164 (by decide)]; exact rj j a b c g, fun j _ => by rw [hf 178 (by decide), rq 178 (by decide)]⟩ (by rw [hf 164 (by decide)]; exact r17) (by rw [hf 164 (by decide)]; exact r18) (by rw [hf 164 (by decide)]; exact r19) (by rw [hf 164 (by decide)]; exact (rj 20 (by decide) (by decide) (by decide) (by decide)).trans h20) (by rw [hf 164 (by decide)]; exact r22) hF hQ
theorem m_rowOf17 {mk t pl : Nat} (hd : 1 ≤ d) (hmk : mk < 60) (ht : t < 60) (h20 : M 164 20 = 0) (h22 : M 164 22 = nI mk) {r : List Int32} (hr : r.length ≤ 16) (hpl : pl < 3 + mk) (hst : ∀ j, j < r.length → M 178 (16 * pl + j) = r.getD j 0) (hQ : eQ mk M (.inr (some (.inr (r.reverse)))) Q) : aw l K mX8_rowOf d 0 0 0 [.ref 164, .int (nI 17), .int (nI (3 * t)), .int (nI (16 * pl)), .int (nI r.length), .null, .null, .null, .null, .null, .null, .null, .null] [] EE M Q := by
  have e164 := E_164
  have e176 := E_176
  have e177 := E_177
  have e178 := E_178
  have hinb : vp_in (nI (3 * t) + 1) 183 := by rw [nI_1]; exact vp_in_nI (by omega) (by decide)
  have hinc : vp_in (nI (3 * t) + 2) 183 := by rw [show (2 : Int32) = nI 2 from rfl, nI_add]; exact vp_in_nI (by omega) (by decide)
  have hbb : (nI (3 * t) + 1).toNatClampNeg = 3 * t + 1 := by rw [nI_1]; exact nI_clamp (by omega)
  have hcc : (nI (3 * t) + 2).toNatClampNeg = 3 * t + 2 := by rw [show (2 : Int32) = nI 2 from rfl, nI_add]; exact nI_clamp (by omega)
  have hR : r.reverse = lR r.length (fun k => r.getD (r.length - 1 - k) 0) := by
    refine ext_getD (by rw [List.length_reverse, len_lR]) (fun j hj => ?_)
    rw [List.length_reverse] at hj
    rw [getD_rev _ _ hj, getD_lR _ _ _ hj]
  rw [hR] at hQ
  refine aw_aload_n (n := 1) dX8_rowOf_0 rfl rfl ?_
  refine aw_getr (n := 4) dX8_rowOf_1 fX8_43 E_164 rfl rfl ?_
  refine aw_iload_n (n := 5) dX8_rowOf_4 rfl rfl ?_
  refine aw_iconst (n := 6) (v := 1) dX8_rowOf_5 (by decide) rfl ?_
  refine aw_iadd (n := 7) dX8_rowOf_6 rfl ?_
  refine aw_iald (n := 8) dX8_rowOf_7 E_176 (by assumption) rfl ?_
  rw [hbb]
  refine aw_istore (n := 10) (L' := [_, _, _, _, _, _, _, _, _, _, _, _, _]) dX8_rowOf_8 (Nat.le_of_ble_eq_true rfl) rfl rfl ?_
  refine aw_aload_n (n := 11) dX8_rowOf_10 rfl rfl ?_
  refine aw_getr (n := 14) dX8_rowOf_11 fX8_43 E_164 rfl rfl ?_
  refine aw_iload_n (n := 15) dX8_rowOf_14 rfl rfl ?_
  refine aw_iconst (n := 16) (v := 2) dX8_rowOf_15 (by decide) rfl ?_
  refine aw_iadd (n := 17) dX8_rowOf_16 rfl ?_
  refine aw_iald (n := 18) dX8_rowOf_17 E_176 (by assumption) rfl ?_
  rw [hcc]
  refine aw_istore (n := 20) (L' := [_, _, _, _, _, _, _, _, _, _, _, _, _]) dX8_rowOf_18 (Nat.le_of_ble_eq_true rfl) rfl rfl ?_
  refine aw_iload_n (n := 21) dX8_rowOf_20 rfl rfl ?_
  refine aw_bipush (n := 23) (v := 14) dX8_rowOf_21 (by decide) rfl ?_
  refine aw_icmp_ne (tg := 34) (n := 26) dX8_rowOf_23 (by decide) rfl (fun _ => ?_) (fun c_23 => by first | exact absurd rfl c_23 | exact absurd c_23 (by decide))
  refine aw_iload_n (n := 35) dX8_rowOf_34 rfl rfl ?_
  refine aw_bipush (n := 37) (v := 15) dX8_rowOf_35 (by decide) rfl ?_
  refine aw_icmp_ne (tg := 45) (n := 40) dX8_rowOf_37 (by decide) rfl (fun _ => ?_) (fun c_37 => by first | exact absurd rfl c_37 | exact absurd c_37 (by decide))
  refine aw_iload (n := 47) dX8_rowOf_45 rfl rfl ?_
  refine aw_istore (n := 49) (L' := [_, _, _, _, _, _, _, _, _, _, _, _, _]) dX8_rowOf_47 (Nat.le_of_ble_eq_true rfl) rfl rfl ?_
  refine aw_bipush (n := 51) (v := 16) dX8_rowOf_49 (by decide) rfl ?_
  refine aw_aload_n (n := 52) dX8_rowOf_51 rfl rfl ?_
  refine aw_getr (n := 55) dX8_rowOf_52 fX8_46 E_164 rfl rfl ?_
  refine aw_iload_n (n := 56) dX8_rowOf_55 rfl rfl ?_
  refine aw_iconst (n := 57) (v := 1) dX8_rowOf_56 (by decide) rfl ?_
  refine aw_iadd (n := 58) dX8_rowOf_57 rfl ?_
  refine aw_iald (n := 59) dX8_rowOf_58 E_177 (by assumption) rfl ?_
  rw [hbb]
  refine aw_imul (n := 60) dX8_rowOf_59 rfl ?_
  refine aw_istore (n := 62) (L' := [_, _, _, _, _, _, _, _, _, _, _, _, _]) dX8_rowOf_60 (Nat.le_of_ble_eq_true rfl) rfl rfl ?_
  refine aw_aload_n (n := 63) dX8_rowOf_62 rfl rfl ?_
  refine aw_iload (n := 65) dX8_rowOf_63 rfl rfl ?_
  refine aw_v1 (d1 := d - 1) (n := 68) (Z := mX8_row) (ci := 6) (L0 := [_, _]) dX8_rowOf_65 kX8_row gX8_172 iyX8_row eyX8_row rfl rfl E_164 rfl (Nat.le_of_ble_eq_true rfl) rfl rfl (by omega) (Nat.le_of_ble_eq_true rfl) (m_row hmk h22 (fun M1 r17 r18 r19 r22 rj rq => ?_))
  dsimp only [aPush]
  refine aw_istore (n := 70) (L' := [_, _, _, _, _, _, _, _, _, _, _, _, _]) dX8_rowOf_68 (Nat.le_of_ble_eq_true rfl) rfl rfl ?_
  refine m_fill1 (F := (fun k => r.getD (r.length - 1 - k) 0)) (by omega) (fun k Mk x11 hk hf h => ?_) (fun Mk x10 x11 hf hF => ?_)
  · have st : ∀ j, Mk 178 j = M 178 j := fun j => by rw [hf 178 (by decide), rq 178 (by decide)]
    refine aw_iload_n (n := 81) dX8_rowOf_80 rfl rfl ?_
    refine aw_bipush (n := 83) (v := 12) dX8_rowOf_81 (by decide) rfl ?_
    refine aw_icmp_ne (tg := 90) (n := 86) dX8_rowOf_83 (by decide) rfl (fun _ => ?_) (fun c_83 => by first | exact absurd rfl c_83 | exact absurd c_83 (by decide))
    refine aw_iload_n (n := 91) dX8_rowOf_90 rfl rfl ?_
    refine aw_bipush (n := 93) (v := 13) dX8_rowOf_91 (by decide) rfl ?_
    refine aw_icmp_ne (tg := 120) (n := 96) dX8_rowOf_93 (by decide) rfl (fun _ => ?_) (fun c_93 => by first | exact absurd rfl c_93 | exact absurd c_93 (by decide))
    refine aw_iload_n (n := 121) dX8_rowOf_120 rfl rfl ?_
    refine aw_bipush (n := 123) (v := 14) dX8_rowOf_121 (by decide) rfl ?_
    refine aw_icmp_ne (tg := 161) (n := 126) dX8_rowOf_123 (by decide) rfl (fun _ => ?_) (fun c_123 => by first | exact absurd rfl c_123 | exact absurd c_123 (by decide))
    refine aw_iload_n (n := 162) dX8_rowOf_161 rfl rfl ?_
    refine aw_bipush (n := 164) (v := 15) dX8_rowOf_162 (by decide) rfl ?_
    refine aw_icmp_ne (tg := 182) (n := 167) dX8_rowOf_164 (by decide) rfl (fun _ => ?_) (fun c_164 => by first | exact absurd rfl c_164 | exact absurd c_164 (by decide))
    refine aw_iload_n (n := 183) dX8_rowOf_182 rfl rfl ?_
    refine aw_bipush (n := 185) (v := 17) dX8_rowOf_183 (by decide) rfl ?_
    refine aw_icmp_ne (tg := 205) (n := 188) dX8_rowOf_185 (by decide) rfl (fun c_185 => by first | exact absurd rfl c_185 | exact absurd c_185 (by decide)) (fun _ => ?_)
    refine aw_aload_n (n := 189) dX8_rowOf_188 rfl rfl ?_
    refine aw_getr (n := 192) dX8_rowOf_189 fX8_49 E_164 rfl rfl ?_
    refine aw_iload_n (n := 193) dX8_rowOf_192 rfl rfl ?_
    refine aw_iload (n := 195) dX8_rowOf_193 rfl rfl ?_
    refine aw_iadd (n := 196) dX8_rowOf_195 rfl ?_
    refine aw_iconst (n := 197) (v := 1) dX8_rowOf_196 (by decide) rfl ?_
    refine aw_isub (n := 198) dX8_rowOf_197 rfl ?_
    refine aw_iload (n := 200) dX8_rowOf_198 rfl rfl ?_
    refine aw_isub (n := 201) dX8_rowOf_200 rfl ?_
    rw [nI_add, show (1 : Int32) = nI 1 from rfl, pk_sub (by omega), pk_sub (by omega)]
    refine aw_iald (n := 202) dX8_rowOf_201 E_178 (vp_in_nI (show 16 * pl + r.length - 1 - k < 1024 by omega) (by decide)) rfl ?_
    refine aw_goto (n := 214) dX8_rowOf_202 (by decide) ?_
    rw [nI_clamp (by omega), st, show 16 * pl + r.length - 1 - k = 16 * pl + (r.length - 1 - k) by omega, hst _ (by omega)]; exact h
  · refine aw_iconst (n := 232) (v := 1) dX8_rowOf_231 (by decide) rfl ?_
    refine aw_istore (n := 234) (L' := [_, _, _, _, _, _, _, _, _, _, _, _, _]) dX8_rowOf_232 (Nat.le_of_ble_eq_true rfl) rfl rfl ?_
    refine aw_iload_n (n := 235) dX8_rowOf_234 rfl rfl ?_
    refine aw_bipush (n := 237) (v := 16) dX8_rowOf_235 (by decide) rfl ?_
    refine aw_icmp_ne (tg := 316) (n := 240) dX8_rowOf_237 (by decide) rfl (fun _ => ?_) (fun c_237 => by first | exact absurd rfl c_237 | exact absurd c_237 (by decide))
    exact m_fill3 (M0 := M) hmk (by omega) ⟨fun q a b c => by rw [hf q c]; exact rq q a, fun j a b c e g => by rw [hf 164 (by decide)]; exact rj j a b c g, fun j _ => by rw [hf 178 (by decide), rq 178 (by decide)]⟩ (by rw [hf 164 (by decide)]; exact r17) (by rw [hf 164 (by decide)]; exact r18) (by rw [hf 164 (by decide)]; exact r19) (by rw [hf 164 (by decide)]; exact (rj 20 (by decide) (by decide) (by decide) (by decide)).trans h20) (by rw [hf 164 (by decide)]; exact r22) hF hQ
end MROF
