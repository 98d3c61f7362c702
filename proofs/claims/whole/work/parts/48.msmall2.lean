section MSMALL2
variable {l : Launch} {K : aK} {d : Nat} {M : aM} {Q : Option Value → aE → aM → Prop}
theorem m_smallFull {cnt np k m tr : Nat} {T : tm} {P : Nat → pr} (hd : 5 ≤ d) (hW : wfA cnt T np P) (hA : mA cnt T np P M) (hT : M 164 29 = nI tr) (htr : tr ≤ 3000) (hk : k < np) (hm : m ≤ 3) (hb : ¬ tr + alS (P k) m ≤ 3000) (hQ : Q (some (.int (-2))) EE M) : aw l K mX8_small d 0 0 0 [.ref 164, .int (nI k), .int (nI m), .null, .null, .null, .null, .null, .null, .null] [] EE M Q := by
  have hnp : np ≤ 8 := hW.2.2.1
  have hh := hasB_k hk (by omega)
  have hal := alS_le (P k) hm
  refine aw_aload_n (n := 1) dX8_small_0 rfl rfl ?_
  refine aw_iload_n (n := 2) dX8_small_1 rfl rfl ?_
  refine aw_v1 (d1 := d - 1) (n := 5) (Z := mX8_isProperty) (ci := 6) (L0 := [_, _]) dX8_small_2 kX8_isProperty gX8_231 iyX8_isProperty eyX8_isProperty rfl rfl E_164 rfl (Nat.le_of_ble_eq_true rfl) rfl rfl (by omega) (Nat.le_of_ble_eq_true rfl) (m_isProperty (by omega) (by omega) hA.2.2.1 ?_)
  dsimp only [aPush]
  rw [hh]
  refine aw_if_eq (tg := 17) (n := 8) dX8_small_5 (by decide) rfl (fun c_5 => by exact absurd c_5 (by decide)) (fun c_5 => ?_)
  refine aw_iload_n (n := 9) dX8_small_8 rfl rfl ?_
  refine aw_iconst (n := 10) (v := 0) dX8_small_9 (by decide) rfl ?_
  refine aw_iconst (n := 11) (v := 3) dX8_small_10 (by decide) rfl ?_
  refine aw_s3 (d1 := d - 1) (n := 14) (Z := mX8_in) (L0 := [_, _, _]) dX8_small_11 kX8_in gX8_95 syX8_in rfl rfl rfl (Nat.le_of_ble_eq_true rfl) rfl rfl (by omega) (Nat.le_of_ble_eq_true rfl) (m_in (fun hb => ?_) (fun hb1 hb2 => ?_))
  · dsimp only [aPush]
    exact absurd hb (fun q => q.elim (nI_pos (by omega)) (fun q => absurd ((nI_ltI (a := 3) (by decide) (by omega)).mp q) (by omega)))
  · dsimp only [aPush]
    refine aw_if_ne (tg := 19) (n := 17) dX8_small_14 (by decide) rfl (fun c_14 => ?_) (fun c_14 => by exact absurd c_14 (by decide))
    refine aw_aload_n (n := 20) dX8_small_19 rfl rfl ?_
    refine aw_iload_n (n := 21) dX8_small_20 rfl rfl ?_
    refine aw_iload_n (n := 22) dX8_small_21 rfl rfl ?_
    refine aw_v2 (d1 := d - 1) (n := 25) (Z := mX8_all) (ci := 6) (L0 := [_, _, _]) dX8_small_22 kX8_all gX8_261 iyX8_all eyX8_all rfl rfl E_164 rfl rfl (Nat.le_of_ble_eq_true rfl) rfl rfl (by omega) (Nat.le_of_ble_eq_true rfl) (m_all (by omega) hm (by omega) (hW.2.2.2 k hk).1 (hA.2.2.2 k hk).1 ?_)
    dsimp only [aPush]
    refine aw_istore_n (n := 26) (L' := [_, _, _, _, _, _, _, _, _, _]) dX8_small_25 (Nat.le_of_ble_eq_true rfl) rfl rfl ?_
    refine aw_iload_n (n := 27) dX8_small_26 rfl rfl ?_
    refine aw_sipush (n := 30) (v := 3000) dX8_small_27 (by decide) rfl ?_
    refine aw_icmp_gt (tg := 45) (n := 33) dX8_small_30 (by decide) rfl (fun c_30 => ?_) (fun c_30 => ?_)
    · refine aw_bipush (n := 47) (v := -2) dX8_small_45 (by decide) rfl ?_
      refine aw_iret dX8_small_47 rfl ?_
      exact hQ
    · refine aw_aload_n (n := 34) dX8_small_33 rfl rfl ?_
      refine aw_geti (n := 37) dX8_small_34 fX8_178 E_164 rfl rfl ?_
      rw [hT]
      refine aw_iload_n (n := 38) dX8_small_37 rfl rfl ?_
      refine aw_iadd (n := 39) dX8_small_38 rfl ?_
      rw [nI_add]
      refine aw_sipush (n := 42) (v := 3000) dX8_small_39 (by decide) rfl ?_
      refine aw_icmp_le (tg := 48) (n := 45) dX8_small_42 (by decide) rfl (fun c_42 => by exact absurd ((nI_leI (b := 3000) (by omega) (by decide)).mp c_42) hb) (fun c_42 => ?_)
      refine aw_bipush (n := 47) (v := -2) dX8_small_45 (by decide) rfl ?_
      refine aw_iret dX8_small_47 rfl ?_
      exact hQ
theorem m_small {cnt np k m : Nat} {T : tm} {P : Nat → pr} {s : rS} (hd : 20 ≤ d) (hW : wfA cnt T np P) (hA : mA cnt T np P M) (hk : k < np) (hS : mS s M) (hm : m ≤ 3) (htr : s.1 + alS (P k) m ≤ 3000)
    (hQ : ∀ M', mS (smlS T (P k) k m s.1 s.2.2.2.2) M' → fV M M' → Q (some (.int (smA (smlS T (P k) k m s.1 s.2.2.2.2)))) EE M') : aw l K mX8_small d 0 0 0 [.ref 164, .int (nI k), .int (nI m), .null, .null, .null, .null, .null, .null, .null] [] EE M Q := by
  have hnp : np ≤ 8 := hW.2.2.1
  have hh := hasB_k hk (by omega)
  have hwk := hW.2.2.2 k hk
  have hnn : ¬ nI k < 0 := nI_pos (by omega)
  obtain ⟨c0, hc0⟩ : ∃ c, c = cnS (P k 0) m := ⟨_, rfl⟩
  obtain ⟨c1, hc1⟩ : ∃ c, c = cnS (P k 1) m := ⟨_, rfl⟩
  obtain ⟨c2, hc2⟩ : ∃ c, c = cnS (P k 2) m := ⟨_, rfl⟩
  have p0 : 0 < c0 := by rw [hc0]; exact cnS_pos _ _
  have p1 : 0 < c1 := by rw [hc1]; exact cnS_pos _ _
  have p2 : 0 < c2 := by rw [hc2]; exact cnS_pos _ _
  have q0 : c0 ≤ 400 := by rw [hc0]; exact cnS_le _ hm
  have q1 : c1 ≤ 400 := by rw [hc1]; exact cnS_le _ hm
  have q2 : c2 ≤ 400 := by rw [hc2]; exact cnS_le _ hm
  have n1 : ¬ nI c1 = 0 := nI_ne0 p1 (by omega)
  have n2 : ¬ nI c2 = 0 := nI_ne0 p2 (by omega)
  obtain ⟨n, hn⟩ : ∃ n, n = alS (P k) m := ⟨_, rfl⟩
  have hnc : n = c0 * c1 * c2 := by rw [hn, hc0, hc1, hc2]; rfl
  rw [← hn] at htr
  obtain ⟨sL, hsL⟩ : ∃ sL, sL = smlS T (P k) k m s.1 s.2.2.2.2 := ⟨_, rfl⟩
  rw [← hsL] at hQ
  have hsL' : sL = runL T (P k) k (smI (P k) m) n 0 (rS0 s.1 s.2.2.2.2) := by rw [hsL, hn]; rfl
  have fin : ∀ (M1 : aM) (x7 x8 x9 : Value), mS sL M1 → fV M M1 → aw l K mX8_small d 0 0 203 [.ref 164, .int (nI k), .int (nI m), .int (nI n), .int (nI c1), .int (nI c2), .int (if sL.2.2.2.1 < 0 then 0 else 1), x7, x8, x9] [] EE M1 Q := by
    intro M1 x7 x8 x9 h1 h2
    have h9 := hQ _ h1 h2
    by_cases hf : sL.2.2.2.1 < 0
    · rw [show smA sL = 1 from if_pos hf] at h9
      rw [if_pos hf]
      refine aw_iload (n := 205) dX8_small_203 rfl rfl ?_
      refine aw_if_eq (tg := 212) (n := 208) dX8_small_205 (by decide) rfl (fun _ => ?_) (fun c_205 => by first | exact absurd rfl c_205 | exact absurd c_205 (by decide))
      refine aw_iconst (n := 213) (v := 1) dX8_small_212 (by decide) rfl ?_
      refine aw_iret dX8_small_213 rfl ?_
      exact h9
    · rw [show smA sL = 0 from if_neg hf] at h9
      rw [if_neg hf]
      refine aw_iload (n := 205) dX8_small_203 rfl rfl ?_
      refine aw_if_eq (tg := 212) (n := 208) dX8_small_205 (by decide) rfl (fun c_205 => by first | exact absurd rfl c_205 | exact absurd c_205 (by decide)) (fun _ => ?_)
      refine aw_iconst (n := 209) (v := 0) dX8_small_208 (by decide) rfl ?_
      refine aw_goto (n := 213) dX8_small_209 (by decide) ?_
      refine aw_iret dX8_small_213 rfl ?_
      exact h9
  have seg : ∀ i j rank (M1 : aM), i < 3 → rank < cnS (P k i) m → fV M M1 → (∀ (M2 : aM), kI 171 172 (smv (P k i) m rank) i M2 → (∀ q, q ≠ i → M2 171 q = M1 171 q) → (∀ q, q < 16 * i ∨ 16 * i + 16 ≤ q → M2 172 q = M1 172 q) → (∀ q, q ≠ 171 → q ≠ 172 → M2 q = M1 q) → aw l K mX8_small d 0 0 104 [.ref 164, .int (nI k), .int (nI m), .int (nI n), .int (nI c1), .int (nI c2), .int 0, .int (nI j), .int (nI (i + 1)), .int (nI rank)] [] EE M2 Q) → aw l K mX8_small d 0 0 150 [.ref 164, .int (nI k), .int (nI m), .int (nI n), .int (nI c1), .int (nI c2), .int 0, .int (nI j), .int (nI i), .int (nI rank)] [] EE M1 Q := by
    intro i j rank M1 hi hr hf h2
    have hin2 : vp_in (nI (3 * k + i)) 24 := vp_in_nI (by omega) (by decide)
    have hk2 : (nI (3 * k + i)).toNatClampNeg = 3 * k + i := nI_clamp (by omega)
    have ek : (3 : Int32) * nI k + nI i = nI (3 * k + i) := by rw [show (3 : Int32) = nI 3 from rfl, pk_mul, nI_add]
    have hty : M1 180 (3 * k + i) = P k i := by rw [hf.1 180 (by omega)]; exact (hA.2.2.2 k hk).1 i hi
    rcases hwk.1 i hi with ht | ht
    · refine aw_aload_n (n := 151) dX8_small_150 rfl rfl ?_
      refine aw_getr (n := 154) dX8_small_151 fX8_55 E_164 rfl rfl ?_
      refine aw_iconst (n := 155) (v := 3) dX8_small_154 (by decide) rfl ?_
      refine aw_iload_n (n := 156) dX8_small_155 rfl rfl ?_
      refine aw_imul (n := 157) dX8_small_156 rfl ?_
      refine aw_iload (n := 159) dX8_small_157 rfl rfl ?_
      refine aw_iadd (n := 160) dX8_small_159 rfl ?_
      rw [ek]
      refine aw_iald (n := 161) dX8_small_160 E_180 (by assumption) rfl ?_
      rw [hk2, hty, ht]
      refine aw_if_lt (tg := 184) (n := 164) dX8_small_161 (by decide) rfl (fun _ => ?_) (fun c_161 => by first | exact absurd rfl c_161 | exact absurd c_161 (by decide))
      refine aw_incp (n := 187) (L' := [_, _, _, _, _, _, _, _, _, _]) dX8_small_184 rfl rfl rfl ?_
      refine aw_goto (n := 104) dX8_small_187 (by decide) ?_
      rw [nI_1]
      refine h2 M1 ?_ (fun _ _ => rfl) (fun _ _ => rfl) (fun _ _ _ => rfl)
      rw [ht, smv_none]; exact trivial
    · have hpos : ¬ P k i < 0 := by rcases ht with ht | ht <;> rw [ht] <;> decide
      refine aw_aload_n (n := 151) dX8_small_150 rfl rfl ?_
      refine aw_getr (n := 154) dX8_small_151 fX8_55 E_164 rfl rfl ?_
      refine aw_iconst (n := 155) (v := 3) dX8_small_154 (by decide) rfl ?_
      refine aw_iload_n (n := 156) dX8_small_155 rfl rfl ?_
      refine aw_imul (n := 157) dX8_small_156 rfl ?_
      refine aw_iload (n := 159) dX8_small_157 rfl rfl ?_
      refine aw_iadd (n := 160) dX8_small_159 rfl ?_
      rw [ek]
      refine aw_iald (n := 161) dX8_small_160 E_180 (by assumption) rfl ?_
      rw [hk2, hty]
      refine aw_if_lt (tg := 184) (n := 164) dX8_small_161 (by decide) rfl (fun c_161 => by exact absurd c_161 hpos) (fun c_161 => ?_)
      refine aw_aload_n (n := 165) dX8_small_164 rfl rfl ?_
      refine aw_iload (n := 167) dX8_small_165 rfl rfl ?_
      refine aw_aload_n (n := 168) dX8_small_167 rfl rfl ?_
      refine aw_getr (n := 171) dX8_small_168 fX8_55 E_164 rfl rfl ?_
      refine aw_iconst (n := 172) (v := 3) dX8_small_171 (by decide) rfl ?_
      refine aw_iload_n (n := 173) dX8_small_172 rfl rfl ?_
      refine aw_imul (n := 174) dX8_small_173 rfl ?_
      refine aw_iload (n := 176) dX8_small_174 rfl rfl ?_
      refine aw_iadd (n := 177) dX8_small_176 rfl ?_
      rw [ek]
      refine aw_iald (n := 178) dX8_small_177 E_180 (by assumption) rfl ?_
      rw [hk2, hty]
      refine aw_iload_n (n := 179) dX8_small_178 rfl rfl ?_
      refine aw_iload (n := 181) dX8_small_179 rfl rfl ?_
      refine aw_v4 (d1 := d - 1) (n := 184) (Z := mX8_takeSmall) (ci := 6) (L0 := [_, _, _, _, _, .null, .null, .null, .null]) dX8_small_181 kX8_takeSmall gX8_267 iyX8_takeSmall eyX8_takeSmall rfl rfl E_164 rfl rfl rfl rfl (Nat.le_of_ble_eq_true rfl) rfl rfl (by omega) (Nat.le_of_ble_eq_true rfl) (m_takeSmall (by omega) hi hm ht hr (fun M2 g1 g2 g3 g4 => ?_))
      dsimp only [aPush]
      refine aw_incp (n := 187) (L' := [_, _, _, _, _, _, _, _, _, _]) dX8_small_184 rfl rfl rfl ?_
      refine aw_goto (n := 104) dX8_small_187 (by decide) ?_
      rw [nI_1]
      exact h2 M2 g1 g2 g3 g4
  have inner : ∀ j (M1 : aM) (x8 x9 : Value), j < n → fV M M1 → (∀ (M2 : aM) (x8 x9 : Value), (∀ i, i < 3 → kI 171 172 (smI (P k) m j i) i M2) → fD M1 M2 → aw l K mX8_small d 0 0 190 [.ref 164, .int (nI k), .int (nI m), .int (nI n), .int (nI c1), .int (nI c2), .int 0, .int (nI j), x8, x9] [] EE M2 Q) → aw l K mX8_small d 0 0 104 [.ref 164, .int (nI k), .int (nI m), .int (nI n), .int (nI c1), .int (nI c2), .int 0, .int (nI j), .int (nI 0), x9] [] EE M1 Q := by
    intro j M1 x8 x9 hj hf h2
    have hj3 : j ≤ 3000 := by omega
    have d1 : j / c2 ≤ j := Nat.div_le_self _ _
    have d2 : j / c2 / c1 ≤ j / c2 := Nat.div_le_self _ _
    have b0 : j / c2 / c1 < c0 := by
      rw [hnc] at hj
      rw [Nat.div_div_eq_div_mul]
      refine Nat.div_lt_of_lt_mul ?_
      rw [Nat.mul_comm c2 c1, Nat.mul_comm (c1 * c2) c0, ← Nat.mul_assoc]
      exact hj
    have b1 : j / c2 % c1 < c1 := Nat.mod_lt _ p1
    have b2' : j % c2 < c2 := Nat.mod_lt _ p2
    have e1 : nI j / nI c2 = nI (j / c2) := pk_div (by omega) p2 (by omega)
    have e2 : nI (j / c2) / nI c1 = nI (j / c2 / c1) := pk_div (by omega) p1 (by omega)
    have e3 : nI (j / c2) - nI (j / c2) / nI c1 * nI c1 = nI (j / c2 % c1) := pk_rem (by omega) p1 (by omega)
    have e4 : nI j - nI j / nI c2 * nI c2 = nI (j % c2) := pk_rem (by omega) p2 (by omega)
    refine aw_iload (n := 106) dX8_small_104 rfl rfl ?_
    refine aw_iconst (n := 107) (v := 3) dX8_small_106 (by decide) rfl ?_
    refine aw_icmp_ge (tg := 190) (n := 110) dX8_small_107 (by decide) rfl (fun c_107 => by first | exact absurd rfl c_107 | exact absurd c_107 (by decide)) (fun _ => ?_)
    refine aw_iload (n := 112) dX8_small_110 rfl rfl ?_
    refine aw_if_ne (tg := 126) (n := 115) dX8_small_112 (by decide) rfl (fun c_112 => by first | exact absurd rfl c_112 | exact absurd c_112 (by decide)) (fun _ => ?_)
    refine aw_iload (n := 117) dX8_small_115 rfl rfl ?_
    refine aw_iload (n := 119) dX8_small_117 rfl rfl ?_
    refine aw_idiv (n := 120) dX8_small_119 (by first | assumption | decide) rfl ?_
    rw [e1]
    refine aw_iload (n := 122) dX8_small_120 rfl rfl ?_
    refine aw_idiv (n := 123) dX8_small_122 (by first | assumption | decide) rfl ?_
    rw [e2]
    refine aw_goto (n := 148) dX8_small_123 (by decide) ?_
    refine aw_istore (n := 150) (L' := [_, _, _, _, _, _, _, _, _, _]) dX8_small_148 (Nat.le_of_ble_eq_true rfl) rfl rfl ?_
    refine seg 0 j (j / c2 / c1) M1 (by decide) (by rw [← hc0]; exact b0) hf (fun M2 g1 g2 g3 g4 => ?_)
    have f2 : fD M1 M2 := ⟨fun q _ a b _ => g4 q a b, fun q _ => by rw [g4 164 (by decide) (by decide)]⟩
    refine aw_iload (n := 106) dX8_small_104 rfl rfl ?_
    refine aw_iconst (n := 107) (v := 3) dX8_small_106 (by decide) rfl ?_
    refine aw_icmp_ge (tg := 190) (n := 110) dX8_small_107 (by decide) rfl (fun c_107 => by first | exact absurd rfl c_107 | exact absurd c_107 (by decide)) (fun _ => ?_)
    refine aw_iload (n := 112) dX8_small_110 rfl rfl ?_
    refine aw_if_ne (tg := 126) (n := 115) dX8_small_112 (by decide) rfl (fun _ => ?_) (fun c_112 => by first | exact absurd rfl c_112 | exact absurd c_112 (by decide))
    refine aw_iload (n := 128) dX8_small_126 rfl rfl ?_
    refine aw_iconst (n := 129) (v := 1) dX8_small_128 (by decide) rfl ?_
    refine aw_icmp_ne (tg := 143) (n := 132) dX8_small_129 (by decide) rfl (fun c_129 => by first | exact absurd rfl c_129 | exact absurd c_129 (by decide)) (fun _ => ?_)
    refine aw_iload (n := 134) dX8_small_132 rfl rfl ?_
    refine aw_iload (n := 136) dX8_small_134 rfl rfl ?_
    refine aw_idiv (n := 137) dX8_small_136 (by first | assumption | decide) rfl ?_
    rw [e1]
    refine aw_iload (n := 139) dX8_small_137 rfl rfl ?_
    refine aw_irem (n := 140) dX8_small_139 (by first | assumption | decide) rfl ?_
    rw [e3]
    refine aw_goto (n := 148) dX8_small_140 (by decide) ?_
    refine aw_istore (n := 150) (L' := [_, _, _, _, _, _, _, _, _, _]) dX8_small_148 (Nat.le_of_ble_eq_true rfl) rfl rfl ?_
    refine seg 1 j (j / c2 % c1) M2 (by decide) (by rw [← hc1]; exact b1) (fV_trans hf (fD_V f2)) (fun M3 k1 k2 k3 k4 => ?_)
    have f3 : fD M2 M3 := ⟨fun q _ a b _ => k4 q a b, fun q _ => by rw [k4 164 (by decide) (by decide)]⟩
    refine aw_iload (n := 106) dX8_small_104 rfl rfl ?_
    refine aw_iconst (n := 107) (v := 3) dX8_small_106 (by decide) rfl ?_
    refine aw_icmp_ge (tg := 190) (n := 110) dX8_small_107 (by decide) rfl (fun c_107 => by first | exact absurd rfl c_107 | exact absurd c_107 (by decide)) (fun _ => ?_)
    refine aw_iload (n := 112) dX8_small_110 rfl rfl ?_
    refine aw_if_ne (tg := 126) (n := 115) dX8_small_112 (by decide) rfl (fun _ => ?_) (fun c_112 => by first | exact absurd rfl c_112 | exact absurd c_112 (by decide))
    refine aw_iload (n := 128) dX8_small_126 rfl rfl ?_
    refine aw_iconst (n := 129) (v := 1) dX8_small_128 (by decide) rfl ?_
    refine aw_icmp_ne (tg := 143) (n := 132) dX8_small_129 (by decide) rfl (fun _ => ?_) (fun c_129 => by first | exact absurd rfl c_129 | exact absurd c_129 (by decide))
    refine aw_iload (n := 145) dX8_small_143 rfl rfl ?_
    refine aw_iload (n := 147) dX8_small_145 rfl rfl ?_
    refine aw_irem (n := 148) dX8_small_147 (by first | assumption | decide) rfl ?_
    rw [e4]
    refine aw_istore (n := 150) (L' := [_, _, _, _, _, _, _, _, _, _]) dX8_small_148 (Nat.le_of_ble_eq_true rfl) rfl rfl ?_
    refine seg 2 j (j % c2) M3 (by decide) (by rw [← hc2]; exact b2') (fV_trans hf (fV_trans (fD_V f2) (fD_V f3))) (fun M4 u1 u2 u3 u4 => ?_)
    have f4 : fD M3 M4 := ⟨fun q _ a b _ => u4 q a b, fun q _ => by rw [u4 164 (by decide) (by decide)]⟩
    have hkI : ∀ i, i < 3 → kI 171 172 (smI (P k) m j i) i M4 := by
      intro i hi
      rcases (show i = 0 ∨ i = 1 ∨ i = 2 by omega) with rfl | rfl | rfl
      · have e9 : smI (P k) m j 0 = smv (P k 0) m (j / c2 / c1) := by
          show smv (P k 0) m (j / cnS (P k 2) m / cnS (P k 1) m % cnS (P k 0) m) = _
          rw [← hc0, ← hc1, ← hc2, Nat.mod_eq_of_lt b0]
        rw [e9]
        exact kI_same g1 ((u2 0 (by decide)).trans (k2 0 (by decide))) (fun jj _ => (u3 _ (by omega)).trans (k3 _ (by omega)))
      · have e9 : smI (P k) m j 1 = smv (P k 1) m (j / c2 % c1) := by
          show smv (P k 1) m (j / cnS (P k 2) m % cnS (P k 1) m) = _
          rw [← hc1, ← hc2]
        rw [e9]
        exact kI_same k1 (u2 1 (by decide)) (fun jj _ => u3 _ (by omega))
      · have e9 : smI (P k) m j 2 = smv (P k 2) m (j % c2) := by
          show smv (P k 2) m (j % cnS (P k 2) m) = _
          rw [← hc2]
        rw [e9]
        exact u1
    refine aw_iload (n := 106) dX8_small_104 rfl rfl ?_
    refine aw_iconst (n := 107) (v := 3) dX8_small_106 (by decide) rfl ?_
    refine aw_icmp_ge (tg := 190) (n := 110) dX8_small_107 (by decide) rfl (fun _ => ?_) (fun c_107 => by first | exact absurd rfl c_107 | exact absurd c_107 (by decide))
    exact h2 M4 _ _ hkI (fD_trans f2 (fD_trans f3 f4))
  have loop : ∀ f c (s' : rS) (M1 : aM) (x8 x9 : Value), f + c = n → mS s' M1 → fV M M1 → sL = runL T (P k) k (smI (P k) m) f c s' → aw l K mX8_small d 0 0 90 [.ref 164, .int (nI k), .int (nI m), .int (nI n), .int (nI c1), .int (nI c2), .int (if s'.2.2.2.1 < 0 then 0 else 1), .int (nI c), x8, x9] [] EE M1 Q := by
    intro f
    induction f with
    | zero =>
      intro c s' M1 x8 x9 hc h1 h2 he
      obtain rfl : sL = s' := he
      refine aw_iload (n := 92) dX8_small_90 rfl rfl ?_
      refine aw_iload_n (n := 93) dX8_small_92 rfl rfl ?_
      refine aw_icmp_ge (tg := 203) (n := 96) dX8_small_93 (by decide) rfl (fun c_93 => ?_) (fun c_93 => by exact absurd (nI_le (by omega) (by omega)) c_93)
      exact fin M1 _ _ _ h1 h2
    | succ f ih =>
      intro c s' M1 x8 x9 hc h1 h2 he
      by_cases hf : s'.2.2.2.1 < 0
      · rw [if_pos hf]
        have he2 : sL = runL T (P k) k (smI (P k) m) f (c + 1) (tcS T (P k) k (smI (P k) m c) s') := he.trans (if_pos hf)
        refine aw_iload (n := 92) dX8_small_90 rfl rfl ?_
        refine aw_iload_n (n := 93) dX8_small_92 rfl rfl ?_
        refine aw_icmp_ge (tg := 203) (n := 96) dX8_small_93 (by decide) rfl (fun c_93 => by exact absurd c_93 (nI_ge (by omega) (by omega))) (fun c_93 => ?_)
        refine aw_iload (n := 98) dX8_small_96 rfl rfl ?_
        refine aw_if_ne (tg := 203) (n := 101) dX8_small_98 (by decide) rfl (fun c_98 => by first | exact absurd rfl c_98 | exact absurd c_98 (by decide)) (fun _ => ?_)
        refine aw_iconst (n := 102) (v := 0) dX8_small_101 (by decide) rfl ?_
        refine aw_istore (n := 104) (L' := [_, _, _, _, _, _, _, _, _, _]) dX8_small_102 (Nat.le_of_ble_eq_true rfl) rfl rfl ?_
        refine inner c M1 x8 _ (by omega) h2 (fun M2 x8 x9 g1 g2 => ?_)
        have hty : ∀ i, i < 3 → P k i = tyV (smI (P k) m c i) := by
          intro i hi
          rcases (show i = 0 ∨ i = 1 ∨ i = 2 by omega) with rfl | rfl | rfl
          · exact (smv_ty (hwk.1 0 (by decide))).symm
          · exact (smv_ty (hwk.1 1 (by decide))).symm
          · exact (smv_ty (hwk.1 2 (by decide))).symm
        have f2 := fV_trans h2 (fD_V g2)
        refine aw_aload_n (n := 191) dX8_small_190 rfl rfl ?_
        refine aw_iload_n (n := 192) dX8_small_191 rfl rfl ?_
        refine aw_v1 (d1 := d - 1) (n := 195) (Z := mX8_isFailed) (ci := 6) (L0 := [_, _, .null]) dX8_small_192 kX8_isFailed gX8_237 iyX8_isFailed eyX8_isFailed rfl rfl E_164 rfl (Nat.le_of_ble_eq_true rfl) rfl rfl (by omega) (Nat.le_of_ble_eq_true rfl) (m_isFailed (T := T) (P := P) (inp := smI (P k) m c) (by omega) hW (mA_same hA f2) hk hty g1 (fD_S g2 h1) hf (fun M3 k1 k2 => ?_))
        dsimp only [aPush]
        refine aw_istore (n := 197) (L' := [_, _, _, _, _, _, _, _, _, _]) dX8_small_195 (Nat.le_of_ble_eq_true rfl) rfl rfl ?_
        refine aw_incp (n := 200) (L' := [_, _, _, _, _, _, _, _, _, _]) dX8_small_197 rfl rfl rfl ?_
        refine aw_goto (n := 90) dX8_small_200 (by decide) ?_
        rw [nI_1]
        obtain ⟨o, ho⟩ : ∃ o, o = (outS T (smI (P k) m c) (P k 3) (P k 4) (P k 6)).2 := ⟨_, rfl⟩
        rw [← ho]
        have hfl : (tcS T (P k) k (smI (P k) m c) s').2.2.2.1 = if 0 < o then nI k else s'.2.2.2.1 := by rw [ho]; rfl
        have hv : (if 0 < o then (1 : Int32) else 0) = if (tcS T (P k) k (smI (P k) m c) s').2.2.2.1 < 0 then 0 else 1 := by
          rw [hfl]
          by_cases h0 : 0 < o
          · rw [if_pos h0, if_pos h0, if_neg hnn]
          · rw [if_neg h0, if_neg h0, if_pos hf]
        rw [hv]
        exact ih (c + 1) _ M3 _ _ (by omega) k1 (fV_trans f2 k2) he2
      · rw [if_neg hf]
        have he2 : sL = s' := he.trans (if_neg hf)
        have hfn := fin M1 (.int (nI c)) x8 x9 (by rw [he2]; exact h1) h2
        rw [he2, if_neg hf] at hfn
        refine aw_iload (n := 92) dX8_small_90 rfl rfl ?_
        refine aw_iload_n (n := 93) dX8_small_92 rfl rfl ?_
        refine aw_icmp_ge (tg := 203) (n := 96) dX8_small_93 (by decide) rfl (fun c_93 => by exact absurd c_93 (nI_ge (by omega) (by omega))) (fun c_93 => ?_)
        refine aw_iload (n := 98) dX8_small_96 rfl rfl ?_
        refine aw_if_ne (tg := 203) (n := 101) dX8_small_98 (by decide) rfl (fun _ => ?_) (fun c_98 => by first | exact absurd rfl c_98 | exact absurd c_98 (by decide))
        exact hfn
  have i1 : vp_in (nI (3 * k + 1)) 24 := vp_in_nI (by omega) (by decide)
  have i2 : vp_in (nI (3 * k + 2)) 24 := vp_in_nI (by omega) (by decide)
  have kk1 : (nI (3 * k + 1)).toNatClampNeg = 3 * k + 1 := nI_clamp (by omega)
  have kk2 : (nI (3 * k + 2)).toNatClampNeg = 3 * k + 2 := nI_clamp (by omega)
  have e0 : (3 : Int32) * nI k = nI (3 * k) := by rw [show (3 : Int32) = nI 3 from rfl, pk_mul]
  have e1 : nI (3 * k) + 1 = nI (3 * k + 1) := nI_1 _
  have e2 : nI (3 * k) + 2 = nI (3 * k + 2) := nI_add _ 2
  refine aw_aload_n (n := 1) dX8_small_0 rfl rfl ?_
  refine aw_iload_n (n := 2) dX8_small_1 rfl rfl ?_
  refine aw_v1 (d1 := d - 1) (n := 5) (Z := mX8_isProperty) (ci := 6) (L0 := [_, _]) dX8_small_2 kX8_isProperty gX8_231 iyX8_isProperty eyX8_isProperty rfl rfl E_164 rfl (Nat.le_of_ble_eq_true rfl) rfl rfl (by omega) (Nat.le_of_ble_eq_true rfl) (m_isProperty (by omega) (by omega) hA.2.2.1 ?_)
  dsimp only [aPush]
  rw [hh]
  refine aw_if_eq (tg := 17) (n := 8) dX8_small_5 (by decide) rfl (fun c_5 => by exact absurd c_5 (by decide)) (fun c_5 => ?_)
  refine aw_iload_n (n := 9) dX8_small_8 rfl rfl ?_
  refine aw_iconst (n := 10) (v := 0) dX8_small_9 (by decide) rfl ?_
  refine aw_iconst (n := 11) (v := 3) dX8_small_10 (by decide) rfl ?_
  refine aw_s3 (d1 := d - 1) (n := 14) (Z := mX8_in) (L0 := [_, _, _]) dX8_small_11 kX8_in gX8_95 syX8_in rfl rfl rfl (Nat.le_of_ble_eq_true rfl) rfl rfl (by omega) (Nat.le_of_ble_eq_true rfl) (m_in (fun hb => ?_) (fun hb1 hb2 => ?_))
  · dsimp only [aPush]
    exact absurd hb (fun q => q.elim (nI_pos (by omega)) (fun q => absurd ((nI_ltI (a := 3) (by decide) (by omega)).mp q) (by omega)))
  · dsimp only [aPush]
    refine aw_if_ne (tg := 19) (n := 17) dX8_small_14 (by decide) rfl (fun c_14 => ?_) (fun c_14 => by exact absurd c_14 (by decide))
    refine aw_aload_n (n := 20) dX8_small_19 rfl rfl ?_
    refine aw_iload_n (n := 21) dX8_small_20 rfl rfl ?_
    refine aw_iload_n (n := 22) dX8_small_21 rfl rfl ?_
    refine aw_v2 (d1 := d - 1) (n := 25) (Z := mX8_all) (ci := 6) (L0 := [_, _, _]) dX8_small_22 kX8_all gX8_261 iyX8_all eyX8_all rfl rfl E_164 rfl rfl (Nat.le_of_ble_eq_true rfl) rfl rfl (by omega) (Nat.le_of_ble_eq_true rfl) (m_all (by omega) hm (by omega) hwk.1 (hA.2.2.2 k hk).1 ?_)
    dsimp only [aPush]
    rw [← hn]
    refine aw_istore_n (n := 26) (L' := [_, _, _, _, _, _, _, _, _, _]) dX8_small_25 (Nat.le_of_ble_eq_true rfl) rfl rfl ?_
    refine aw_iload_n (n := 27) dX8_small_26 rfl rfl ?_
    refine aw_sipush (n := 30) (v := 3000) dX8_small_27 (by decide) rfl ?_
    refine aw_icmp_gt (tg := 45) (n := 33) dX8_small_30 (by decide) rfl (fun c_30 => by exact absurd ((nI_ltI (a := 3000) (by decide) (by omega)).mp c_30) (by omega)) (fun c_30 => ?_)
    refine aw_aload_n (n := 34) dX8_small_33 rfl rfl ?_
    refine aw_geti (n := 37) dX8_small_34 fX8_178 E_164 rfl rfl ?_
    rw [hS.1]
    refine aw_iload_n (n := 38) dX8_small_37 rfl rfl ?_
    refine aw_iadd (n := 39) dX8_small_38 rfl ?_
    rw [nI_add]
    refine aw_sipush (n := 42) (v := 3000) dX8_small_39 (by decide) rfl ?_
    refine aw_icmp_le (tg := 48) (n := 45) dX8_small_42 (by decide) rfl (fun c_42 => ?_) (fun c_42 => by exact absurd ((nI_leI (b := 3000) (by omega) (by decide)).mpr htr) c_42)
    refine aw_aload_n (n := 49) dX8_small_48 rfl rfl ?_
    refine aw_v0 (d1 := d - 1) (n := 52) (Z := mX8_anew) (ci := 6) (L0 := [_, .null]) dX8_small_49 kX8_anew gX8_234 iyX8_anew eyX8_anew rfl rfl E_164 (Nat.le_of_ble_eq_true rfl) rfl rfl (by omega) (Nat.le_of_ble_eq_true rfl) (m_anew (fun M1 g1 g2 g3 g4 g5 => ?_))
    dsimp only [aPush]
    have t1 : M1 180 (3 * k + 1) = P k 1 := by rw [g5 180 (by decide) (by decide)]; exact (hA.2.2.2 k hk).1 1 (by decide)
    have t2 : M1 180 (3 * k + 2) = P k 2 := by rw [g5 180 (by decide) (by decide)]; exact (hA.2.2.2 k hk).1 2 (by decide)
    refine aw_aload_n (n := 53) dX8_small_52 rfl rfl ?_
    refine aw_getr (n := 56) dX8_small_53 fX8_55 E_164 rfl rfl ?_
    refine aw_iconst (n := 57) (v := 3) dX8_small_56 (by decide) rfl ?_
    refine aw_iload_n (n := 58) dX8_small_57 rfl rfl ?_
    refine aw_imul (n := 59) dX8_small_58 rfl ?_
    rw [e0]
    refine aw_iconst (n := 60) (v := 1) dX8_small_59 (by decide) rfl ?_
    refine aw_iadd (n := 61) dX8_small_60 rfl ?_
    rw [e1]
    refine aw_iald (n := 62) dX8_small_61 E_180 (by assumption) rfl ?_
    rw [kk1, t1]
    refine aw_iload_n (n := 63) dX8_small_62 rfl rfl ?_
    refine aw_s2 (d1 := d - 1) (n := 66) (Z := mX8_sort) (L0 := [_, _, .null, .null]) dX8_small_63 kX8_sort gX8_258 syX8_sort rfl rfl (Nat.le_of_ble_eq_true rfl) rfl rfl (by omega) (Nat.le_of_ble_eq_true rfl) (m_sorts (by omega) hm (hwk.1 1 (by decide)) ?_)
    dsimp only [aPush]
    rw [← hc1]
    refine aw_istore (n := 68) (L' := [_, _, _, _, _, _, _, _, _, _]) dX8_small_66 (Nat.le_of_ble_eq_true rfl) rfl rfl ?_
    refine aw_aload_n (n := 69) dX8_small_68 rfl rfl ?_
    refine aw_getr (n := 72) dX8_small_69 fX8_55 E_164 rfl rfl ?_
    refine aw_iconst (n := 73) (v := 3) dX8_small_72 (by decide) rfl ?_
    refine aw_iload_n (n := 74) dX8_small_73 rfl rfl ?_
    refine aw_imul (n := 75) dX8_small_74 rfl ?_
    rw [e0]
    refine aw_iconst (n := 76) (v := 2) dX8_small_75 (by decide) rfl ?_
    refine aw_iadd (n := 77) dX8_small_76 rfl ?_
    rw [e2]
    refine aw_iald (n := 78) dX8_small_77 E_180 (by assumption) rfl ?_
    rw [kk2, t2]
    refine aw_iload_n (n := 79) dX8_small_78 rfl rfl ?_
    refine aw_s2 (d1 := d - 1) (n := 82) (Z := mX8_sort) (L0 := [_, _, .null, .null]) dX8_small_79 kX8_sort gX8_258 syX8_sort rfl rfl (Nat.le_of_ble_eq_true rfl) rfl rfl (by omega) (Nat.le_of_ble_eq_true rfl) (m_sorts (by omega) hm (hwk.1 2 (by decide)) ?_)
    dsimp only [aPush]
    rw [← hc2]
    refine aw_istore (n := 84) (L' := [_, _, _, _, _, _, _, _, _, _]) dX8_small_82 (Nat.le_of_ble_eq_true rfl) rfl rfl ?_
    refine aw_iconst (n := 85) (v := 0) dX8_small_84 (by decide) rfl ?_
    refine aw_istore (n := 87) (L' := [_, _, _, _, _, _, _, _, _, _]) dX8_small_85 (Nat.le_of_ble_eq_true rfl) rfl rfl ?_
    refine aw_iconst (n := 88) (v := 0) dX8_small_87 (by decide) rfl ?_
    refine aw_istore (n := 90) (L' := [_, _, _, _, _, _, _, _, _, _]) dX8_small_88 (Nat.le_of_ble_eq_true rfl) rfl rfl ?_
    refine loop n 0 (rS0 s.1 s.2.2.2.2) M1 _ _ (by omega) ⟨?_, g1, g3, g2, fun hn => absurd (show (-1 : Int32) < 0 by decide) hn⟩ ⟨fun q hq => g5 q (by omega) (by omega), g4 0 (by omega), g4 23 (by omega)⟩ hsL'
    rw [g4 29 (by omega)]; exact hS.1
end MSMALL2
