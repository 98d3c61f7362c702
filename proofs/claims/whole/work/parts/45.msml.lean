theorem mS_same {s : rS} {M M' : aM} (h : mS s M) (h1 : ∀ j, 29 ≤ j → j ≠ 31 → M' 164 j = M 164 j) (h2 : M' 185 = M 185) (h3 : M' 187 = M 187) (h4 : M' 188 = M 188) (h5 : M' 189 = M 189) : mS s M' := by
  obtain ⟨g1, g2, g3, g4, g5⟩ := h
  refine ⟨(h1 _ (by omega) (by omega)).trans g1, fun k hk => (h1 _ (by omega) (by omega)).trans (g2 k hk), fun k hk => by rw [h2]; exact g3 k hk, (h1 _ (by omega) (by omega)).trans g4, fun hn i hi => ⟨by rw [h3]; exact (g5 hn i hi).1, kI_same (g5 hn i hi).2 (by rw [h4]) (fun j _ => by rw [h5])⟩⟩
section MSML
variable {l : Launch} {K : aK} {d : Nat} {M : aM} {Q : Option Value → aE → aM → Prop}
theorem m_smaller {cnt np p : Nat} {T : tm} {P : Nat → pr} {s : rS} (hd : 13 ≤ d) (hW : wfA cnt T np P) (hA : mA cnt T np P M) (hp : p < np) (hS : mS s M) (hfl : s.2.2.2.1 = nI p) (hty : ∀ i, i < 3 → P p i = tyV (s.2.2.2.2 i)) (h5 : s.2.1 5 = 0)
    (hQ : ∀ M', mS (setl (mkS T (P p) 200 0 s)) M' → fV M M' → Q none EE M') : aw l K mX8_smaller d 0 0 0 [.ref 164, .int (nI p), .null, .null, .null] [] EE M Q := by
  have hW' := hW
  obtain ⟨w1, w2, w3, w4⟩ := hW
  have hnn : ¬ nI p < 0 := nI_pos (by omega)
  have e1 : ∀ (s' : rS) (M1 : aM) (y : Int32), mS s' M1 → fV M M1 → setl (mkS T (P p) 200 0 s) = setl s' → y = (if s'.2.1 5 < 200 then 1 else 0) → Q none EE (up2 M1 164 40 y) := by
    intro s' M1 y h1 h2 he hy
    rw [he] at hQ
    refine hQ _ ⟨?_, fun k hk => ?_, fun k hk => ?_, ?_, fun hn i hi => ⟨?_, ?_⟩⟩ (fV_trans h2 ⟨fun q hq => up2_ra _ _ (by omega), up2_k _ _ (by decide), up2_k _ _ (by decide)⟩)
    · rw [up2_k _ _ (by decide)]; exact h1.1
    · show _ = upN s'.2.1 7 _ k
      unfold upN
      by_cases hk7 : k = 7
      · subst hk7; rw [up2_s, if_pos rfl]; exact hy
      · rw [up2_k _ _ (by omega), if_neg hk7]; exact h1.2.1 k hk
    · rw [up2_a _ _ (by decide)]; exact h1.2.2.1 k hk
    · rw [up2_k _ _ (by decide)]; exact h1.2.2.2.1
    · rw [up2_a _ _ (by decide)]; exact (h1.2.2.2.2 hn i hi).1
    · exact kI_same (h1.2.2.2.2 hn i hi).2 (up2_a _ _ (by decide)) (fun j _ => up2_a _ _ (by decide))
  have finA : ∀ (s' : rS) (M1 : aM) (x3 : Value), mS s' M1 → fV M M1 → setl (mkS T (P p) 200 0 s) = setl s' → aw l K mX8_smaller d 0 0 79 [.ref 164, .int (nI p), .int 1, x3, .int 0] [] EE M1 Q := by
    intro s' M1 x3 h1 h2 he
    have m38 : M1 164 38 = s'.2.1 5 := h1.2.1 5 (by decide)
    refine aw_iload (n := 81) dX8_smaller_79 rfl rfl ?_
    refine aw_if_eq (tg := 102) (n := 84) dX8_smaller_81 (by decide) rfl (fun _ => ?_) (fun c_81 => by first | exact absurd rfl c_81 | exact absurd c_81 (by decide))
    refine aw_aload_n (n := 103) dX8_smaller_102 rfl rfl ?_
    refine aw_iload_n (n := 104) dX8_smaller_103 rfl rfl ?_
    refine aw_if_eq (tg := 121) (n := 107) dX8_smaller_104 (by decide) rfl (fun c_104 => by first | exact absurd rfl c_104 | exact absurd c_104 (by decide)) (fun _ => ?_)
    refine aw_aload_n (n := 108) dX8_smaller_107 rfl rfl ?_
    refine aw_geti (n := 111) dX8_smaller_108 fX8_215 E_164 rfl rfl ?_
    refine aw_sipush (n := 114) (v := 200) dX8_smaller_111 (by decide) rfl ?_
    rw [m38]
    refine aw_icmp_ge (tg := 121) (n := 117) dX8_smaller_114 (by decide) rfl (fun c_114 => ?_) (fun c_114 => ?_)
    · refine aw_iconst (n := 122) (v := 0) dX8_smaller_121 (by decide) rfl ?_
      refine aw_puti (n := 125) dX8_smaller_122 pX8_221 E_164 rfl rfl ?_
      refine aw_iconst (n := 126) (v := 0) dX8_smaller_125 (by decide) rfl ?_
      refine aw_istore_n (n := 127) (L' := [_, _, _, _, _]) dX8_smaller_126 (Nat.le_of_ble_eq_true rfl) rfl rfl ?_
      refine aw_goto (n := 2) dX8_smaller_127 (by decide) ?_
      refine aw_iload_n (n := 3) dX8_smaller_2 rfl rfl ?_
      refine aw_if_eq (tg := 130) (n := 6) dX8_smaller_3 (by decide) rfl (fun _ => ?_) (fun c_3 => by first | exact absurd rfl c_3 | exact absurd c_3 (by decide))
      refine aw_vret dX8_smaller_130 rfl ?_
      first
        | exact e1 s' M1 _ h1 h2 he (if_pos (i_nle.mp c_114)).symm
        | exact e1 s' M1 _ h1 h2 he (if_neg (i_nlt.mpr c_114)).symm
    · refine aw_iconst (n := 118) (v := 1) dX8_smaller_117 (by decide) rfl ?_
      refine aw_goto (n := 122) dX8_smaller_118 (by decide) ?_
      refine aw_puti (n := 125) dX8_smaller_122 pX8_221 E_164 rfl rfl ?_
      refine aw_iconst (n := 126) (v := 0) dX8_smaller_125 (by decide) rfl ?_
      refine aw_istore_n (n := 127) (L' := [_, _, _, _, _]) dX8_smaller_126 (Nat.le_of_ble_eq_true rfl) rfl rfl ?_
      refine aw_goto (n := 2) dX8_smaller_127 (by decide) ?_
      refine aw_iload_n (n := 3) dX8_smaller_2 rfl rfl ?_
      refine aw_if_eq (tg := 130) (n := 6) dX8_smaller_3 (by decide) rfl (fun _ => ?_) (fun c_3 => by first | exact absurd rfl c_3 | exact absurd c_3 (by decide))
      refine aw_vret dX8_smaller_130 rfl ?_
      first
        | exact e1 s' M1 _ h1 h2 he (if_pos (i_nle.mp c_114)).symm
        | exact e1 s' M1 _ h1 h2 he (if_neg (i_nlt.mpr c_114)).symm
  have finB : ∀ (s' : rS) (M1 : aM) (x3 : Value), mS s' M1 → fV M M1 → setl (mkS T (P p) 200 0 s) = setl s' → s'.2.1 5 = nI 200 → aw l K mX8_smaller d 0 0 79 [.ref 164, .int (nI p), .int 0, x3, .int 0] [] EE M1 Q := by
    intro s' M1 x3 h1 h2 he hc
    refine aw_iload (n := 81) dX8_smaller_79 rfl rfl ?_
    refine aw_if_eq (tg := 102) (n := 84) dX8_smaller_81 (by decide) rfl (fun _ => ?_) (fun c_81 => by first | exact absurd rfl c_81 | exact absurd c_81 (by decide))
    refine aw_aload_n (n := 103) dX8_smaller_102 rfl rfl ?_
    refine aw_iload_n (n := 104) dX8_smaller_103 rfl rfl ?_
    refine aw_if_eq (tg := 121) (n := 107) dX8_smaller_104 (by decide) rfl (fun _ => ?_) (fun c_104 => by first | exact absurd rfl c_104 | exact absurd c_104 (by decide))
    refine aw_iconst (n := 122) (v := 0) dX8_smaller_121 (by decide) rfl ?_
    refine aw_puti (n := 125) dX8_smaller_122 pX8_221 E_164 rfl rfl ?_
    refine aw_iconst (n := 126) (v := 0) dX8_smaller_125 (by decide) rfl ?_
    refine aw_istore_n (n := 127) (L' := [_, _, _, _, _]) dX8_smaller_126 (Nat.le_of_ble_eq_true rfl) rfl rfl ?_
    refine aw_goto (n := 2) dX8_smaller_127 (by decide) ?_
    refine aw_iload_n (n := 3) dX8_smaller_2 rfl rfl ?_
    refine aw_if_eq (tg := 130) (n := 6) dX8_smaller_3 (by decide) rfl (fun _ => ?_) (fun c_3 => by first | exact absurd rfl c_3 | exact absurd c_3 (by decide))
    refine aw_vret dX8_smaller_130 rfl ?_
    exact e1 s' M1 _ h1 h2 he (if_neg (by rw [hc]; decide)).symm
  have loop : ∀ f nx ct (s' : rS) (M1 : aM), f + ct = 200 → nx ≤ ct → s'.2.1 5 = nI ct → mS s' M1 → fV M M1 → s'.2.2.2.1 = nI p → (∀ i, i < 3 → P p i = tyV (s'.2.2.2.2 i)) → mkS T (P p) 200 0 s = mkS T (P p) f nx s' → aw l K mX8_smaller d 0 0 11 [.ref 164, .int (nI p), .int 1, .int (nI nx), .int 0] [] EE M1 Q := by
    intro f
    induction f with
    | zero =>
      intro nx ct s' M1 hf hn hc h1 h2 h3 ht he
      obtain rfl : ct = 200 := by omega
      have he' : setl (mkS T (P p) 200 0 s) = setl s' := congrArg setl he
      refine aw_iload (n := 13) dX8_smaller_11 rfl rfl ?_
      refine aw_if_ne (tg := 79) (n := 16) dX8_smaller_13 (by decide) rfl (fun c_13 => by first | exact absurd rfl c_13 | exact absurd c_13 (by decide)) (fun _ => ?_)
      refine aw_iload_n (n := 17) dX8_smaller_16 rfl rfl ?_
      refine aw_if_eq (tg := 79) (n := 20) dX8_smaller_17 (by decide) rfl (fun c_17 => by first | exact absurd rfl c_17 | exact absurd c_17 (by decide)) (fun _ => ?_)
      refine aw_aload_n (n := 21) dX8_smaller_20 rfl rfl ?_
      refine aw_iload_n (n := 22) dX8_smaller_21 rfl rfl ?_
      refine aw_v1 (d1 := d - 1) (n := 25) (Z := mX8_candidate) (ci := 6) (L0 := [_, _, .null, .null, .null, .null]) dX8_smaller_22 kX8_candidate gX8_243 iyX8_candidate eyX8_candidate rfl rfl E_164 rfl (Nat.le_of_ble_eq_true rfl) rfl rfl (by omega) (Nat.le_of_ble_eq_true rfl) (m_candidate (inp := s'.2.2.2.2) (by omega) (by omega) (h1.2.2.2.2 (by rw [h3]; exact hnn)) (fun hcd M2 hf2 => ?_) (fun inp M2 hcd hI hf2 => ?_))
      · dsimp only [aPush]
        have f2 : fV M M2 := fV_trans h2 ⟨fun q hq => hf2 q (by omega) (by omega), by rw [hf2 164 (by decide) (by decide)], by rw [hf2 164 (by decide) (by decide)]⟩
        have s2 : mS s' M2 := mS_same h1 (fun j _ _ => by rw [hf2 164 (by decide) (by decide)]) (hf2 185 (by decide) (by decide)) (hf2 187 (by decide) (by decide)) (hf2 188 (by decide) (by decide)) (hf2 189 (by decide) (by decide))
        refine aw_if_eq (tg := 79) (n := 28) dX8_smaller_25 (by decide) rfl (fun c_25 => ?_) (fun c_25 => by exact absurd rfl c_25)
        exact finA s' M2 _ s2 f2 he'
      · dsimp only [aPush]
        have f2 : fV M M2 := fV_trans h2 ⟨fun q hq => hf2 q (by omega) (by omega), by rw [hf2 164 (by decide) (by decide)], by rw [hf2 164 (by decide) (by decide)]⟩
        have s2 : mS s' M2 := mS_same h1 (fun j _ _ => by rw [hf2 164 (by decide) (by decide)]) (hf2 185 (by decide) (by decide)) (hf2 187 (by decide) (by decide)) (hf2 188 (by decide) (by decide)) (hf2 189 (by decide) (by decide))
        refine aw_if_eq (tg := 79) (n := 28) dX8_smaller_25 (by decide) rfl (fun c_25 => by exact absurd c_25 (by decide)) (fun c_25 => ?_)
        refine aw_aload_n (n := 29) dX8_smaller_28 rfl rfl ?_
        refine aw_geti (n := 32) dX8_smaller_29 fX8_215 E_164 rfl rfl ?_
        refine aw_sipush (n := 35) (v := 200) dX8_smaller_32 (by decide) rfl ?_
        rw [show M2 164 38 = nI 200 from (s2.2.1 5 (by decide)).trans hc]
        refine aw_icmp_ne (tg := 43) (n := 38) dX8_smaller_35 (by decide) rfl (fun c_35 => by exact absurd rfl c_35) (fun c_35 => ?_)
        refine aw_iconst (n := 39) (v := 0) dX8_smaller_38 (by decide) rfl ?_
        refine aw_istore_n (n := 40) (L' := [_, _, _, _, _]) dX8_smaller_39 (Nat.le_of_ble_eq_true rfl) rfl rfl ?_
        refine aw_goto (n := 73) dX8_smaller_40 (by decide) ?_
        refine aw_incp (n := 76) (L' := [_, _, _, _, _]) dX8_smaller_73 rfl rfl rfl ?_
        refine aw_goto (n := 11) dX8_smaller_76 (by decide) ?_
        refine aw_iload (n := 13) dX8_smaller_11 rfl rfl ?_
        refine aw_if_ne (tg := 79) (n := 16) dX8_smaller_13 (by decide) rfl (fun c_13 => by first | exact absurd rfl c_13 | exact absurd c_13 (by decide)) (fun _ => ?_)
        refine aw_iload_n (n := 17) dX8_smaller_16 rfl rfl ?_
        refine aw_if_eq (tg := 79) (n := 20) dX8_smaller_17 (by decide) rfl (fun _ => ?_) (fun c_17 => by first | exact absurd rfl c_17 | exact absurd c_17 (by decide))
        exact finB s' M2 _ s2 f2 he' hc
    | succ f ih =>
      intro nx ct s' M1 hf hn hc h1 h2 h3 ht he
      refine aw_iload (n := 13) dX8_smaller_11 rfl rfl ?_
      refine aw_if_ne (tg := 79) (n := 16) dX8_smaller_13 (by decide) rfl (fun c_13 => by first | exact absurd rfl c_13 | exact absurd c_13 (by decide)) (fun _ => ?_)
      refine aw_iload_n (n := 17) dX8_smaller_16 rfl rfl ?_
      refine aw_if_eq (tg := 79) (n := 20) dX8_smaller_17 (by decide) rfl (fun c_17 => by first | exact absurd rfl c_17 | exact absurd c_17 (by decide)) (fun _ => ?_)
      refine aw_aload_n (n := 21) dX8_smaller_20 rfl rfl ?_
      refine aw_iload_n (n := 22) dX8_smaller_21 rfl rfl ?_
      refine aw_v1 (d1 := d - 1) (n := 25) (Z := mX8_candidate) (ci := 6) (L0 := [_, _, .null, .null, .null, .null]) dX8_smaller_22 kX8_candidate gX8_243 iyX8_candidate eyX8_candidate rfl rfl E_164 rfl (Nat.le_of_ble_eq_true rfl) rfl rfl (by omega) (Nat.le_of_ble_eq_true rfl) (m_candidate (inp := s'.2.2.2.2) (by omega) (by omega) (h1.2.2.2.2 (by rw [h3]; exact hnn)) (fun hcd M2 hf2 => ?_) (fun inp M2 hcd hI hf2 => ?_))
      · dsimp only [aPush]
        have f2 : fV M M2 := fV_trans h2 ⟨fun q hq => hf2 q (by omega) (by omega), by rw [hf2 164 (by decide) (by decide)], by rw [hf2 164 (by decide) (by decide)]⟩
        have s2 : mS s' M2 := mS_same h1 (fun j _ _ => by rw [hf2 164 (by decide) (by decide)]) (hf2 185 (by decide) (by decide)) (hf2 187 (by decide) (by decide)) (hf2 188 (by decide) (by decide)) (hf2 189 (by decide) (by decide))
        refine aw_if_eq (tg := 79) (n := 28) dX8_smaller_25 (by decide) rfl (fun c_25 => ?_) (fun c_25 => by exact absurd rfl c_25)
        exact finA s' M2 _ s2 f2 (congrArg setl (he.trans (mkS_none hcd)))
      · dsimp only [aPush]
        have f2 : fV M M2 := fV_trans h2 ⟨fun q hq => hf2 q (by omega) (by omega), by rw [hf2 164 (by decide) (by decide)], by rw [hf2 164 (by decide) (by decide)]⟩
        have s2 : mS s' M2 := mS_same h1 (fun j _ _ => by rw [hf2 164 (by decide) (by decide)]) (hf2 185 (by decide) (by decide)) (hf2 187 (by decide) (by decide)) (hf2 188 (by decide) (by decide)) (hf2 189 (by decide) (by decide))
        refine aw_if_eq (tg := 79) (n := 28) dX8_smaller_25 (by decide) rfl (fun c_25 => by exact absurd c_25 (by decide)) (fun c_25 => ?_)
        have m38 : M2 164 38 = nI ct := (s2.2.1 5 (by decide)).trans hc
        have hne : ¬ nI ct = 200 := fun q => absurd ((nI_eq (b := 200) (by omega) (by decide)).mp q) (by omega)
        obtain ⟨M3, hM3⟩ : ∃ M3, M3 = up2 M2 164 38 (nI ct + 1) := ⟨_, rfl⟩
        have g3 : ∀ q, q ≠ 164 → M3 q = M2 q := fun q hq => by rw [hM3]; exact up2_ra _ _ hq
        have g3s : ∀ j, j ≠ 38 → M3 164 j = M2 164 j := fun j hj => by rw [hM3]; exact up2_k _ _ hj
        have f3 : fV M M3 := fV_trans f2 ⟨fun q hq => g3 q (by omega), g3s 0 (by decide), g3s 23 (by decide)⟩
        obtain ⟨A1, A2, A3, A4⟩ := mA_same hA f3
        have ht' : ∀ i, i < 3 → P p i = tyV (inp i) := fun i hi => (ht i hi).trans (tyV_cand hcd).symm
        refine aw_aload_n (n := 29) dX8_smaller_28 rfl rfl ?_
        refine aw_geti (n := 32) dX8_smaller_29 fX8_215 E_164 rfl rfl ?_
        refine aw_sipush (n := 35) (v := 200) dX8_smaller_32 (by decide) rfl ?_
        rw [m38]
        refine aw_icmp_ne (tg := 43) (n := 38) dX8_smaller_35 (by decide) rfl (fun c_35 => ?_) (fun c_35 => by exact absurd c_35 hne)
        refine aw_aload_n (n := 44) dX8_smaller_43 rfl rfl ?_
        refine aw_dup (n := 45) dX8_smaller_44 rfl rfl ?_
        refine aw_geti (n := 48) dX8_smaller_45 fX8_215 E_164 rfl rfl ?_
        rw [m38]
        refine aw_iconst (n := 49) (v := 1) dX8_smaller_48 (by decide) rfl ?_
        refine aw_iadd (n := 50) dX8_smaller_49 rfl ?_
        refine aw_puti (n := 53) dX8_smaller_50 pX8_215 E_164 rfl rfl ?_
        rw [← hM3]
        refine aw_aload_n (n := 54) dX8_smaller_53 rfl rfl ?_
        refine aw_iload_n (n := 55) dX8_smaller_54 rfl rfl ?_
        refine aw_iconst (n := 56) (v := 0) dX8_smaller_55 (by decide) rfl ?_
        refine aw_v2 (d1 := d - 1) (n := 59) (Z := mX8_outcome) (ci := 6) (L0 := [_, _, _, .null, .null]) dX8_smaller_56 kX8_outcome gX8_224 iyX8_outcome eyX8_outcome rfl rfl E_164 rfl rfl (Nat.le_of_ble_eq_true rfl) rfl rfl (by omega) (Nat.le_of_ble_eq_true rfl) (m_outcome (T := T) (inp := inp) (P := P p) (by omega) w1 w2 (by omega) A2 (A4 p hp) (w4 p hp) (Or.inl rfl) ht' (fun i hi => kI_same (hI i hi) (by rw [g3 171 (by decide)]) (fun j _ => by rw [g3 172 (by decide)])) (fun M4 g4 g5 g6 => ?_))
        dsimp only [aPush]
        have g6 : M4 185 = M3 185 := by rw [g6]; unfold labOn; rw [if_neg (fun q => absurd q.2.2 (by decide))]
        have t4 : ∀ j, 30 ≤ j → M4 164 j = M3 164 j := fun j hj => g4.2 j (by omega) (by omega) (by omega) (by omega) (by omega) (by omega) (by omega) (by omega)
        have f4 : fV M M4 := fV_trans f3 (fT_V g4)
        have k29 : M4 164 29 = nI (s'.1 + 1) := by rw [g5, g3s 29 (by decide), s2.1, nI_1]
        have kt : ∀ k, k < 8 → M4 164 (33 + k) = upN s'.2.1 5 (s'.2.1 5 + 1) k := by
          intro k hk
          rw [t4 _ (by omega)]
          unfold upN
          by_cases hk5 : k = 5
          · subst hk5; rw [if_pos rfl, hM3, up2_s, hc]
          · rw [if_neg hk5, g3s _ (by omega)]; exact s2.2.1 k hk
        have kl : ∀ k, k < 9 → M4 185 k = s'.2.2.1 k := fun k hk => by rw [g6, g3 185 (by decide)]; exact s2.2.2.1 k hk
        have k41 : M4 164 41 = s'.2.2.2.1 := by rw [t4 _ (by omega), g3s _ (by decide)]; exact s2.2.2.2.1
        have k36 : M4 164 36 = s'.2.1 3 := kt 3 (by decide)
        have hc1 : s'.2.1 5 + 1 = nI (ct + 1) := by rw [hc, nI_1]
        refine aw_aload_n (n := 60) dX8_smaller_59 rfl rfl ?_
        refine aw_geti (n := 63) dX8_smaller_60 fX8_212 E_164 rfl rfl ?_
        rw [k36]
        refine aw_icmp_ne (tg := 70) (n := 66) dX8_smaller_63 (by decide) rfl (fun c_63 => ?_) (fun c_63 => ?_)
        · refine aw_iconst (n := 71) (v := 0) dX8_smaller_70 (by decide) rfl ?_
          refine aw_istore (n := 73) (L' := [_, _, _, _, _]) dX8_smaller_71 (Nat.le_of_ble_eq_true rfl) rfl rfl ?_
          refine aw_incp (n := 76) (L' := [_, _, _, _, _]) dX8_smaller_73 rfl rfl rfl ?_
          refine aw_goto (n := 11) dX8_smaller_76 (by decide) ?_
          rw [nI_1]
          refine ih (nx + 1) (ct + 1) (s'.1 + 1, upN s'.2.1 5 (s'.2.1 5 + 1), s'.2.2.1, s'.2.2.2.1, s'.2.2.2.2) M4 (by omega) (by omega) hc1 ⟨k29, kt, kl, k41, fun hn i hi => ⟨?_, ?_⟩⟩ f4 h3 ht (he.trans (mkS_ne hcd c_63))
          · rw [g4.1 187 (by omega), g3 187 (by decide)]; exact (s2.2.2.2.2 hn i hi).1
          · exact kI_same (s2.2.2.2.2 hn i hi).2 (by rw [g4.1 188 (by omega), g3 188 (by decide)]) (fun j _ => by rw [g4.1 189 (by omega), g3 189 (by decide)])
        · refine aw_iconst (n := 67) (v := 1) dX8_smaller_66 (by decide) rfl ?_
          refine aw_goto (n := 71) dX8_smaller_67 (by decide) ?_
          refine aw_istore (n := 73) (L' := [_, _, _, _, _]) dX8_smaller_71 (Nat.le_of_ble_eq_true rfl) rfl rfl ?_
          refine aw_incp (n := 76) (L' := [_, _, _, _, _]) dX8_smaller_73 rfl rfl rfl ?_
          refine aw_goto (n := 11) dX8_smaller_76 (by decide) ?_
          skip
          refine aw_iload (n := 13) dX8_smaller_11 rfl rfl ?_
          refine aw_if_ne (tg := 79) (n := 16) dX8_smaller_13 (by decide) rfl (fun _ => ?_) (fun c_13 => by first | exact absurd rfl c_13 | exact absurd c_13 (by decide))
          refine aw_iload (n := 81) dX8_smaller_79 rfl rfl ?_
          refine aw_if_eq (tg := 102) (n := 84) dX8_smaller_81 (by decide) rfl (fun c_81 => by first | exact absurd rfl c_81 | exact absurd c_81 (by decide)) (fun _ => ?_)
          refine aw_aload_n (n := 85) dX8_smaller_84 rfl rfl ?_
          refine aw_dup (n := 86) dX8_smaller_85 rfl rfl ?_
          refine aw_geti (n := 89) dX8_smaller_86 fX8_218 E_164 rfl rfl ?_
          refine aw_iconst (n := 90) (v := 1) dX8_smaller_89 (by decide) rfl ?_
          refine aw_iadd (n := 91) dX8_smaller_90 rfl ?_
          refine aw_puti (n := 94) dX8_smaller_91 pX8_218 E_164 rfl rfl ?_
          refine aw_aload_n (n := 95) dX8_smaller_94 rfl rfl ?_
          refine aw_iload_n (n := 96) dX8_smaller_95 rfl rfl ?_
          refine aw_v1 (d1 := d - 1) (n := 99) (Z := mX8_keep) (ci := 6) (L0 := [_, _, .null]) dX8_smaller_96 kX8_keep gX8_228 iyX8_keep eyX8_keep rfl rfl E_164 rfl (Nat.le_of_ble_eq_true rfl) rfl rfl (by omega) (Nat.le_of_ble_eq_true rfl) (m_keep (by omega) (fun M5 j1 j2 j3 j4 j5 => ?_))
          dsimp only [aPush]
          refine aw_goto (n := 127) dX8_smaller_99 (by decide) ?_
          refine aw_goto (n := 2) dX8_smaller_127 (by decide) ?_
          refine aw_iload_n (n := 3) dX8_smaller_2 rfl rfl ?_
          refine aw_if_eq (tg := 130) (n := 6) dX8_smaller_3 (by decide) rfl (fun c_3 => by first | exact absurd rfl c_3 | exact absurd c_3 (by decide)) (fun _ => ?_)
          refine aw_iconst (n := 7) (v := 0) dX8_smaller_6 (by decide) rfl ?_
          refine aw_istore_n (n := 8) (L' := [_, _, _, _, _]) dX8_smaller_7 (Nat.le_of_ble_eq_true rfl) rfl rfl ?_
          refine aw_iconst (n := 9) (v := 0) dX8_smaller_8 (by decide) rfl ?_
          refine aw_istore (n := 11) (L' := [_, _, _, _, _]) dX8_smaller_9 (Nat.le_of_ble_eq_true rfl) rfl rfl ?_
          have u5 : ∀ q, q ≠ 164 → q ≠ 187 → q ≠ 188 → q ≠ 189 → M5 q = M4 q := fun q a b c e => by rw [j5 q a b c e, up2_ra _ _ a]
          refine ih 0 (ct + 1) (s'.1 + 1, upN (upN s'.2.1 5 (s'.2.1 5 + 1)) 6 (s'.2.1 6 + 1), s'.2.2.1, s'.2.2.2.1, inp) M5 (by omega) (by omega) hc1 ⟨?_, fun k hk => ?_, fun k hk => ?_, ?_, fun _ i hi => ⟨?_, ?_⟩⟩ (fV_trans f4 ⟨fun q hq => u5 q (by omega) (by omega) (by omega) (by omega), ?_, ?_⟩) h3 ht' (he.trans (mkS_eq hcd c_63))
          · rw [j2 29 (by decide), up2_k _ _ (by decide)]; exact k29
          · rw [j2 _ (by omega)]
            show _ = upN (upN s'.2.1 5 (s'.2.1 5 + 1)) 6 (s'.2.1 6 + 1) k
            by_cases hk6 : k = 6
            · subst hk6; rw [up2_s, show M4 164 39 = s'.2.1 6 from kt 6 (by decide)]; rfl
            · rw [up2_k _ _ (by omega), kt k hk]; exact (if_neg hk6).symm
          · rw [u5 185 (by decide) (by decide) (by decide) (by decide)]; exact kl k hk
          · rw [j1]; exact h3.symm
          · rw [(j3 i hi).1, up2_a _ _ (by decide), g4.1 180 (by omega)]
            exact ((A4 p hp).1 i hi).trans (ht' i hi)
          · refine kI_same (hI i hi) ?_ (fun j hj => ?_)
            · rw [(j3 i hi).2, up2_a _ _ (by decide), g4.1 171 (by omega), g3 171 (by decide)]
            · rw [j4 _ (by omega), up2_a _ _ (by decide), g4.1 172 (by omega), g3 172 (by decide)]
          · rw [j2 0 (by decide), up2_k _ _ (by decide)]
          · rw [j2 23 (by decide), up2_k _ _ (by decide)]
  refine aw_iconst (n := 1) (v := 1) dX8_smaller_0 (by decide) rfl ?_
  refine aw_istore_n (n := 2) (L' := [_, _, _, _, _]) dX8_smaller_1 (Nat.le_of_ble_eq_true rfl) rfl rfl ?_
  refine aw_iload_n (n := 3) dX8_smaller_2 rfl rfl ?_
  refine aw_if_eq (tg := 130) (n := 6) dX8_smaller_3 (by decide) rfl (fun c_3 => by first | exact absurd rfl c_3 | exact absurd c_3 (by decide)) (fun _ => ?_)
  refine aw_iconst (n := 7) (v := 0) dX8_smaller_6 (by decide) rfl ?_
  refine aw_istore_n (n := 8) (L' := [_, _, _, _, _]) dX8_smaller_7 (Nat.le_of_ble_eq_true rfl) rfl rfl ?_
  refine aw_iconst (n := 9) (v := 0) dX8_smaller_8 (by decide) rfl ?_
  refine aw_istore (n := 11) (L' := [_, _, _, _, _]) dX8_smaller_9 (Nat.le_of_ble_eq_true rfl) rfl rfl ?_
  exact loop 200 0 0 s M (by omega) (by omega) (by rw [h5]; rfl) hS (fV_refl M) hfl hty rfl
end MSML
