def tyV : vV → Int32
  | none => -1
  | some (.inl _) => 0
  | some (.inr _) => 1
/-- a value in number cell a and row cell b -/
def kI (a b : Nat) (v : vV) (i : Nat) (M : aM) : Prop := match v with
  | none => True
  | some (.inl x) => M a i = x
  | some (.inr r) => r.length ≤ 16 ∧ M a i = nI r.length ∧ ∀ j, j < r.length → M b (16 * i + j) = r.getD j 0
theorem kI_same {a b a' b' i : Nat} {v : vV} {M M' : aM} (h : kI a b v i M) (h1 : M' a' i = M a i) (h2 : ∀ j, j < 16 → M' b' (16 * i + j) = M b (16 * i + j)) : kI a' b' v i M' := by
  rcases v with _ | x | r
  · exact trivial
  · exact h1.trans h
  · obtain ⟨g1, g2, g3⟩ := h
    exact ⟨g1, h1.trans g2, fun j hj => (h2 j (by omega)).trans (g3 j hj)⟩
/-- what a case leaves as it was -/
def fT (M M' : aM) : Prop := (∀ q, q < 164 ∨ (165 ≤ q ∧ q ≤ 169) ∨ q = 171 ∨ q = 172 ∨ (180 ≤ q ∧ q ≠ 185) → M' q = M q) ∧ (∀ j, j ≠ 9 → j ≠ 15 → j ≠ 17 → j ≠ 18 → j ≠ 19 → j ≠ 20 → j ≠ 22 → j ≠ 29 → M' 164 j = M 164 j)
theorem fT_refl (M : aM) : fT M M := ⟨fun _ _ => rfl, fun _ _ _ _ _ _ _ _ _ => rfl⟩
theorem lt7 {y : Int32} (h : 7 < y) : 8 ≤ y := by
  have := Int32.lt_iff_toInt_lt.mp h
  have e7 : (7 : Int32).toInt = 7 := by decide
  have e8 : (8 : Int32).toInt = 8 := by decide
  exact Int32.le_iff_toInt_le.mpr (by omega)
theorem lt7' {y : Int32} (h : 8 ≤ y) : 7 < y := by
  have := Int32.le_iff_toInt_le.mp h
  have e7 : (7 : Int32).toInt = 7 := by decide
  have e8 : (8 : Int32).toInt = 8 := by decide
  exact Int32.lt_iff_toInt_lt.mpr (by omega)
theorem isNo_lab {y : Int32} (h : ¬ (y < 0 ∨ 8 ≤ y)) : y = nI y.toNatClampNeg ∧ y.toNatClampNeg < 8 := by
  have h1 : ¬ y < 0 := fun q => h (Or.inl q)
  have h2 : ¬ 8 ≤ y := fun q => h (Or.inr q)
  obtain ⟨n, hn, rfl⟩ := nI_of2 (M := 7) (n := 7) (by decide) h1 (i_nlt.mp (fun q => h2 (lt7 q)))
  rw [nI_clamp (by omega)]
  exact ⟨rfl, by omega⟩
section MOUT2
variable {l : Launch} {K : aK} {d : Nat} {M : aM} {Q : Option Value → aE → aM → Prop}
theorem m_in {v lo hi : Int32} (h0 : (v < lo ∨ hi < v) → Q (some (.int 0)) EE M) (h1 : ¬ v < lo → ¬ hi < v → Q (some (.int 1)) EE M) : aw l K mX8_in d 0 0 0 [.int v, .int lo, .int hi] [] EE M Q := by
  refine aw_iload_n (n := 1) dX8_in_0 rfl rfl ?_
  refine aw_iload_n (n := 2) dX8_in_1 rfl rfl ?_
  refine aw_icmp_lt (tg := 14) (n := 5) dX8_in_2 (by decide) rfl (fun c_2 => ?_) (fun c_2 => ?_)
  · refine aw_iconst (n := 15) (v := 0) dX8_in_14 (by decide) rfl ?_
    refine aw_zret dX8_in_15 rfl (by first | exact Or.inl rfl | exact Or.inr rfl | assumption) ?_
    first
      | exact h0 (Or.inl c_2)
      | exact h0 (Or.inr c_7)
      | exact h1 c_2 c_7
  · refine aw_iload_n (n := 6) dX8_in_5 rfl rfl ?_
    refine aw_iload_n (n := 7) dX8_in_6 rfl rfl ?_
    refine aw_icmp_gt (tg := 14) (n := 10) dX8_in_7 (by decide) rfl (fun c_7 => ?_) (fun c_7 => ?_)
    · refine aw_iconst (n := 15) (v := 0) dX8_in_14 (by decide) rfl ?_
      refine aw_zret dX8_in_15 rfl (by first | exact Or.inl rfl | exact Or.inr rfl | assumption) ?_
      first
        | exact h0 (Or.inl c_2)
        | exact h0 (Or.inr c_7)
        | exact h1 c_2 c_7
    · refine aw_iconst (n := 11) (v := 1) dX8_in_10 (by decide) rfl ?_
      refine aw_goto (n := 15) dX8_in_11 (by decide) ?_
      refine aw_zret dX8_in_15 rfl (by first | exact Or.inl rfl | exact Or.inr rfl | assumption) ?_
      first
        | exact h0 (Or.inl c_2)
        | exact h0 (Or.inr c_7)
        | exact h1 c_2 c_7
theorem m_outc2 {cnt p : Nat} {T : tm} {inp : Nat → vV} {P : pr} {ct : Int32} {x3 : Value} (hd : 12 ≤ d) (hcnt : cnt ≤ 60) (hT : wfT cnt T) (hp : p < 8) (hcT : mT cnt T M) (hcI : mI inp M) (hw : wS 60 M) (hP : mP1 P p M) (hwf : wfP1 cnt P) (hct : ct = 0 ∨ ct = 1)
    (hQ : ∀ M', fL M M' → M' 185 = labOn T inp P ct (M 185) → Q (some (.int (outS T inp (P 3) (P 4) (P 6)).2)) EE M') : aw l K mX8_outcome d 0 0 75 [.ref 164, .int (nI p), .int ct, x3, .null] [] EE M Q := by
  have hin : vp_in (nI p) 8 := vp_in_nI hp (by decide)
  have hpp : (nI p).toNatClampNeg = p := nI_clamp (by omega)
  obtain ⟨-, hw3, hw4, hw5⟩ := hwf
  obtain ⟨-, p3, p4, p5, p6⟩ := hP
  have tail : ∀ (M0 : aM) (r : Nat) (x3 : Value), fG M M0 → wS r M0 → outS T inp (P 3) (P 4) (P 6) = bodS T inp (P 4) (P 6) r → aw l K mX8_outcome d 0 0 132 [.ref 164, .int (nI p), .int ct, x3, .null] [] EE M0 Q := by
    intro M0 r x3 hg hw0 hout
    rw [hout] at hQ
    have hlo : labOn T inp P ct (M 185) = if (bodS T inp (P 4) (P 6) r).2 = 0 ∧ 0 ≤ P 5 ∧ ct = 1 then upN (M 185) (labS T inp (P 5) (bodS T inp (P 4) (P 6) r).1) (M 185 (labS T inp (P 5) (bodS T inp (P 4) (P 6) r).1) + 1) else M 185 := by unfold labOn; rw [hout]
    rw [hlo] at hQ
    refine aw_aload_n (n := 133) dX8_outcome_132 rfl rfl ?_
    refine aw_iload_n (n := 134) dX8_outcome_133 rfl rfl ?_
    refine aw_v1 (d1 := d - 1) (n := 137) (Z := mX8_ended) (ci := 6) (L0 := [_, _, .null]) dX8_outcome_134 kX8_ended gX8_184 iyX8_ended eyX8_ended rfl rfl E_164 rfl (Nat.le_of_ble_eq_true rfl) rfl rfl (by omega) (Nat.le_of_ble_eq_true rfl) (m_ended (P := P) (by omega) hcnt hT hp (fG_T hg hcT) (fG_I hg hcI) hw0 (by rw [hg.1 182 (by omega)]; exact p4) (by rw [hg.1 184 (by omega)]; exact p6) hw4 (fun M1 hw1 hg1 => ?_))
    dsimp only [aPush]
    have hg2 := fG_trans hg hg1
    have l5 : M1 183 p = P 5 := by rw [hg2.1 183 (by omega)]; exact p5
    refine aw_istore_n (n := 138) (L' := [_, _, _, _, _]) dX8_outcome_137 (Nat.le_of_ble_eq_true rfl) rfl rfl ?_
    refine aw_iload_n (n := 139) dX8_outcome_138 rfl rfl ?_
    refine aw_if_ne (tg := 218) (n := 142) dX8_outcome_139 (by decide) rfl (fun c_139 => ?_) (fun c_139 => ?_)
    · refine aw_iload_n (n := 219) dX8_outcome_218 rfl rfl ?_
      refine aw_iret dX8_outcome_219 rfl ?_
      exact hQ M1 (fG_L hg2) (by rw [if_neg (fun q => c_139 q.1)]; exact hg2.1 185 (by omega))
    · refine aw_aload_n (n := 143) dX8_outcome_142 rfl rfl ?_
      refine aw_getr (n := 146) dX8_outcome_143 fX8_64 E_164 rfl rfl ?_
      refine aw_iload_n (n := 147) dX8_outcome_146 rfl rfl ?_
      refine aw_iald (n := 148) dX8_outcome_147 E_183 (by assumption) rfl ?_
      rw [hpp, l5]
      refine aw_if_lt (tg := 218) (n := 151) dX8_outcome_148 (by decide) rfl (fun c_148 => ?_) (fun c_148 => ?_)
      · refine aw_iload_n (n := 219) dX8_outcome_218 rfl rfl ?_
        refine aw_iret dX8_outcome_219 rfl ?_
        exact hQ M1 (fG_L hg2) (by rw [if_neg (fun q => absurd (i_nle.mpr c_148) (fun z => z q.2.1))]; exact hg2.1 185 (by omega))
      · obtain ⟨jl, hjl, hjL⟩ : isNo (P 5) cnt := by
          rcases hw5 with h | h
          · exact absurd (by rw [h]; decide) c_148
          · exact h
        have hjll : (P 5).toNatClampNeg = jl := by rw [hjL]; exact nI_clamp (by omega)
        have hp5 : 0 ≤ P 5 := by rw [hjL]; exact nI_pos' (by omega)
        obtain ⟨rb, hrb⟩ : ∃ rb, rb = (bodS T inp (P 4) (P 6) r).1 := ⟨_, rfl⟩
        rw [← hrb] at hQ hw1
        have hlab : labS T inp (P 5) rb = if lkR (ev T inp 61 rb jl).2 ≠ 0 then 8 else if vwR (ev T inp 61 rb jl).2 < 0 ∨ 8 ≤ vwR (ev T inp 61 rb jl).2 then 8 else (vwR (ev T inp 61 rb jl).2).toNatClampNeg := by
          rw [← hjll]; rfl
        -- the end, by the label's number
        have fin : ∀ (M2 : aM) (ix : Nat), fG M1 M2 → labS T inp (P 5) rb = ix → Q (some (.int (bodS T inp (P 4) (P 6) r).2)) EE (if ct = 1 then up2 M2 185 ix (M2 185 ix + 1) else M2) := by
          intro M2 ix hg3 hix
          have hg4 := fG_trans hg2 hg3
          have e185 : M2 185 = M 185 := hg4.1 185 (by omega)
          rcases hct with rfl | rfl
          · rw [if_neg (by decide)]
            refine hQ M2 (fG_L hg4) ?_
            rw [if_neg (fun q => absurd q.2.2 (by decide))]; exact e185
          · rw [if_pos rfl]
            refine hQ _ ⟨fun q hq => by rw [up2_ra _ _ (by omega)]; exact (fG_L hg4).1 q hq, fun q a b c e f g i => by rw [up2_a _ _ (by decide)]; exact (fG_L hg4).2 q a b c e f g i⟩ ?_
            rw [if_pos ⟨c_139, hp5, rfl⟩, up2_upN, e185, hix]
        refine aw_aload_n (n := 152) dX8_outcome_151 rfl rfl ?_
        refine aw_aload_n (n := 153) dX8_outcome_152 rfl rfl ?_
        refine aw_getr (n := 156) dX8_outcome_153 fX8_64 E_164 rfl rfl ?_
        refine aw_iload_n (n := 157) dX8_outcome_156 rfl rfl ?_
        refine aw_iald (n := 158) dX8_outcome_157 E_183 (by assumption) rfl ?_
        rw [hpp, l5, hjL]
        refine aw_v1 (d1 := d - 1) (n := 161) (Z := mX8_work) (ci := 6) (L0 := [_, _, .null, .null, .null, .null]) dX8_outcome_158 kX8_work gX8_181 iyX8_work eyX8_work rfl rfl E_164 rfl (Nat.le_of_ble_eq_true rfl) rfl rfl (by omega) (Nat.le_of_ble_eq_true rfl) (m_work (by omega) hcnt hT hjl (fG_T hg2 hcT) (fG_I hg2 hcI) hw1 (fun k r1 M2 hev hk h20 g3 gf => ?_) (fun v r1 mk1 M2 hev g3 hrv gf => ?_))
        · dsimp only [aPush]
          refine aw_if_eq (tg := 188) (n := 164) dX8_outcome_161 (by decide) rfl (fun c_161 => ?_) (fun c_161 => by exact absurd rfl c_161)
          refine aw_iconst (n := 189) (v := 0) dX8_outcome_188 (by decide) rfl ?_
          refine aw_istore (n := 191) (L' := [_, _, _, _, _]) dX8_outcome_189 (Nat.le_of_ble_eq_true rfl) rfl rfl ?_
          refine m_labEnd hct (fun _ => rfl) (fun q => absurd rfl q) (fin M2 8 gf ?_)
          rw [hlab, hev, if_pos (show lkR (Sum.inl k : Nat ⊕ vV) ≠ 0 by have := hk.1; show k ≠ 0; omega)]
        · dsimp only [aPush]
          refine aw_if_eq (tg := 188) (n := 164) dX8_outcome_161 (by decide) rfl (fun c_161 => by exact absurd c_161 (by decide)) (fun c_161 => ?_)
          rcases v with _ | y | s
          · have k17 : M2 164 17 = 2 := hrv
            refine aw_aload_n (n := 165) dX8_outcome_164 rfl rfl ?_
            refine aw_geti (n := 168) dX8_outcome_165 fX8_128 E_164 rfl rfl ?_
            rw [k17]
            refine aw_if_ne (tg := 188) (n := 171) dX8_outcome_168 (by decide) rfl (fun _ => ?_) (fun c_168 => by first | exact absurd rfl c_168 | exact absurd c_168 (by decide))
            refine aw_iconst (n := 189) (v := 0) dX8_outcome_188 (by decide) rfl ?_
            refine aw_istore (n := 191) (L' := [_, _, _, _, _]) dX8_outcome_189 (Nat.le_of_ble_eq_true rfl) rfl rfl ?_
            refine m_labEnd hct (fun _ => rfl) (fun q => absurd rfl q) (fin M2 8 gf ?_)
            rw [hlab, hev]; rfl
          · obtain ⟨k17, k18⟩ := hrv
            have hl2 : labS T inp (P 5) rb = if y < 0 ∨ 8 ≤ y then 8 else y.toNatClampNeg := by rw [hlab, hev]; rfl
            refine aw_aload_n (n := 165) dX8_outcome_164 rfl rfl ?_
            refine aw_geti (n := 168) dX8_outcome_165 fX8_128 E_164 rfl rfl ?_
            rw [k17]
            refine aw_if_ne (tg := 188) (n := 171) dX8_outcome_168 (by decide) rfl (fun c_168 => by first | exact absurd rfl c_168 | exact absurd c_168 (by decide)) (fun _ => ?_)
            refine aw_aload_n (n := 172) dX8_outcome_171 rfl rfl ?_
            refine aw_geti (n := 175) dX8_outcome_172 fX8_131 E_164 rfl rfl ?_
            rw [k18]
            refine aw_iconst (n := 176) (v := 0) dX8_outcome_175 (by decide) rfl ?_
            refine aw_bipush (n := 178) (v := 7) dX8_outcome_176 (by decide) rfl ?_
            refine aw_s3 (d1 := d - 1) (n := 181) (Z := mX8_in) (L0 := [_, _, _]) dX8_outcome_178 kX8_in gX8_95 syX8_in rfl rfl rfl (Nat.le_of_ble_eq_true rfl) rfl rfl (by omega) (Nat.le_of_ble_eq_true rfl) (m_in (fun hb => ?_) (fun hb1 hb2 => ?_))
            · dsimp only [aPush]
              refine aw_if_eq (tg := 188) (n := 184) dX8_outcome_181 (by decide) rfl (fun c_181 => ?_) (fun c_181 => by exact absurd rfl c_181)
              refine aw_iconst (n := 189) (v := 0) dX8_outcome_188 (by decide) rfl ?_
              refine aw_istore (n := 191) (L' := [_, _, _, _, _]) dX8_outcome_189 (Nat.le_of_ble_eq_true rfl) rfl rfl ?_
              refine m_labEnd hct (fun _ => rfl) (fun q => absurd rfl q) (fin M2 8 gf ?_)
              rw [hl2]
              exact if_pos (hb.imp_right (fun q => lt7 q))
            · dsimp only [aPush]
              refine aw_if_eq (tg := 188) (n := 184) dX8_outcome_181 (by decide) rfl (fun c_181 => by exact absurd c_181 (by decide)) (fun c_181 => ?_)
              refine aw_iconst (n := 185) (v := 1) dX8_outcome_184 (by decide) rfl ?_
              refine aw_goto (n := 189) dX8_outcome_185 (by decide) ?_
              refine aw_istore (n := 191) (L' := [_, _, _, _, _]) dX8_outcome_189 (Nat.le_of_ble_eq_true rfl) rfl rfl ?_
              have hn : ¬ (y < 0 ∨ 8 ≤ y) := fun q => q.elim hb1 (fun q => hb2 (lt7' q))
              refine m_labEnd hct (fun q => absurd q (by decide)) (fun _ => ⟨k18.trans (isNo_lab hn).1, (isNo_lab hn).2⟩) (fin M2 _ gf ?_)
              rw [hl2, if_neg hn]
          · have k17 : M2 164 17 = 1 := hrv.1
            refine aw_aload_n (n := 165) dX8_outcome_164 rfl rfl ?_
            refine aw_geti (n := 168) dX8_outcome_165 fX8_128 E_164 rfl rfl ?_
            rw [k17]
            refine aw_if_ne (tg := 188) (n := 171) dX8_outcome_168 (by decide) rfl (fun _ => ?_) (fun c_168 => by first | exact absurd rfl c_168 | exact absurd c_168 (by decide))
            refine aw_iconst (n := 189) (v := 0) dX8_outcome_188 (by decide) rfl ?_
            refine aw_istore (n := 191) (L' := [_, _, _, _, _]) dX8_outcome_189 (Nat.le_of_ble_eq_true rfl) rfl rfl ?_
            refine m_labEnd hct (fun _ => rfl) (fun q => absurd rfl q) (fin M2 8 gf ?_)
            rw [hlab, hev, if_pos (show lkR (Sum.inr (some (.inr s)) : Nat ⊕ vV) ≠ 0 by simp [lkR, lk, lk0])]
  rcases hw3 with hc | ⟨jc, hjc, hjC⟩
  · have hout : outS T inp (P 3) (P 4) (P 6) = bodS T inp (P 4) (P 6) 60 := if_pos (by rw [hc]; decide)
    refine aw_aload_n (n := 76) dX8_outcome_75 rfl rfl ?_
    refine aw_getr (n := 79) dX8_outcome_76 fX8_58 E_164 rfl rfl ?_
    refine aw_iload_n (n := 80) dX8_outcome_79 rfl rfl ?_
    refine aw_iald (n := 81) dX8_outcome_80 E_181 (by assumption) rfl ?_
    rw [hpp, p3]
    refine aw_if_lt (tg := 132) (n := 84) dX8_outcome_81 (by decide) rfl (fun c_81 => ?_) (fun c_81 => by exact absurd (by rw [hc]; decide) c_81)
    exact tail M 60 _ (fG_refl M) hw hout
  · have hjcc : (P 3).toNatClampNeg = jc := by rw [hjC]; exact nI_clamp (by omega)
    have hcn : ¬ P 3 < 0 := by rw [hjC]; exact nI_pos (by omega)
    have hout : outS T inp (P 3) (P 4) (P 6) = if lkR (ev T inp 61 60 jc).2 ≠ 0 then ((ev T inp 61 60 jc).1, nI (lkR (ev T inp 61 60 jc).2)) else if vwR (ev T inp 61 60 jc).2 = 0 then ((ev T inp 61 60 jc).1, -1) else bodS T inp (P 4) (P 6) (ev T inp 61 60 jc).1 := by
      rw [← hjcc]; exact if_neg hcn
    have hlo : ∀ o, (outS T inp (P 3) (P 4) (P 6)).2 = o → o ≠ 0 → ∀ M1, fG M M1 → Q (some (.int o)) EE M1 := by
      intro o ho hz M1 hg
      rw [← ho]
      refine hQ M1 (fG_L hg) ?_
      unfold labOn
      rw [if_neg (fun q => hz (ho.symm.trans q.1))]
      exact hg.1 185 (by omega)
    refine aw_aload_n (n := 76) dX8_outcome_75 rfl rfl ?_
    refine aw_getr (n := 79) dX8_outcome_76 fX8_58 E_164 rfl rfl ?_
    refine aw_iload_n (n := 80) dX8_outcome_79 rfl rfl ?_
    refine aw_iald (n := 81) dX8_outcome_80 E_181 (by assumption) rfl ?_
    rw [hpp, p3]
    refine aw_if_lt (tg := 132) (n := 84) dX8_outcome_81 (by decide) rfl (fun c_81 => by exact absurd c_81 hcn) (fun c_81 => ?_)
    refine aw_aload_n (n := 85) dX8_outcome_84 rfl rfl ?_
    refine aw_aload_n (n := 86) dX8_outcome_85 rfl rfl ?_
    refine aw_getr (n := 89) dX8_outcome_86 fX8_58 E_164 rfl rfl ?_
    refine aw_iload_n (n := 90) dX8_outcome_89 rfl rfl ?_
    refine aw_iald (n := 91) dX8_outcome_90 E_181 (by assumption) rfl ?_
    rw [hpp, p3, hjC]
    refine aw_v1 (d1 := d - 1) (n := 94) (Z := mX8_work) (ci := 6) (L0 := [_, _, .null, .null, .null, .null]) dX8_outcome_91 kX8_work gX8_181 iyX8_work eyX8_work rfl rfl E_164 rfl (Nat.le_of_ble_eq_true rfl) rfl rfl (by omega) (Nat.le_of_ble_eq_true rfl) (m_work (by omega) hcnt hT hjc hcT hcI hw (fun k r1 M1 hev hk h20 g3 gf => ?_) (fun v r1 mk1 M1 hev g3 hrv gf => ?_))
    · dsimp only [aPush]
      refine aw_if_ne (tg := 102) (n := 97) dX8_outcome_94 (by decide) rfl (fun c_94 => by exact absurd rfl c_94) (fun c_94 => ?_)
      refine aw_aload_n (n := 98) dX8_outcome_97 rfl rfl ?_
      refine aw_geti (n := 101) dX8_outcome_98 fX8_110 E_164 rfl rfl ?_
      rw [h20]
      refine aw_iret dX8_outcome_101 rfl ?_
      refine hlo (nI k) ?_ (nI_ne0 hk.1 (by omega)) M1 gf
      rw [hout, hev, if_pos (show lkR (Sum.inl k : Nat ⊕ vV) ≠ 0 by have := hk.1; show k ≠ 0; omega)]
      rfl
    · dsimp only [aPush]
      refine aw_if_ne (tg := 102) (n := 97) dX8_outcome_94 (by decide) rfl (fun c_94 => ?_) (fun c_94 => by exact absurd c_94 (by decide))
      rcases v with _ | y | s
      · have k17 : M1 164 17 = 2 := hrv
        refine aw_aload_n (n := 103) dX8_outcome_102 rfl rfl ?_
        refine aw_geti (n := 106) dX8_outcome_103 fX8_128 E_164 rfl rfl ?_
        rw [k17]
        refine aw_if_eq (tg := 123) (n := 109) dX8_outcome_106 (by decide) rfl (fun c_106 => by first | exact absurd rfl c_106 | exact absurd c_106 (by decide)) (fun _ => ?_)
        refine aw_aload_n (n := 110) dX8_outcome_109 rfl rfl ?_
        refine aw_geti (n := 113) dX8_outcome_110 fX8_128 E_164 rfl rfl ?_
        rw [k17]
        refine aw_iconst (n := 114) (v := 1) dX8_outcome_113 (by decide) rfl ?_
        refine aw_icmp_ne (tg := 121) (n := 117) dX8_outcome_114 (by decide) rfl (fun _ => ?_) (fun c_114 => by first | exact absurd rfl c_114 | exact absurd c_114 (by decide))
        refine aw_iconst (n := 122) (v := 1) dX8_outcome_121 (by decide) rfl ?_
        refine aw_iret dX8_outcome_122 rfl ?_
        refine hlo 1 ?_ (by decide) M1 gf
        rw [hout, hev]; rfl
      · obtain ⟨k17, k18⟩ := hrv
        have hout : outS T inp (P 3) (P 4) (P 6) = if y = 0 then (r1, -1) else bodS T inp (P 4) (P 6) r1 := by rw [hout, hev]; rfl
        refine aw_aload_n (n := 103) dX8_outcome_102 rfl rfl ?_
        refine aw_geti (n := 106) dX8_outcome_103 fX8_128 E_164 rfl rfl ?_
        rw [k17]
        refine aw_if_eq (tg := 123) (n := 109) dX8_outcome_106 (by decide) rfl (fun _ => ?_) (fun c_106 => by first | exact absurd rfl c_106 | exact absurd c_106 (by decide))
        refine aw_aload_n (n := 124) dX8_outcome_123 rfl rfl ?_
        refine aw_geti (n := 127) dX8_outcome_124 fX8_131 E_164 rfl rfl ?_
        rw [k18]
        refine aw_if_ne (tg := 132) (n := 130) dX8_outcome_127 (by decide) rfl (fun c_127 => ?_) (fun c_127 => ?_)
        · exact tail M1 r1 _ gf g3 (by rw [hout, if_neg c_127])
        · refine aw_iconst (n := 131) (v := -1) dX8_outcome_130 (by decide) rfl ?_
          refine aw_iret dX8_outcome_131 rfl ?_
          refine hlo (-1) ?_ (by decide) M1 gf
          rw [hout, if_pos c_127]
      · have k17 : M1 164 17 = 1 := hrv.1
        refine aw_aload_n (n := 103) dX8_outcome_102 rfl rfl ?_
        refine aw_geti (n := 106) dX8_outcome_103 fX8_128 E_164 rfl rfl ?_
        rw [k17]
        refine aw_if_eq (tg := 123) (n := 109) dX8_outcome_106 (by decide) rfl (fun c_106 => by first | exact absurd rfl c_106 | exact absurd c_106 (by decide)) (fun _ => ?_)
        refine aw_aload_n (n := 110) dX8_outcome_109 rfl rfl ?_
        refine aw_geti (n := 113) dX8_outcome_110 fX8_128 E_164 rfl rfl ?_
        rw [k17]
        refine aw_iconst (n := 114) (v := 1) dX8_outcome_113 (by decide) rfl ?_
        refine aw_icmp_ne (tg := 121) (n := 117) dX8_outcome_114 (by decide) rfl (fun c_114 => by first | exact absurd rfl c_114 | exact absurd c_114 (by decide)) (fun _ => ?_)
        refine aw_iconst (n := 118) (v := 4) dX8_outcome_117 (by decide) rfl ?_
        refine aw_goto (n := 122) dX8_outcome_118 (by decide) ?_
        refine aw_iret dX8_outcome_122 rfl ?_
        refine hlo 4 ?_ (by decide) M1 gf
        rw [hout, hev, if_pos (show lkR (Sum.inr (some (.inr s)) : Nat ⊕ vV) ≠ 0 by simp [lkR, lk, lk0])]
        rfl
end MOUT2
