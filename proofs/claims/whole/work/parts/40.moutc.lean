theorem up2_upN (M : aM) (a k : Nat) (x : Int32) : up2 M a k x a = upN (M a) k x := by
  funext j
  unfold upN
  by_cases h : j = k
  · subst h; rw [up2_s, if_pos rfl]
  · rw [up2_k _ _ h, if_neg h]
/-- a property, in the reference's cells -/
def mP1 (P : pr) (p : Nat) (M : aM) : Prop := (∀ i, i < 3 → M 180 (3 * p + i) = P i) ∧ M 181 p = P 3 ∧ M 182 p = P 4 ∧ M 183 p = P 5 ∧ M 184 p = P 6
/-- what the work of a case leaves as it was -/
def fL (M M' : aM) : Prop := (∀ q, q < 164 ∨ (165 ≤ q ∧ q ≤ 172) ∨ (180 ≤ q ∧ q ≠ 185) → M' q = M q) ∧ (∀ j, j ≠ 9 → j ≠ 15 → j ≠ 17 → j ≠ 18 → j ≠ 19 → j ≠ 20 → j ≠ 22 → M' 164 j = M 164 j)
theorem fG_L {M M' : aM} (h : fG M M') : fL M M' := ⟨fun q hq => h.1 q (by omega), h.2.1⟩
def labOn (T : tm) (inp : Nat → vV) (P : pr) (ct : Int32) (L : Nat → Int32) : Nat → Int32 := if (outS T inp (P 3) (P 4) (P 6)).2 = 0 ∧ 0 ≤ P 5 ∧ ct = 1 then upN L (labS T inp (P 5) (outS T inp (P 3) (P 4) (P 6)).1) (L (labS T inp (P 5) (outS T inp (P 3) (P 4) (P 6)).1) + 1) else L
section MOUTC
variable {l : Launch} {K : aK} {d : Nat} {M : aM} {Q : Option Value → aE → aM → Prop}
theorem m_exT {k : Nat} {x1 x2 x3 x4 x5 : Value} (hk : 1 ≤ k ∧ k ≤ 7) (h20 : M 164 20 = nI k) (hQ : Q (some (.int 0)) EE M) : aw l K mX8_work d 0 0 15 [.ref 164, x1, x2, x3, x4, x5] [] EE M Q := by
  have hn : ¬ nI k = 0 := nI_ne0 hk.1 (by omega)
  refine aw_aload_n (n := 16) dX8_work_15 rfl rfl ?_
  refine aw_geti (n := 19) dX8_work_16 fX8_113 E_164 rfl rfl ?_
  refine aw_if_le (tg := 172) (n := 22) dX8_work_19 (by decide) rfl (fun c_19 => ?_) (fun c_19 => ?_)
  · refine aw_aload_n (n := 173) dX8_work_172 rfl rfl ?_
    refine aw_geti (n := 176) dX8_work_173 fX8_110 E_164 rfl rfl ?_
    rw [h20]
    refine aw_if_ne (tg := 183) (n := 179) dX8_work_176 (by decide) rfl (fun c_176 => ?_) (fun c_176 => by exact absurd c_176 hn)
    refine aw_iconst (n := 184) (v := 0) dX8_work_183 (by decide) rfl ?_
    refine aw_zret dX8_work_184 rfl (by first | exact Or.inl rfl | exact Or.inr rfl | assumption) ?_
    exact hQ
  · refine aw_aload_n (n := 23) dX8_work_22 rfl rfl ?_
    refine aw_geti (n := 26) dX8_work_23 fX8_110 E_164 rfl rfl ?_
    rw [h20]
    refine aw_if_ne (tg := 172) (n := 29) dX8_work_26 (by decide) rfl (fun c_26 => ?_) (fun c_26 => by exact absurd c_26 hn)
    refine aw_aload_n (n := 173) dX8_work_172 rfl rfl ?_
    refine aw_geti (n := 176) dX8_work_173 fX8_110 E_164 rfl rfl ?_
    rw [h20]
    refine aw_if_ne (tg := 183) (n := 179) dX8_work_176 (by decide) rfl (fun c_176 => ?_) (fun c_176 => by exact absurd c_176 hn)
    refine aw_iconst (n := 184) (v := 0) dX8_work_183 (by decide) rfl ?_
    refine aw_zret dX8_work_184 rfl (by first | exact Or.inl rfl | exact Or.inr rfl | assumption) ?_
    exact hQ
theorem m_exV {x1 x2 x3 x4 x5 : Value} (h15 : M 164 15 = 0) (h20 : M 164 20 = 0) (hQ : Q (some (.int 1)) EE M) : aw l K mX8_work d 0 0 15 [.ref 164, x1, x2, x3, x4, x5] [] EE M Q := by
  refine aw_aload_n (n := 16) dX8_work_15 rfl rfl ?_
  refine aw_geti (n := 19) dX8_work_16 fX8_113 E_164 rfl rfl ?_
  rw [h15]
  refine aw_if_le (tg := 172) (n := 22) dX8_work_19 (by decide) rfl (fun c_19 => ?_) (fun c_19 => by exact absurd (by decide) c_19)
  refine aw_aload_n (n := 173) dX8_work_172 rfl rfl ?_
  refine aw_geti (n := 176) dX8_work_173 fX8_110 E_164 rfl rfl ?_
  rw [h20]
  refine aw_if_ne (tg := 183) (n := 179) dX8_work_176 (by decide) rfl (fun c_176 => by exact absurd rfl c_176) (fun c_176 => ?_)
  refine aw_iconst (n := 180) (v := 1) dX8_work_179 (by decide) rfl ?_
  refine aw_goto (n := 184) dX8_work_180 (by decide) ?_
  refine aw_zret dX8_work_184 rfl (by first | exact Or.inl rfl | exact Or.inr rfl | assumption) ?_
  exact hQ
theorem m_work {cnt t r : Nat} {T : tm} {inp : Nat → vV} (hd : 10 ≤ d) (hcnt : cnt ≤ 60) (hT : wfT cnt T) (ht : t < cnt) (hcT : mT cnt T M) (hcI : mI inp M) (hw : wS r M)
    (h1 : ∀ k r' M', ev T inp 61 r t = (r', .inl k) → 1 ≤ k ∧ k ≤ 7 → M' 164 20 = nI k → wS r' M' → fG M M' → Q (some (.int 0)) EE M')
    (h2 : ∀ v r' mk' M', ev T inp 61 r t = (r', .inr v) → wS r' M' → rV M' mk' v → fG M M' → Q (some (.int 1)) EE M') : aw l K mX8_work d 0 0 0 [.ref 164, .int (nI t), .null, .null, .null, .null] [] EE M Q := by
  obtain ⟨w9, w60, mk, w22, wmk⟩ := hw
  cases r with
  | zero =>
    have hg : fG M (up2 (up2 (up2 M 164 15 0) 164 20 0) 164 20 7) := ⟨fun q hq => by rw [up2_ra _ _ (by omega), up2_ra _ _ (by omega), up2_ra _ _ (by omega)], fun q a b c e f g i => by rw [up2_k _ _ g, up2_k _ _ g, up2_k _ _ b], fun q hq => by rw [up2_a _ _ (by decide), up2_a _ _ (by decide), up2_a _ _ (by decide)]⟩
    refine aw_aload_n (n := 1) dX8_work_0 rfl rfl ?_
    refine aw_iconst (n := 2) (v := 0) dX8_work_1 (by decide) rfl ?_
    refine aw_puti (n := 5) dX8_work_2 pX8_113 E_164 rfl rfl ?_
    refine aw_aload_n (n := 6) dX8_work_5 rfl rfl ?_
    refine aw_iconst (n := 7) (v := 0) dX8_work_6 (by decide) rfl ?_
    refine aw_puti (n := 10) dX8_work_7 pX8_110 E_164 rfl rfl ?_
    refine aw_aload_n (n := 11) dX8_work_10 rfl rfl ?_
    refine aw_iload_n (n := 12) dX8_work_11 rfl rfl ?_
    refine aw_v1 (d1 := d - 1) (n := 15) (Z := mX8_begin) (ci := 6) (L0 := [_, _]) dX8_work_12 kX8_begin gX8_116 iyX8_begin eyX8_begin rfl rfl E_164 rfl (Nat.le_of_ble_eq_true rfl) rfl rfl (by omega) (Nat.le_of_ble_eq_true rfl) ?_
    refine aw_aload_n (n := 1) dX8_begin_0 rfl rfl ?_
    refine aw_geti (n := 4) dX8_begin_1 fX8_107 E_164 rfl rfl ?_
    rw [up2_k _ _ (by decide), up2_k _ _ (by decide), w9]
    refine aw_bipush (n := 6) (v := 60) dX8_begin_4 (by decide) rfl ?_
    refine aw_icmp_ne (tg := 16) (n := 9) dX8_begin_6 (by decide) rfl (fun c_6 => by exact absurd rfl c_6) (fun c_6 => ?_)
    refine aw_aload_n (n := 10) dX8_begin_9 rfl rfl ?_
    refine aw_bipush (n := 12) (v := 7) dX8_begin_10 (by decide) rfl ?_
    refine aw_puti (n := 15) dX8_begin_12 pX8_110 E_164 rfl rfl ?_
    refine aw_vret dX8_begin_15 rfl ?_
    dsimp only [aPush]
    refine m_exT (k := 7) (by decide) (by rw [up2_s]; rfl) ?_
    exact h1 7 0 _ (ev_r0 _ _ _ _) (by decide) (by rw [up2_s]; rfl) ⟨by rw [up2_k _ _ (by decide), up2_k _ _ (by decide), up2_k _ _ (by decide)]; exact w9, by decide, mk, by rw [up2_k _ _ (by decide), up2_k _ _ (by decide), up2_k _ _ (by decide)]; exact w22, by omega⟩ hg
  | succ r0 =>
    have h00 : (0 : Int32).toNatClampNeg = 0 := by decide
    have hin0 : vp_in (0 : Int32) 61 := vp_in_nI (n := 0) (by decide) (by decide)
    have hne : ¬ nI (60 - (r0 + 1)) = 60 := fun q => absurd ((nI_eq (b := 60) (by omega) (by omega)).mp q) (by omega)
    refine aw_aload_n (n := 1) dX8_work_0 rfl rfl ?_
    refine aw_iconst (n := 2) (v := 0) dX8_work_1 (by decide) rfl ?_
    refine aw_puti (n := 5) dX8_work_2 pX8_113 E_164 rfl rfl ?_
    refine aw_aload_n (n := 6) dX8_work_5 rfl rfl ?_
    refine aw_iconst (n := 7) (v := 0) dX8_work_6 (by decide) rfl ?_
    refine aw_puti (n := 10) dX8_work_7 pX8_110 E_164 rfl rfl ?_
    refine aw_aload_n (n := 11) dX8_work_10 rfl rfl ?_
    refine aw_iload_n (n := 12) dX8_work_11 rfl rfl ?_
    refine aw_v1 (d1 := d - 1) (n := 15) (Z := mX8_begin) (ci := 6) (L0 := [_, _]) dX8_work_12 kX8_begin gX8_116 iyX8_begin eyX8_begin rfl rfl E_164 rfl (Nat.le_of_ble_eq_true rfl) rfl rfl (by omega) (Nat.le_of_ble_eq_true rfl) ?_
    refine aw_aload_n (n := 1) dX8_begin_0 rfl rfl ?_
    refine aw_geti (n := 4) dX8_begin_1 fX8_107 E_164 rfl rfl ?_
    rw [up2_k _ _ (by decide), up2_k _ _ (by decide), w9]
    refine aw_bipush (n := 6) (v := 60) dX8_begin_4 (by decide) rfl ?_
    refine aw_icmp_ne (tg := 16) (n := 9) dX8_begin_6 (by decide) rfl (fun c_6 => ?_) (fun c_6 => by exact absurd c_6 hne)
    refine aw_aload_n (n := 17) dX8_begin_16 rfl rfl ?_
    refine aw_dup (n := 18) dX8_begin_17 rfl rfl ?_
    refine aw_geti (n := 21) dX8_begin_18 fX8_107 E_164 rfl rfl ?_
    rw [up2_k _ _ (by decide), up2_k _ _ (by decide), w9]
    refine aw_iconst (n := 22) (v := 1) dX8_begin_21 (by decide) rfl ?_
    refine aw_iadd (n := 23) dX8_begin_22 rfl ?_
    refine aw_puti (n := 26) dX8_begin_23 pX8_107 E_164 rfl rfl ?_
    refine aw_aload_n (n := 27) dX8_begin_26 rfl rfl ?_
    refine aw_getr (n := 30) dX8_begin_27 fX8_34 E_164 rfl rfl ?_
    refine aw_aload_n (n := 31) dX8_begin_30 rfl rfl ?_
    refine aw_geti (n := 34) dX8_begin_31 fX8_113 E_164 rfl rfl ?_
    rw [up2_k _ _ (by decide), up2_k _ _ (by decide), up2_s]
    refine aw_iload_n (n := 35) dX8_begin_34 rfl rfl ?_
    refine aw_iast (n := 36) dX8_begin_35 E_173 (by assumption) rfl ?_
    refine aw_aload_n (n := 37) dX8_begin_36 rfl rfl ?_
    refine aw_getr (n := 40) dX8_begin_37 fX8_37 E_164 rfl rfl ?_
    refine aw_aload_n (n := 41) dX8_begin_40 rfl rfl ?_
    refine aw_geti (n := 44) dX8_begin_41 fX8_113 E_164 rfl rfl ?_
    rw [h00, up2_a _ _ (by decide), up2_k _ _ (by decide), up2_k _ _ (by decide), up2_s]
    refine aw_iconst (n := 45) (v := 0) dX8_begin_44 (by decide) rfl ?_
    refine aw_iast (n := 46) dX8_begin_45 E_174 (by assumption) rfl ?_
    refine aw_aload_n (n := 47) dX8_begin_46 rfl rfl ?_
    refine aw_dup (n := 48) dX8_begin_47 rfl rfl ?_
    refine aw_geti (n := 51) dX8_begin_48 fX8_113 E_164 rfl rfl ?_
    rw [h00, up2_a _ _ (by decide), up2_a _ _ (by decide), up2_k _ _ (by decide), up2_k _ _ (by decide), up2_s]
    refine aw_iconst (n := 52) (v := 1) dX8_begin_51 (by decide) rfl ?_
    refine aw_iadd (n := 53) dX8_begin_52 rfl ?_
    refine aw_puti (n := 56) dX8_begin_53 pX8_113 E_164 rfl rfl ?_
    refine aw_vret dX8_begin_56 rfl ?_
    dsimp only [aPush]
    rw [nI_1]
    obtain ⟨M1, hM1⟩ : ∃ M1, M1 = up2 (up2 (up2 (up2 (up2 (up2 M 164 15 0) 164 20 0) 164 9 (nI (60 - (r0 + 1) + 1))) 173 0 (nI t)) 174 0 0) 164 15 (0 + 1) := ⟨_, rfl⟩
    rw [← hM1]
    have hg : fG M M1 := by
      rw [hM1]
      exact ⟨fun q hq => by rw [up2_ra _ _ (by omega), up2_ra _ _ (by omega), up2_ra _ _ (by omega), up2_ra _ _ (by omega), up2_ra _ _ (by omega), up2_ra _ _ (by omega)], fun q a b c e f g i => by rw [up2_k _ _ b, up2_a _ _ (by decide), up2_a _ _ (by decide), up2_k _ _ a, up2_k _ _ g, up2_k _ _ b], fun q hq => by rw [up2_a _ _ (by decide), up2_a _ _ (by decide), up2_a _ _ (by decide), up2_a _ _ (by decide), up2_a _ _ (by decide), up2_a _ _ (by decide)]⟩
    refine m_eval hcnt hT 61 0 r0 t mk 0 d M1 Q _ _ _ _ _ (by omega) ht (by omega) ⟨⟨?_, ?_, ?_, ?_, by omega, by omega, by omega⟩, ?_, ?_, fG_T hg hcT, fG_I hg hcI⟩ (fun q => absurd q (by decide)) (fun k r' M' x2 x3 x4 x5 hev hk h20 hw' hg' => m_exT hk h20 (h1 k r' M' hev hk h20 hw' (fG_trans hg hg'))) (fun v r' mk' M' x2 x3 x4 x5 hev hL hm hf hrv _ => m_exV hL.1 hL.2.1 (h2 v r' mk' M' hev ⟨hL.2.2.1, hL.2.2.2.2.1, mk', hL.2.2.2.1, by have := hL.2.2.2.2.2.1; omega⟩ hrv (fG_trans hg hf.1)))
    · rw [hM1, up2_s]; rfl
    · rw [hM1, up2_k _ _ (by decide), up2_a _ _ (by decide), up2_a _ _ (by decide), up2_k _ _ (by decide), up2_s]
    · rw [hM1, up2_k _ _ (by decide), up2_a _ _ (by decide), up2_a _ _ (by decide), up2_s]; congr 1; omega
    · rw [hM1, up2_k _ _ (by decide), up2_a _ _ (by decide), up2_a _ _ (by decide), up2_k _ _ (by decide), up2_k _ _ (by decide), up2_k _ _ (by decide)]; exact w22
    · rw [hM1, up2_a _ _ (by decide), up2_a _ _ (by decide), up2_s]
    · rw [hM1, up2_a _ _ (by decide), up2_s]; rfl
theorem m_ended {cnt p r : Nat} {T : tm} {inp : Nat → vV} {P : pr} (hd : 11 ≤ d) (hcnt : cnt ≤ 60) (hT : wfT cnt T) (hp : p < 8) (hcT : mT cnt T M) (hcI : mI inp M) (hw : wS r M) (hb : M 182 p = P 4) (hx : M 184 p = P 6) (hB : isNo (P 4) cnt)
    (hQ : ∀ M', wS (bodS T inp (P 4) (P 6) r).1 M' → fG M M' → Q (some (.int (bodS T inp (P 4) (P 6) r).2)) EE M') : aw l K mX8_ended d 0 0 0 [.ref 164, .int (nI p), .null] [] EE M Q := by
  obtain ⟨jb, hjb, hjB⟩ := hB
  have hjbb : (P 4).toNatClampNeg = jb := by rw [hjB]; exact nI_clamp (by omega)
  have hin : vp_in (nI p) 8 := vp_in_nI hp (by decide)
  have hpp : (nI p).toNatClampNeg = p := nI_clamp (by omega)
  have hbod : bodS T inp (P 4) (P 6) r = ((ev T inp 61 r jb).1, if lkR (ev T inp 61 r jb).2 ≠ 0 then (if nI (lkR (ev T inp 61 r jb).2) = P 6 then 0 else nI (lkR (ev T inp 61 r jb).2)) else if P 6 = 0 then (if vwR (ev T inp 61 r jb).2 = 0 then 9 else 0) else 8) := by unfold bodS; rw [hjbb]
  rw [hbod] at hQ
  refine aw_aload_n (n := 1) dX8_ended_0 rfl rfl ?_
  refine aw_aload_n (n := 2) dX8_ended_1 rfl rfl ?_
  refine aw_getr (n := 5) dX8_ended_2 fX8_61 E_164 rfl rfl ?_
  refine aw_iload_n (n := 6) dX8_ended_5 rfl rfl ?_
  refine aw_iald (n := 7) dX8_ended_6 E_182 (by assumption) rfl ?_
  rw [hpp, hb, hjB]
  refine aw_v1 (d1 := d - 1) (n := 10) (Z := mX8_work) (ci := 6) (L0 := [_, _, .null, .null, .null, .null]) dX8_ended_7 kX8_work gX8_181 iyX8_work eyX8_work rfl rfl E_164 rfl (Nat.le_of_ble_eq_true rfl) rfl rfl (by omega) (Nat.le_of_ble_eq_true rfl) (m_work (by omega) hcnt hT hjb hcT hcI hw (fun k r1 M1 hev hk h20 g3 gf => ?_) (fun v r1 mk1 M1 hev g3 hrv gf => ?_))
  · dsimp only [aPush]
    have hx1 : M1 184 p = P 6 := by rw [gf.1 184 (by omega)]; exact hx
    rw [hev] at hQ
    have hQ1 := hQ M1 g3 gf
    have hk0 : lkR (Sum.inl k : Nat ⊕ vV) ≠ 0 := by have := hk.1; show k ≠ 0; omega
    rw [if_pos hk0] at hQ1
    have hQ1 : Q (some (.int (if nI k = P 6 then 0 else nI k))) EE M1 := hQ1
    refine aw_if_eq (tg := 41) (n := 13) dX8_ended_10 (by decide) rfl (fun c_10 => ?_) (fun c_10 => by exact absurd rfl c_10)
    refine aw_aload_n (n := 42) dX8_ended_41 rfl rfl ?_
    refine aw_geti (n := 45) dX8_ended_42 fX8_110 E_164 rfl rfl ?_
    rw [h20]
    refine aw_istore_n (n := 46) (L' := [_, _, _]) dX8_ended_45 (Nat.le_of_ble_eq_true rfl) rfl rfl ?_
    refine aw_iload_n (n := 47) dX8_ended_46 rfl rfl ?_
    refine aw_if_eq (tg := 66) (n := 50) dX8_ended_47 (by decide) rfl (fun c_47 => by exact absurd c_47 (nI_ne0 hk.1 (by omega))) (fun c_47 => ?_)
    refine aw_iload_n (n := 51) dX8_ended_50 rfl rfl ?_
    refine aw_aload_n (n := 52) dX8_ended_51 rfl rfl ?_
    refine aw_getr (n := 55) dX8_ended_52 fX8_67 E_164 rfl rfl ?_
    refine aw_iload_n (n := 56) dX8_ended_55 rfl rfl ?_
    refine aw_iald (n := 57) dX8_ended_56 E_184 (by assumption) rfl ?_
    rw [hpp, hx1]
    refine aw_icmp_ne (tg := 64) (n := 60) dX8_ended_57 (by decide) rfl (fun c_57 => ?_) (fun c_57 => ?_)
    · refine aw_iload_n (n := 65) dX8_ended_64 rfl rfl ?_
      refine aw_iret dX8_ended_65 rfl ?_
      first
        | (rw [if_neg c_57] at hQ1; exact hQ1)
        | (rw [if_pos c_57] at hQ1; exact hQ1)
    · refine aw_iconst (n := 61) (v := 0) dX8_ended_60 (by decide) rfl ?_
      refine aw_goto (n := 65) dX8_ended_61 (by decide) ?_
      refine aw_iret dX8_ended_65 rfl ?_
      first
        | (rw [if_neg c_57] at hQ1; exact hQ1)
        | (rw [if_pos c_57] at hQ1; exact hQ1)
  · dsimp only [aPush]
    have hx1 : M1 184 p = P 6 := by rw [gf.1 184 (by omega)]; exact hx
    rw [hev] at hQ
    have hQ1 := hQ M1 g3 gf
    rcases v with _ | y | s
    · have k17 : M1 164 17 = 2 := hrv
      have hQ1 : Q (some (.int (if (1 : Int32) = P 6 then 0 else 1))) EE M1 := by rw [if_pos (show lkR (Sum.inr none : Nat ⊕ vV) ≠ 0 by decide)] at hQ1; exact hQ1
      refine aw_if_eq (tg := 41) (n := 13) dX8_ended_10 (by decide) rfl (fun c_10 => by exact absurd c_10 (by decide)) (fun c_10 => ?_)
      refine aw_aload_n (n := 14) dX8_ended_13 rfl rfl ?_
      refine aw_geti (n := 17) dX8_ended_14 fX8_128 E_164 rfl rfl ?_
      rw [k17]
      refine aw_iconst (n := 18) (v := 1) dX8_ended_17 (by decide) rfl ?_
      refine aw_icmp_ne (tg := 25) (n := 21) dX8_ended_18 (by decide) rfl (fun _ => ?_) (fun c_18 => by first | exact absurd rfl c_18 | exact absurd c_18 (by decide))
      refine aw_aload_n (n := 26) dX8_ended_25 rfl rfl ?_
      refine aw_geti (n := 29) dX8_ended_26 fX8_128 E_164 rfl rfl ?_
      rw [k17]
      refine aw_iconst (n := 30) (v := 2) dX8_ended_29 (by decide) rfl ?_
      refine aw_icmp_ne (tg := 37) (n := 33) dX8_ended_30 (by decide) rfl (fun c_30 => by first | exact absurd rfl c_30 | exact absurd c_30 (by decide)) (fun _ => ?_)
      refine aw_iconst (n := 34) (v := 1) dX8_ended_33 (by decide) rfl ?_
      refine aw_goto (n := 45) dX8_ended_34 (by decide) ?_
      refine aw_istore_n (n := 46) (L' := [_, _, _]) dX8_ended_45 (Nat.le_of_ble_eq_true rfl) rfl rfl ?_
      refine aw_iload_n (n := 47) dX8_ended_46 rfl rfl ?_
      refine aw_if_eq (tg := 66) (n := 50) dX8_ended_47 (by decide) rfl (fun c_47 => by first | exact absurd rfl c_47 | exact absurd c_47 (by decide)) (fun _ => ?_)
      refine aw_iload_n (n := 51) dX8_ended_50 rfl rfl ?_
      refine aw_aload_n (n := 52) dX8_ended_51 rfl rfl ?_
      refine aw_getr (n := 55) dX8_ended_52 fX8_67 E_164 rfl rfl ?_
      refine aw_iload_n (n := 56) dX8_ended_55 rfl rfl ?_
      refine aw_iald (n := 57) dX8_ended_56 E_184 (by assumption) rfl ?_
      rw [hpp, hx1]
      refine aw_icmp_ne (tg := 64) (n := 60) dX8_ended_57 (by decide) rfl (fun c_57 => ?_) (fun c_57 => ?_)
      · refine aw_iload_n (n := 65) dX8_ended_64 rfl rfl ?_
        refine aw_iret dX8_ended_65 rfl ?_
        first
          | (rw [if_neg c_57] at hQ1; exact hQ1)
          | (rw [if_pos c_57] at hQ1; exact hQ1)
      · refine aw_iconst (n := 61) (v := 0) dX8_ended_60 (by decide) rfl ?_
        refine aw_goto (n := 65) dX8_ended_61 (by decide) ?_
        refine aw_iret dX8_ended_65 rfl ?_
        first
          | (rw [if_neg c_57] at hQ1; exact hQ1)
          | (rw [if_pos c_57] at hQ1; exact hQ1)
    · obtain ⟨k17, k18⟩ := hrv
      have hQ1 : Q (some (.int (if P 6 = 0 then (if y = 0 then 9 else 0) else 8))) EE M1 := by rw [if_neg (show ¬ lkR (Sum.inr (some (.inl y)) : Nat ⊕ vV) ≠ 0 from fun q => q rfl)] at hQ1; exact hQ1
      refine aw_if_eq (tg := 41) (n := 13) dX8_ended_10 (by decide) rfl (fun c_10 => by exact absurd c_10 (by decide)) (fun c_10 => ?_)
      refine aw_aload_n (n := 14) dX8_ended_13 rfl rfl ?_
      refine aw_geti (n := 17) dX8_ended_14 fX8_128 E_164 rfl rfl ?_
      rw [k17]
      refine aw_iconst (n := 18) (v := 1) dX8_ended_17 (by decide) rfl ?_
      refine aw_icmp_ne (tg := 25) (n := 21) dX8_ended_18 (by decide) rfl (fun _ => ?_) (fun c_18 => by first | exact absurd rfl c_18 | exact absurd c_18 (by decide))
      refine aw_aload_n (n := 26) dX8_ended_25 rfl rfl ?_
      refine aw_geti (n := 29) dX8_ended_26 fX8_128 E_164 rfl rfl ?_
      rw [k17]
      refine aw_iconst (n := 30) (v := 2) dX8_ended_29 (by decide) rfl ?_
      refine aw_icmp_ne (tg := 37) (n := 33) dX8_ended_30 (by decide) rfl (fun _ => ?_) (fun c_30 => by first | exact absurd rfl c_30 | exact absurd c_30 (by decide))
      refine aw_iconst (n := 38) (v := 0) dX8_ended_37 (by decide) rfl ?_
      refine aw_goto (n := 45) dX8_ended_38 (by decide) ?_
      refine aw_istore_n (n := 46) (L' := [_, _, _]) dX8_ended_45 (Nat.le_of_ble_eq_true rfl) rfl rfl ?_
      refine aw_iload_n (n := 47) dX8_ended_46 rfl rfl ?_
      refine aw_if_eq (tg := 66) (n := 50) dX8_ended_47 (by decide) rfl (fun _ => ?_) (fun c_47 => by first | exact absurd rfl c_47 | exact absurd c_47 (by decide))
      refine aw_aload_n (n := 67) dX8_ended_66 rfl rfl ?_
      refine aw_getr (n := 70) dX8_ended_67 fX8_67 E_164 rfl rfl ?_
      refine aw_iload_n (n := 71) dX8_ended_70 rfl rfl ?_
      refine aw_iald (n := 72) dX8_ended_71 E_184 (by assumption) rfl ?_
      rw [hpp, hx1]
      refine aw_if_eq (tg := 80) (n := 75) dX8_ended_72 (by decide) rfl (fun c_72 => ?_) (fun c_72 => ?_)
      · refine aw_aload_n (n := 81) dX8_ended_80 rfl rfl ?_
        refine aw_geti (n := 84) dX8_ended_81 fX8_131 E_164 rfl rfl ?_
        rw [k18]
        refine aw_if_eq (tg := 91) (n := 87) dX8_ended_84 (by decide) rfl (fun c_84 => ?_) (fun c_84 => ?_)
        · refine aw_bipush (n := 93) (v := 9) dX8_ended_91 (by decide) rfl ?_
          refine aw_iret dX8_ended_93 rfl ?_
          first
            | (rw [if_neg c_72] at hQ1; exact hQ1)
            | (rw [if_pos c_72, if_neg c_84] at hQ1; exact hQ1)
            | (rw [if_pos c_72, if_pos c_84] at hQ1; exact hQ1)
        · refine aw_iconst (n := 88) (v := 0) dX8_ended_87 (by decide) rfl ?_
          refine aw_goto (n := 93) dX8_ended_88 (by decide) ?_
          refine aw_iret dX8_ended_93 rfl ?_
          first
            | (rw [if_neg c_72] at hQ1; exact hQ1)
            | (rw [if_pos c_72, if_neg c_84] at hQ1; exact hQ1)
            | (rw [if_pos c_72, if_pos c_84] at hQ1; exact hQ1)
      · refine aw_bipush (n := 77) (v := 8) dX8_ended_75 (by decide) rfl ?_
        refine aw_goto (n := 93) dX8_ended_77 (by decide) ?_
        refine aw_iret dX8_ended_93 rfl ?_
        first
          | (rw [if_neg c_72] at hQ1; exact hQ1)
          | (rw [if_pos c_72, if_neg c_84] at hQ1; exact hQ1)
          | (rw [if_pos c_72, if_pos c_84] at hQ1; exact hQ1)
    · have k17 : M1 164 17 = 1 := hrv.1
      have hQ1 : Q (some (.int (if (4 : Int32) = P 6 then 0 else 4))) EE M1 := by rw [if_pos (show lkR (Sum.inr (some (.inr s)) : Nat ⊕ vV) ≠ 0 by simp [lkR, lk, lk0])] at hQ1; exact hQ1
      refine aw_if_eq (tg := 41) (n := 13) dX8_ended_10 (by decide) rfl (fun c_10 => by exact absurd c_10 (by decide)) (fun c_10 => ?_)
      refine aw_aload_n (n := 14) dX8_ended_13 rfl rfl ?_
      refine aw_geti (n := 17) dX8_ended_14 fX8_128 E_164 rfl rfl ?_
      rw [k17]
      refine aw_iconst (n := 18) (v := 1) dX8_ended_17 (by decide) rfl ?_
      refine aw_icmp_ne (tg := 25) (n := 21) dX8_ended_18 (by decide) rfl (fun c_18 => by first | exact absurd rfl c_18 | exact absurd c_18 (by decide)) (fun _ => ?_)
      refine aw_iconst (n := 22) (v := 4) dX8_ended_21 (by decide) rfl ?_
      refine aw_goto (n := 45) dX8_ended_22 (by decide) ?_
      refine aw_istore_n (n := 46) (L' := [_, _, _]) dX8_ended_45 (Nat.le_of_ble_eq_true rfl) rfl rfl ?_
      refine aw_iload_n (n := 47) dX8_ended_46 rfl rfl ?_
      refine aw_if_eq (tg := 66) (n := 50) dX8_ended_47 (by decide) rfl (fun c_47 => by first | exact absurd rfl c_47 | exact absurd c_47 (by decide)) (fun _ => ?_)
      refine aw_iload_n (n := 51) dX8_ended_50 rfl rfl ?_
      refine aw_aload_n (n := 52) dX8_ended_51 rfl rfl ?_
      refine aw_getr (n := 55) dX8_ended_52 fX8_67 E_164 rfl rfl ?_
      refine aw_iload_n (n := 56) dX8_ended_55 rfl rfl ?_
      refine aw_iald (n := 57) dX8_ended_56 E_184 (by assumption) rfl ?_
      rw [hpp, hx1]
      refine aw_icmp_ne (tg := 64) (n := 60) dX8_ended_57 (by decide) rfl (fun c_57 => ?_) (fun c_57 => ?_)
      · refine aw_iload_n (n := 65) dX8_ended_64 rfl rfl ?_
        refine aw_iret dX8_ended_65 rfl ?_
        first
          | (rw [if_neg c_57] at hQ1; exact hQ1)
          | (rw [if_pos c_57] at hQ1; exact hQ1)
      · refine aw_iconst (n := 61) (v := 0) dX8_ended_60 (by decide) rfl ?_
        refine aw_goto (n := 65) dX8_ended_61 (by decide) ?_
        refine aw_iret dX8_ended_65 rfl ?_
        first
          | (rw [if_neg c_57] at hQ1; exact hQ1)
          | (rw [if_pos c_57] at hQ1; exact hQ1)
/-- the label is counted -/
theorem m_labEnd {ix : Nat} {ct is x3 : Int32} {x1 : Value} (hct : ct = 0 ∨ ct = 1) (hi0 : is = 0 → ix = 8) (hi1 : is ≠ 0 → M 164 18 = nI ix ∧ ix < 8)
    (hQ : Q (some (.int x3)) EE (if ct = 1 then up2 M 185 ix (M 185 ix + 1) else M)) : aw l K mX8_outcome d 0 0 191 [.ref 164, x1, .int ct, .int x3, .int is] [] EE M Q := by
  rcases hct with rfl | rfl
  · rw [if_neg (by decide)] at hQ
    refine aw_iload_n (n := 192) dX8_outcome_191 rfl rfl ?_
    refine aw_if_eq (tg := 218) (n := 195) dX8_outcome_192 (by decide) rfl (fun _ => ?_) (fun c_192 => by first | exact absurd rfl c_192 | exact absurd c_192 (by decide))
    refine aw_iload_n (n := 219) dX8_outcome_218 rfl rfl ?_
    refine aw_iret dX8_outcome_219 rfl ?_
    exact hQ
  · rw [if_pos rfl] at hQ
    have hix : ix < 9 := by
      by_cases h : is = 0
      · have := hi0 h; omega
      · have := (hi1 h).2; omega
    have hin : vp_in (nI ix) 9 := vp_in_nI hix (by decide)
    have hii : (nI ix).toNatClampNeg = ix := nI_clamp (by omega)
    refine aw_iload_n (n := 192) dX8_outcome_191 rfl rfl ?_
    refine aw_if_eq (tg := 218) (n := 195) dX8_outcome_192 (by decide) rfl (fun c_192 => by first | exact absurd rfl c_192 | exact absurd c_192 (by decide)) (fun _ => ?_)
    refine aw_aload_n (n := 196) dX8_outcome_195 rfl rfl ?_
    refine aw_getr (n := 199) dX8_outcome_196 fX8_70 E_164 rfl rfl ?_
    refine aw_iload (n := 201) dX8_outcome_199 rfl rfl ?_
    refine aw_if_eq (tg := 211) (n := 204) dX8_outcome_201 (by decide) rfl (fun c_201 => ?_) (fun c_201 => ?_)
    · refine aw_bipush (n := 213) (v := 8) dX8_outcome_211 (by decide) rfl ?_
      have h8 := hi0 c_201
      subst h8
      refine aw_dup2 (n := 214) dX8_outcome_213 rfl rfl rfl ?_
      refine aw_iald (n := 215) dX8_outcome_214 E_185 (by assumption) rfl ?_
      refine aw_iconst (n := 216) (v := 1) dX8_outcome_215 (by decide) rfl ?_
      refine aw_iadd (n := 217) dX8_outcome_216 rfl ?_
      refine aw_iast (n := 218) dX8_outcome_217 E_185 (by assumption) rfl ?_
      refine aw_iload_n (n := 219) dX8_outcome_218 rfl rfl ?_
      refine aw_iret dX8_outcome_219 rfl ?_
      exact hQ
    · refine aw_aload_n (n := 205) dX8_outcome_204 rfl rfl ?_
      refine aw_geti (n := 208) dX8_outcome_205 fX8_131 E_164 rfl rfl ?_
      refine aw_goto (n := 213) dX8_outcome_208 (by decide) ?_
      rw [(hi1 c_201).1]
      refine aw_dup2 (n := 214) dX8_outcome_213 rfl rfl rfl ?_
      refine aw_iald (n := 215) dX8_outcome_214 E_185 (by assumption) rfl ?_
      rw [hii]
      refine aw_iconst (n := 216) (v := 1) dX8_outcome_215 (by decide) rfl ?_
      refine aw_iadd (n := 217) dX8_outcome_216 rfl ?_
      refine aw_iast (n := 218) dX8_outcome_217 E_185 (by assumption) rfl ?_
      rw [hii]
      refine aw_iload_n (n := 219) dX8_outcome_218 rfl rfl ?_
      refine aw_iret dX8_outcome_219 rfl ?_
      exact hQ
end MOUTC
