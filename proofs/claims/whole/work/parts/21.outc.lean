def vw : vV → Int32
  | some (.inl x) => x
  | _ => 0
def lkR : Nat ⊕ vV → Nat
  | .inl k => k
  | .inr v => lk 0 v
def vwR : Nat ⊕ vV → Int32
  | .inl _ => 0
  | .inr v => vw v
/-- the body: what is left, the outcome -/
def bodS (T : tm) (inp : Nat → vV) (body expd : Int32) (r : Nat) : Nat × Int32 :=
  ((ev T inp 61 r body.toNatClampNeg).1, if lkR (ev T inp 61 r body.toNatClampNeg).2 ≠ 0 then (if nI (lkR (ev T inp 61 r body.toNatClampNeg).2) = expd then 0 else nI (lkR (ev T inp 61 r body.toNatClampNeg).2)) else if expd = 0 then (if vwR (ev T inp 61 r body.toNatClampNeg).2 = 0 then 9 else 0) else 8)
def outS (T : tm) (inp : Nat → vV) (cond body expd : Int32) : Nat × Int32 :=
  if cond < 0 then bodS T inp body expd 60
  else if lkR (ev T inp 61 60 cond.toNatClampNeg).2 ≠ 0 then ((ev T inp 61 60 cond.toNatClampNeg).1, nI (lkR (ev T inp 61 60 cond.toNatClampNeg).2))
  else if vwR (ev T inp 61 60 cond.toNatClampNeg).2 = 0 then ((ev T inp 61 60 cond.toNatClampNeg).1, -1)
  else bodS T inp body expd (ev T inp 61 60 cond.toNatClampNeg).1
def labS (T : tm) (inp : Nat → vV) (lab : Int32) (r : Nat) : Nat := if lkR (ev T inp 61 r lab.toNatClampNeg).2 ≠ 0 then 8 else if vwR (ev T inp 61 r lab.toNatClampNeg).2 < 0 ∨ 8 ≤ vwR (ev T inp 61 r lab.toNatClampNeg).2 then 8 else (vwR (ev T inp 61 r lab.toNatClampNeg).2).toNatClampNeg
theorem lk_07 {v : vV} (h : lk 0 v ≠ 0) : 1 ≤ lk 0 v ∧ lk 0 v ≤ 7 := by
  rcases v with _ | x | s
  · decide
  · exact absurd rfl h
  · simp [lk, lk0]
def fO (M M' : aM) : Prop := (∀ q, q ≠ 1 → (q < 16 ∨ 136 ≤ q) → M' q = M q) ∧ M' 1 4 = M 1 4 + 1 ∧ ∀ j, j ≠ 3 → j ≠ 4 → M' 1 j = M 1 j
theorem fO_of {p : Nat} {M M0 M' : aM} (h0 : ∀ q, q ≠ 1 → M0 q = M q) (h4 : M0 1 4 = M 1 4 + 1) (h5 : ∀ j, j ≠ 3 → j ≠ 4 → M0 1 j = M 1 j) (h : fW p M0 M') : fO M M' :=
  ⟨fun q g1 g2 => (h.1 q g1 (by omega)).trans (h0 q g1), (h.2 4 (by decide)).trans h4, fun j g1 g2 => (h.2 j g1).trans (h5 j g1 g2)⟩
theorem neg_ng {k : Nat} : - -(nI k) = nI k := by
  simp
theorem ng_eq {k : Nat} {x : Int32} : ¬ (- -(nI k) = x) ↔ ¬ (nI k = x) := by rw [neg_ng]
section OUTC
variable {l : Launch} {K : aK} {d : Nat} {M : aM} {Q : Option Value → aE → aM → Prop}
theorem t_outcome {cnt pa : Nat} {T : tm} {inp : Nat → vV} {cond body expd : Int32} (hd : 140 ≤ d) (hcnt : cnt ≤ 60) (hT : wfT cnt T) (hp : iP pa) (hpa : 136 ≤ pa) (hcT : cT cnt T M) (hcI : cI inp M) (hm1 : M pa 1 = cond) (hm2 : M pa 2 = body) (hm4 : M pa 4 = expd) (hc : cond = -1 ∨ isNo cond cnt) (hb : isNo body cnt)
    (hQ : ∀ M', M' 1 3 = nI (60 - (outS T inp cond body expd).1) → (outS T inp cond body expd).1 ≤ 60 → fO M M' → Q (some (.int (outS T inp cond body expd).2)) EE M') : aw l K mX6_outcome d 0 0 0 [.ref 1, .ref pa, .null] [] EE M Q := by
  have e1 := E_1
  have e15 := E_15r
  obtain ⟨hp1, hp2⟩ := hp
  obtain ⟨jb, hjb, hjB⟩ := hb
  have hjbb : body.toNatClampNeg = jb := by rw [hjB]; exact nI_clamp (by omega)
  -- the body, from where the condition left it
  have bod : ∀ (M0 : aM) (r : Nat) (x : Value), r ≤ 60 → M0 1 3 = nI (60 - r) → (∀ q, q ≠ 1 → (q < 16 ∨ 136 ≤ q) → M0 q = M q) → M0 1 4 = M 1 4 + 1 → (∀ j, j ≠ 3 → j ≠ 4 → M0 1 j = M 1 j) → outS T inp cond body expd = bodS T inp body expd r → aw l K mX6_outcome d 0 0 56 [.ref 1, .ref pa, x] [] EE M0 Q := by
    intro M0 r x hr h3 h0 h4 h5 hout
    have hcT0 : cT cnt T M0 := by
      intro t ht
      rw [h0 3 (by omega) (by omega), h0 4 (by omega) (by omega), h0 5 (by omega) (by omega), h0 6 (by omega) (by omega), h0 7 (by omega) (by omega)]
      exact hcT t ht
    have hcI0 : cI inp M0 := fun i hi => vAt_same (hcI i hi) (h0 _ (by omega) (by omega)) (h0 _ (by omega) (by omega))
    have hm2' : M0 pa 2 = nI jb := by rw [h0 pa (by omega) (by omega), hm2, hjB]
    have hfO : ∀ {p : Nat} {M1 : aM}, fW p M0 M1 → fO M M1 := fun {p M1} h => ⟨fun q g1 g2 => (h.1 q g1 (by omega)).trans (h0 q g1 g2), (h.2 4 (by decide)).trans h4, fun j g1 g2 => (h.2 j g1).trans (h5 j g1 g2)⟩
    have hle := ev_le T inp 61 r jb
    refine aw_aload_n (n := 57) dX6_outcome_56 rfl rfl ?_
    refine aw_aload_n (n := 58) dX6_outcome_57 rfl rfl ?_
    refine aw_aload_n (n := 59) dX6_outcome_58 rfl rfl ?_
    refine aw_geti (n := 62) dX6_outcome_59 fX6_53 (by assumption) rfl rfl ?_
    rw [hm2']
    refine aw_v1 (d1 := d - 1) (n := 65) (Z := mX6_work) (ci := 4) (L0 := [_, _, .null, .null, .null, .null, .null, .null, .null]) dX6_outcome_62 kX6_work gX6_41 iyX6_work eyX6_work rfl rfl (by assumption) rfl (Nat.le_of_ble_eq_true rfl) rfl rfl (by omega) (Nat.le_of_ble_eq_true rfl) (t_work hcnt hT 61 r jb _ M0 _ (by omega) hr hjb (by omega) hcT0 hcI0 h3 (fun k r1 M1 hev hk g3 gf => ?_) (fun v r1 p M1 hev g3 gf gp1 gp2 gv => ?_))
    · dsimp only [aPush]
      have hn := ng_lt hk
      rw [hev] at hle
      have hx : M1 pa 4 = expd := by rw [gf.1 pa (by omega) (by omega), h0 pa (by omega) (by omega)]; exact hm4
      have hkk : (outS T inp cond body expd) = (r1, if nI k = expd then 0 else nI k) := by
        rw [hout]; unfold bodS; rw [hjbb, hev]
        show (r1, if k ≠ 0 then _ else _) = _
        rw [if_pos (by omega)]; rfl
      have hQ1 := hQ M1 (by rw [hkk]; exact g3) (by rw [hkk]; show r1 ≤ 60; exact Nat.le_trans hle hr) (hfO gf)
      rw [hkk] at hQ1
      refine aw_v1 (d1 := d - 1) (n := 68) (Z := mX6_asWhole) (ci := 4) (L0 := [_, _, .null]) dX6_outcome_65 kX6_asWhole gX6_45 iyX6_asWhole eyX6_asWhole rfl rfl (by assumption) rfl (Nat.le_of_ble_eq_true rfl) rfl rfl (by omega) (Nat.le_of_ble_eq_true rfl) (t_asWholeN hn ?_)
      dsimp only [aPush]
      refine aw_istore_n (n := 69) (L' := [_, _, _]) dX6_outcome_68 (Nat.le_of_ble_eq_true rfl) rfl rfl ?_
      refine aw_iload_n (n := 70) dX6_outcome_69 rfl rfl ?_
      refine aw_if_ge (tg := 89) (n := 73) dX6_outcome_70 (by decide) rfl (fun c_70 => by exact absurd c_70 hn) (fun c_70 => ?_)
      refine aw_iload_n (n := 74) dX6_outcome_73 rfl rfl ?_
      refine aw_ineg (n := 75) dX6_outcome_74 rfl ?_
      refine aw_aload_n (n := 76) dX6_outcome_75 rfl rfl ?_
      refine aw_geti (n := 79) dX6_outcome_76 fX6_56 (by assumption) rfl rfl ?_
      rw [neg_ng, hx]
      refine aw_icmp_ne (tg := 86) (n := 82) dX6_outcome_79 (by decide) rfl (fun c_79 => ?_) (fun c_79 => ?_)
      · refine aw_iload_n (n := 87) dX6_outcome_86 rfl rfl ?_
        refine aw_ineg (n := 88) dX6_outcome_87 rfl ?_
        refine aw_iret dX6_outcome_88 rfl ?_
        first
          | (rw [neg_ng]; rw [if_neg c_79] at hQ1; exact hQ1)
          | (rw [if_pos c_79] at hQ1; exact hQ1)
      · refine aw_iconst (n := 83) (v := 0) dX6_outcome_82 (by decide) rfl ?_
        refine aw_goto (n := 88) dX6_outcome_83 (by decide) ?_
        refine aw_iret dX6_outcome_88 rfl ?_
        first
          | (rw [neg_ng]; rw [if_neg c_79] at hQ1; exact hQ1)
          | (rw [if_pos c_79] at hQ1; exact hQ1)
    · dsimp only [aPush]
      have hpb0 : (0 : Int32) ≤ nI p := nI_pos' (by omega)
      rw [hev] at hle
      have hle : r1 ≤ r := hle
      obtain ⟨hvb1, hvb2⟩ := iV_st p (by omega)
      have hinpb : vp_in (nI p) rSt.length := vp_in_nI (show p < 60 by omega) (by decide)
      have hrpb : rSt[(nI p).toNatClampNeg]? = some (some (16 + 2 * p)) := by rw [nI_clamp (by omega)]; exact rSt_at p (by omega)
      have hx : M1 pa 4 = expd := by rw [gf.1 pa (by omega) (by omega), h0 pa (by omega) (by omega)]; exact hm4
      have hkk : (outS T inp cond body expd) = (r1, if lk 0 v ≠ 0 then (if nI (lk 0 v) = expd then 0 else nI (lk 0 v)) else if expd = 0 then (if vw v = 0 then 9 else 0) else 8) := by
        rw [hout]; unfold bodS; rw [hjbb, hev]; rfl
      have hQ1 := hQ M1 (by rw [hkk]; exact g3) (by rw [hkk]; show r1 ≤ 60; exact Nat.le_trans hle hr) (hfO gf)
      rw [hkk] at hQ1
      refine aw_v1 (d1 := d - 1) (n := 68) (Z := mX6_asWhole) (ci := 4) (L0 := [_, _, .null]) dX6_outcome_65 kX6_asWhole gX6_45 iyX6_asWhole eyX6_asWhole rfl rfl (by assumption) rfl (Nat.le_of_ble_eq_true rfl) rfl rfl (by omega) (Nat.le_of_ble_eq_true rfl) (t_asWhole (by omega) (by omega) gv (fun hl => ?_) (fun y hy => ?_))
      · dsimp only [aPush]
        have hn := ng_lt (lk_07 hl)
        rw [if_pos hl] at hQ1
        refine aw_istore_n (n := 69) (L' := [_, _, _]) dX6_outcome_68 (Nat.le_of_ble_eq_true rfl) rfl rfl ?_
        refine aw_iload_n (n := 70) dX6_outcome_69 rfl rfl ?_
        refine aw_if_ge (tg := 89) (n := 73) dX6_outcome_70 (by decide) rfl (fun c_70 => by exact absurd c_70 hn) (fun c_70 => ?_)
        refine aw_iload_n (n := 74) dX6_outcome_73 rfl rfl ?_
        refine aw_ineg (n := 75) dX6_outcome_74 rfl ?_
        refine aw_aload_n (n := 76) dX6_outcome_75 rfl rfl ?_
        refine aw_geti (n := 79) dX6_outcome_76 fX6_56 (by assumption) rfl rfl ?_
        rw [neg_ng, hx]
        refine aw_icmp_ne (tg := 86) (n := 82) dX6_outcome_79 (by decide) rfl (fun c_79 => ?_) (fun c_79 => ?_)
        · refine aw_iload_n (n := 87) dX6_outcome_86 rfl rfl ?_
          refine aw_ineg (n := 88) dX6_outcome_87 rfl ?_
          refine aw_iret dX6_outcome_88 rfl ?_
          first
            | (rw [neg_ng]; rw [if_neg c_79] at hQ1; exact hQ1)
            | (rw [if_pos c_79] at hQ1; exact hQ1)
        · refine aw_iconst (n := 83) (v := 0) dX6_outcome_82 (by decide) rfl ?_
          refine aw_goto (n := 88) dX6_outcome_83 (by decide) ?_
          refine aw_iret dX6_outcome_88 rfl ?_
          first
            | (rw [neg_ng]; rw [if_neg c_79] at hQ1; exact hQ1)
            | (rw [if_pos c_79] at hQ1; exact hQ1)
      · dsimp only [aPush]
        subst hy
        have hyM := vAt_W gv
        rw [if_neg (fun q => q rfl)] at hQ1
        refine aw_istore_n (n := 69) (L' := [_, _, _]) dX6_outcome_68 (Nat.le_of_ble_eq_true rfl) rfl rfl ?_
        refine aw_iload_n (n := 70) dX6_outcome_69 rfl rfl ?_
        refine aw_if_ge (tg := 89) (n := 73) dX6_outcome_70 (by decide) rfl (fun c_70 => ?_) (fun c_70 => by exact absurd hpb0 c_70)
        refine aw_aload_n (n := 90) dX6_outcome_89 rfl rfl ?_
        refine aw_geti (n := 93) dX6_outcome_90 fX6_56 (by assumption) rfl rfl ?_
        rw [hx]
        refine aw_if_eq (tg := 99) (n := 96) dX6_outcome_93 (by decide) rfl (fun c_93 => ?_) (fun c_93 => ?_)
        · refine aw_aload_n (n := 100) dX6_outcome_99 rfl rfl ?_
          refine aw_getr (n := 103) dX6_outcome_100 fX6_26 (by assumption) rfl rfl ?_
          refine aw_iload_n (n := 104) dX6_outcome_103 rfl rfl ?_
          refine aw_aald (n := 105) dX6_outcome_104 (by assumption) (by decide) (by assumption) (by assumption) rfl ?_
          refine aw_geti (n := 108) dX6_outcome_105 fX6_48 (by assumption) rfl rfl ?_
          rw [hyM]
          refine aw_if_eq (tg := 115) (n := 111) dX6_outcome_108 (by decide) rfl (fun c_108 => ?_) (fun c_108 => ?_)
          · refine aw_bipush (n := 117) (v := 9) dX6_outcome_115 (by decide) rfl ?_
            refine aw_iret dX6_outcome_117 rfl ?_
            rw [if_pos c_93] at hQ1
            first
              | (rw [show vw (some (.inl y)) = y from rfl, if_pos c_108] at hQ1; exact hQ1)
              | (rw [show vw (some (.inl y)) = y from rfl, if_neg c_108] at hQ1; exact hQ1)
          · refine aw_iconst (n := 112) (v := 0) dX6_outcome_111 (by decide) rfl ?_
            refine aw_goto (n := 117) dX6_outcome_112 (by decide) ?_
            refine aw_iret dX6_outcome_117 rfl ?_
            rw [if_pos c_93] at hQ1
            first
              | (rw [show vw (some (.inl y)) = y from rfl, if_pos c_108] at hQ1; exact hQ1)
              | (rw [show vw (some (.inl y)) = y from rfl, if_neg c_108] at hQ1; exact hQ1)
        · refine aw_bipush (n := 98) (v := 8) dX6_outcome_96 (by decide) rfl ?_
          refine aw_iret dX6_outcome_98 rfl ?_
          rw [if_neg c_93] at hQ1; exact hQ1
  rcases hc with hc | ⟨jc, hjc, hjC⟩
  · have hout : outS T inp cond body expd = bodS T inp body expd 60 := if_pos (by rw [hc]; decide)
    refine aw_aload_n (n := 1) dX6_outcome_0 rfl rfl ?_
    refine aw_dup (n := 2) dX6_outcome_1 rfl rfl ?_
    refine aw_geti (n := 5) dX6_outcome_2 fX6_33 (by assumption) rfl rfl ?_
    refine aw_iconst (n := 6) (v := 1) dX6_outcome_5 (by decide) rfl ?_
    refine aw_iadd (n := 7) dX6_outcome_6 rfl ?_
    refine aw_puti (n := 10) dX6_outcome_7 pX6_33 (by assumption) rfl rfl ?_
    refine aw_aload_n (n := 11) dX6_outcome_10 rfl rfl ?_
    refine aw_iconst (n := 12) (v := 0) dX6_outcome_11 (by decide) rfl ?_
    refine aw_puti (n := 15) dX6_outcome_12 pX6_29 (by assumption) rfl rfl ?_
    refine aw_aload_n (n := 16) dX6_outcome_15 rfl rfl ?_
    refine aw_geti (n := 19) dX6_outcome_16 fX6_36 (by assumption) rfl rfl ?_
    rw [up2_a _ _ (by omega), up2_a _ _ (by omega), hm1]
    refine aw_if_lt (tg := 56) (n := 22) dX6_outcome_19 (by decide) rfl (fun c_19 => ?_) (fun c_19 => by exact absurd (by rw [hc]; decide) c_19)
    refine bod _ 60 _ (Nat.le_refl _) ?_ ?_ ?_ ?_ hout
    · rw [up2_s]; rfl
    · intro q g1 g2; rw [up2_ra _ _ g1, up2_ra _ _ g1]
    · rw [up2_k _ _ (by decide), up2_s]
    · intro j g1 g2; rw [up2_k _ _ g1, up2_k _ _ g2]
  · have hjcc : cond.toNatClampNeg = jc := by rw [hjC]; exact nI_clamp (by omega)
    have hcn : ¬ cond < 0 := by rw [hjC]; exact nI_pos (by omega)
    have hout : outS T inp cond body expd = if lkR (ev T inp 61 60 jc).2 ≠ 0 then ((ev T inp 61 60 jc).1, nI (lkR (ev T inp 61 60 jc).2)) else if vwR (ev T inp 61 60 jc).2 = 0 then ((ev T inp 61 60 jc).1, -1) else bodS T inp body expd (ev T inp 61 60 jc).1 := by
      rw [← hjcc]; exact if_neg hcn
    obtain ⟨M0, hM0⟩ : ∃ M0, M0 = up2 (up2 M 1 4 (M 1 4 + 1)) 1 3 0 := ⟨_, rfl⟩
    have k0 : ∀ q, q ≠ 1 → M0 q = M q := fun q g1 => by rw [hM0, up2_ra _ _ g1, up2_ra _ _ g1]
    have k3 : M0 1 3 = nI (60 - 60) := by rw [hM0, up2_s]; rfl
    have k4 : M0 1 4 = M 1 4 + 1 := by rw [hM0, up2_k _ _ (by decide), up2_s]
    have k5 : ∀ j, j ≠ 3 → j ≠ 4 → M0 1 j = M 1 j := fun j g1 g2 => by rw [hM0, up2_k _ _ g1, up2_k _ _ g2]
    have hcT0 : cT cnt T M0 := by
      intro t ht
      rw [k0 3 (by omega), k0 4 (by omega), k0 5 (by omega), k0 6 (by omega), k0 7 (by omega)]
      exact hcT t ht
    have hcI0 : cI inp M0 := fun i hi => vAt_same (hcI i hi) (k0 _ (by omega)) (k0 _ (by omega))
    have hm1' : M0 pa 1 = nI jc := by rw [k0 pa (by omega), hm1, hjC]
    have hle := ev_le T inp 61 60 jc
    refine aw_aload_n (n := 1) dX6_outcome_0 rfl rfl ?_
    refine aw_dup (n := 2) dX6_outcome_1 rfl rfl ?_
    refine aw_geti (n := 5) dX6_outcome_2 fX6_33 (by assumption) rfl rfl ?_
    refine aw_iconst (n := 6) (v := 1) dX6_outcome_5 (by decide) rfl ?_
    refine aw_iadd (n := 7) dX6_outcome_6 rfl ?_
    refine aw_puti (n := 10) dX6_outcome_7 pX6_33 (by assumption) rfl rfl ?_
    refine aw_aload_n (n := 11) dX6_outcome_10 rfl rfl ?_
    refine aw_iconst (n := 12) (v := 0) dX6_outcome_11 (by decide) rfl ?_
    refine aw_puti (n := 15) dX6_outcome_12 pX6_29 (by assumption) rfl rfl ?_
    rw [← hM0]
    refine aw_aload_n (n := 16) dX6_outcome_15 rfl rfl ?_
    refine aw_geti (n := 19) dX6_outcome_16 fX6_36 (by assumption) rfl rfl ?_
    rw [hm1']
    refine aw_if_lt (tg := 56) (n := 22) dX6_outcome_19 (by decide) rfl (fun c_19 => by exact absurd c_19 (nI_pos (by omega))) (fun c_19 => ?_)
    refine aw_aload_n (n := 23) dX6_outcome_22 rfl rfl ?_
    refine aw_aload_n (n := 24) dX6_outcome_23 rfl rfl ?_
    refine aw_aload_n (n := 25) dX6_outcome_24 rfl rfl ?_
    refine aw_geti (n := 28) dX6_outcome_25 fX6_36 (by assumption) rfl rfl ?_
    rw [hm1']
    refine aw_v1 (d1 := d - 1) (n := 31) (Z := mX6_work) (ci := 4) (L0 := [_, _, .null, .null, .null, .null, .null, .null, .null]) dX6_outcome_28 kX6_work gX6_41 iyX6_work eyX6_work rfl rfl (by assumption) rfl (Nat.le_of_ble_eq_true rfl) rfl rfl (by omega) (Nat.le_of_ble_eq_true rfl) (t_work hcnt hT 61 60 jc _ M0 _ (by omega) (Nat.le_refl _) hjc (by omega) hcT0 hcI0 k3 (fun k r1 M1 hev hk g3 gf => ?_) (fun v r1 p M1 hev g3 gf gp1 gp2 gv => ?_))
    · dsimp only [aPush]
      have hn := ng_lt hk
      rw [hev] at hle hout
      have hkk : outS T inp cond body expd = (r1, nI k) := hout.trans (if_pos (show k ≠ 0 by omega))
      have hQ1 := hQ M1 (by rw [hkk]; exact g3) (by rw [hkk]; exact hle) (fO_of k0 k4 k5 gf)
      rw [hkk] at hQ1
      refine aw_v1 (d1 := d - 1) (n := 34) (Z := mX6_asWhole) (ci := 4) (L0 := [_, _, .null]) dX6_outcome_31 kX6_asWhole gX6_45 iyX6_asWhole eyX6_asWhole rfl rfl (by assumption) rfl (Nat.le_of_ble_eq_true rfl) rfl rfl (by omega) (Nat.le_of_ble_eq_true rfl) (t_asWholeN hn ?_)
      dsimp only [aPush]
      refine aw_istore_n (n := 35) (L' := [_, _, _]) dX6_outcome_34 (Nat.le_of_ble_eq_true rfl) rfl rfl ?_
      refine aw_iload_n (n := 36) dX6_outcome_35 rfl rfl ?_
      refine aw_if_ge (tg := 42) (n := 39) dX6_outcome_36 (by decide) rfl (fun c_36 => by exact absurd c_36 hn) (fun c_36 => ?_)
      refine aw_iload_n (n := 40) dX6_outcome_39 rfl rfl ?_
      refine aw_ineg (n := 41) dX6_outcome_40 rfl ?_
      refine aw_iret dX6_outcome_41 rfl ?_
      rw [neg_ng]; exact hQ1
    · dsimp only [aPush]
      have hpb0 : (0 : Int32) ≤ nI p := nI_pos' (by omega)
      rw [hev] at hle hout
      have hle : r1 ≤ 60 := hle
      obtain ⟨hvb1, hvb2⟩ := iV_st p (by omega)
      have hinpb : vp_in (nI p) rSt.length := vp_in_nI (show p < 60 by omega) (by decide)
      have hrpb : rSt[(nI p).toNatClampNeg]? = some (some (16 + 2 * p)) := by rw [nI_clamp (by omega)]; exact rSt_at p (by omega)
      refine aw_v1 (d1 := d - 1) (n := 34) (Z := mX6_asWhole) (ci := 4) (L0 := [_, _, .null]) dX6_outcome_31 kX6_asWhole gX6_45 iyX6_asWhole eyX6_asWhole rfl rfl (by assumption) rfl (Nat.le_of_ble_eq_true rfl) rfl rfl (by omega) (Nat.le_of_ble_eq_true rfl) (t_asWhole (by omega) (by omega) gv (fun hl => ?_) (fun y hy => ?_))
      · dsimp only [aPush]
        have hn := ng_lt (lk_07 hl)
        have hkk : outS T inp cond body expd = (r1, nI (lk 0 v)) := hout.trans (if_pos hl)
        have hQ1 := hQ M1 (by rw [hkk]; exact g3) (by rw [hkk]; exact hle) (fO_of k0 k4 k5 gf)
        rw [hkk] at hQ1
        refine aw_istore_n (n := 35) (L' := [_, _, _]) dX6_outcome_34 (Nat.le_of_ble_eq_true rfl) rfl rfl ?_
        refine aw_iload_n (n := 36) dX6_outcome_35 rfl rfl ?_
        refine aw_if_ge (tg := 42) (n := 39) dX6_outcome_36 (by decide) rfl (fun c_36 => by exact absurd c_36 hn) (fun c_36 => ?_)
        refine aw_iload_n (n := 40) dX6_outcome_39 rfl rfl ?_
        refine aw_ineg (n := 41) dX6_outcome_40 rfl ?_
        refine aw_iret dX6_outcome_41 rfl ?_
        rw [neg_ng]; exact hQ1
      · dsimp only [aPush]
        subst hy
        have hyM := vAt_W gv
        have hout : outS T inp cond body expd = if y = 0 then (r1, -1) else bodS T inp body expd r1 := hout.trans (if_neg (fun q => q rfl))
        refine aw_istore_n (n := 35) (L' := [_, _, _]) dX6_outcome_34 (Nat.le_of_ble_eq_true rfl) rfl rfl ?_
        refine aw_iload_n (n := 36) dX6_outcome_35 rfl rfl ?_
        refine aw_if_ge (tg := 42) (n := 39) dX6_outcome_36 (by decide) rfl (fun c_36 => ?_) (fun c_36 => by exact absurd hpb0 c_36)
        refine aw_aload_n (n := 43) dX6_outcome_42 rfl rfl ?_
        refine aw_getr (n := 46) dX6_outcome_43 fX6_26 (by assumption) rfl rfl ?_
        refine aw_iload_n (n := 47) dX6_outcome_46 rfl rfl ?_
        refine aw_aald (n := 48) dX6_outcome_47 (by assumption) (by decide) (by assumption) (by assumption) rfl ?_
        refine aw_geti (n := 51) dX6_outcome_48 fX6_48 (by assumption) rfl rfl ?_
        rw [hyM]
        refine aw_if_ne (tg := 56) (n := 54) dX6_outcome_51 (by decide) rfl (fun c_51 => ?_) (fun c_51 => ?_)
        · have hfo := fO_of k0 k4 k5 gf
          exact bod M1 r1 _ hle g3 hfo.1 hfo.2.1 hfo.2.2 (hout.trans (if_neg c_51))
        · refine aw_iconst (n := 55) (v := -1) dX6_outcome_54 (by decide) rfl ?_
          refine aw_iret dX6_outcome_55 rfl ?_
          have hkk : outS T inp cond body expd = (r1, -1) := hout.trans (if_pos c_51)
          have hQ1 := hQ M1 (by rw [hkk]; exact g3) (by rw [hkk]; exact hle) (fO_of k0 k4 k5 gf)
          rw [hkk] at hQ1
          exact hQ1
theorem t_labelled {cnt pa r : Nat} {T : tm} {inp : Nat → vV} {lab : Int32} (hd : 140 ≤ d) (hcnt : cnt ≤ 60) (hT : wfT cnt T) (hp : iP pa) (hpa : 136 ≤ pa) (hcT : cT cnt T M) (hcI : cI inp M) (hm3 : M pa 3 = lab) (hb : isNo lab cnt) (hr : r ≤ 60) (h3 : M 1 3 = nI (60 - r))
    (hQ : ∀ M', (∀ q, q ≠ 1 → (q < 16 ∨ 136 ≤ q) → M' q = M q) → (∀ j, j ≠ 3 → M' 1 j = M 1 j) → Q (some (.int (nI (labS T inp lab r)))) EE M') : aw l K mX6_labelled d 0 0 0 [.ref 1, .ref pa, .null, .null] [] EE M Q := by
  have e1 := E_1
  have e15 := E_15r
  obtain ⟨hp1, hp2⟩ := hp
  obtain ⟨jb, hjb, hjB⟩ := hb
  have hjbb : lab.toNatClampNeg = jb := by rw [hjB]; exact nI_clamp (by omega)
  have hm3' : M pa 3 = nI jb := hm3.trans hjB
  have hlab : labS T inp lab r = if lkR (ev T inp 61 r jb).2 ≠ 0 then 8 else if vwR (ev T inp 61 r jb).2 < 0 ∨ 8 ≤ vwR (ev T inp 61 r jb).2 then 8 else (vwR (ev T inp 61 r jb).2).toNatClampNeg := by
    rw [← hjbb]; rfl
  refine aw_aload_n (n := 1) dX6_labelled_0 rfl rfl ?_
  refine aw_aload_n (n := 2) dX6_labelled_1 rfl rfl ?_
  refine aw_aload_n (n := 3) dX6_labelled_2 rfl rfl ?_
  refine aw_geti (n := 6) dX6_labelled_3 fX6_59 (by assumption) rfl rfl ?_
  rw [hm3']
  refine aw_v1 (d1 := d - 1) (n := 9) (Z := mX6_work) (ci := 4) (L0 := [_, _, .null, .null, .null, .null, .null, .null, .null]) dX6_labelled_6 kX6_work gX6_41 iyX6_work eyX6_work rfl rfl (by assumption) rfl (Nat.le_of_ble_eq_true rfl) rfl rfl (by omega) (Nat.le_of_ble_eq_true rfl) (t_work hcnt hT 61 r jb _ M _ (by omega) hr hjb (by omega) hcT hcI h3 (fun k r1 M1 hev hk g3 gf => ?_) (fun v r1 p M1 hev g3 gf gp1 gp2 gv => ?_))
  · dsimp only [aPush]
    have hn := ng_lt hk
    rw [hev] at hlab
    have hkk : labS T inp lab r = 8 := hlab.trans (if_pos (show k ≠ 0 by omega))
    have hQ1 := hQ M1 (fun q g1 g2 => gf.1 q g1 (by omega)) gf.2
    rw [hkk] at hQ1
    refine aw_v1 (d1 := d - 1) (n := 12) (Z := mX6_asWhole) (ci := 4) (L0 := [_, _, .null]) dX6_labelled_9 kX6_asWhole gX6_45 iyX6_asWhole eyX6_asWhole rfl rfl (by assumption) rfl (Nat.le_of_ble_eq_true rfl) rfl rfl (by omega) (Nat.le_of_ble_eq_true rfl) (t_asWholeN hn ?_)
    dsimp only [aPush]
    refine aw_istore_n (n := 13) (L' := [_, _, _, _]) dX6_labelled_12 (Nat.le_of_ble_eq_true rfl) rfl rfl ?_
    refine aw_iload_n (n := 14) dX6_labelled_13 rfl rfl ?_
    refine aw_if_ge (tg := 20) (n := 17) dX6_labelled_14 (by decide) rfl (fun c_14 => by exact absurd c_14 hn) (fun c_14 => ?_)
    refine aw_bipush (n := 19) (v := 8) dX6_labelled_17 (by decide) rfl ?_
    refine aw_iret dX6_labelled_19 rfl ?_
    exact hQ1
  · dsimp only [aPush]
    have hpb0 : (0 : Int32) ≤ nI p := nI_pos' (by omega)
    rw [hev] at hlab
    obtain ⟨hvb1, hvb2⟩ := iV_st p (by omega)
    have hinpb : vp_in (nI p) rSt.length := vp_in_nI (show p < 60 by omega) (by decide)
    have hrpb : rSt[(nI p).toNatClampNeg]? = some (some (16 + 2 * p)) := by rw [nI_clamp (by omega)]; exact rSt_at p (by omega)
    have hQ1 := hQ M1 (fun q g1 g2 => gf.1 q g1 (by omega)) gf.2
    refine aw_v1 (d1 := d - 1) (n := 12) (Z := mX6_asWhole) (ci := 4) (L0 := [_, _, .null]) dX6_labelled_9 kX6_asWhole gX6_45 iyX6_asWhole eyX6_asWhole rfl rfl (by assumption) rfl (Nat.le_of_ble_eq_true rfl) rfl rfl (by omega) (Nat.le_of_ble_eq_true rfl) (t_asWhole (by omega) (by omega) gv (fun hl => ?_) (fun y hy => ?_))
    · dsimp only [aPush]
      have hn := ng_lt (lk_07 hl)
      have hkk : labS T inp lab r = 8 := hlab.trans (if_pos hl)
      rw [hkk] at hQ1
      refine aw_istore_n (n := 13) (L' := [_, _, _, _]) dX6_labelled_12 (Nat.le_of_ble_eq_true rfl) rfl rfl ?_
      refine aw_iload_n (n := 14) dX6_labelled_13 rfl rfl ?_
      refine aw_if_ge (tg := 20) (n := 17) dX6_labelled_14 (by decide) rfl (fun c_14 => by exact absurd c_14 hn) (fun c_14 => ?_)
      refine aw_bipush (n := 19) (v := 8) dX6_labelled_17 (by decide) rfl ?_
      refine aw_iret dX6_labelled_19 rfl ?_
      exact hQ1
    · dsimp only [aPush]
      subst hy
      have hyM := vAt_W gv
      have hlab : labS T inp lab r = if y < 0 ∨ 8 ≤ y then 8 else y.toNatClampNeg := hlab.trans (if_neg (fun q => q rfl))
      rw [hlab] at hQ1
      refine aw_istore_n (n := 13) (L' := [_, _, _, _]) dX6_labelled_12 (Nat.le_of_ble_eq_true rfl) rfl rfl ?_
      refine aw_iload_n (n := 14) dX6_labelled_13 rfl rfl ?_
      refine aw_if_ge (tg := 20) (n := 17) dX6_labelled_14 (by decide) rfl (fun c_14 => ?_) (fun c_14 => by exact absurd hpb0 c_14)
      refine aw_aload_n (n := 21) dX6_labelled_20 rfl rfl ?_
      refine aw_getr (n := 24) dX6_labelled_21 fX6_26 (by assumption) rfl rfl ?_
      refine aw_iload_n (n := 25) dX6_labelled_24 rfl rfl ?_
      refine aw_aald (n := 26) dX6_labelled_25 (by assumption) (by decide) (by assumption) (by assumption) rfl ?_
      refine aw_geti (n := 29) dX6_labelled_26 fX6_48 (by assumption) rfl rfl ?_
      rw [hyM]
      refine aw_istore_n (n := 30) (L' := [_, _, _, _]) dX6_labelled_29 (Nat.le_of_ble_eq_true rfl) rfl rfl ?_
      refine aw_iload_n (n := 31) dX6_labelled_30 rfl rfl ?_
      refine aw_if_lt (tg := 44) (n := 34) dX6_labelled_31 (by decide) rfl (fun c_31 => ?_) (fun c_31 => ?_)
      · refine aw_bipush (n := 46) (v := 8) dX6_labelled_44 (by decide) rfl ?_
        refine aw_iret dX6_labelled_46 rfl ?_
        first
          | (rw [if_pos (Or.inl c_31)] at hQ1; exact hQ1)
          | (rw [if_pos (Or.inr c_37)] at hQ1; exact hQ1)
          | (have hny : ¬ (y < 0 ∨ 8 ≤ y) := fun q => q.elim c_31 c_37
             obtain ⟨j, hj, rfl⟩ := vp_lt (n := 8) (by decide) c_31 c_37
             rw [if_neg hny, nI_clamp (by omega)] at hQ1
             exact hQ1)
      · refine aw_iload_n (n := 35) dX6_labelled_34 rfl rfl ?_
        refine aw_bipush (n := 37) (v := 8) dX6_labelled_35 (by decide) rfl ?_
        refine aw_icmp_ge (tg := 44) (n := 40) dX6_labelled_37 (by decide) rfl (fun c_37 => ?_) (fun c_37 => ?_)
        · refine aw_bipush (n := 46) (v := 8) dX6_labelled_44 (by decide) rfl ?_
          refine aw_iret dX6_labelled_46 rfl ?_
          first
            | (rw [if_pos (Or.inl c_31)] at hQ1; exact hQ1)
            | (rw [if_pos (Or.inr c_37)] at hQ1; exact hQ1)
            | (have hny : ¬ (y < 0 ∨ 8 ≤ y) := fun q => q.elim c_31 c_37
               obtain ⟨j, hj, rfl⟩ := vp_lt (n := 8) (by decide) c_31 c_37
               rw [if_neg hny, nI_clamp (by omega)] at hQ1
               exact hQ1)
        · refine aw_iload_n (n := 41) dX6_labelled_40 rfl rfl ?_
          refine aw_goto (n := 46) dX6_labelled_41 (by decide) ?_
          refine aw_iret dX6_labelled_46 rfl ?_
          first
            | (rw [if_pos (Or.inl c_31)] at hQ1; exact hQ1)
            | (rw [if_pos (Or.inr c_37)] at hQ1; exact hQ1)
            | (have hny : ¬ (y < 0 ∨ 8 ≤ y) := fun q => q.elim c_31 c_37
               obtain ⟨j, hj, rfl⟩ := vp_lt (n := 8) (by decide) c_31 c_37
               rw [if_neg hny, nI_clamp (by omega)] at hQ1
               exact hQ1)
end OUTC
