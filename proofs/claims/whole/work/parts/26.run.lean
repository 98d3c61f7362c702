theorem mkS_none {T : tm} {p : pr} {f nx : Nat} {s : rS} (h : cand s.2.2.2.2 nx = none) : mkS T p (f + 1) nx s = s := by
  rw [mkS, h]
theorem mkS_eq {T : tm} {p : pr} {f nx : Nat} {s : rS} {inp : Nat → vV} (h : cand s.2.2.2.2 nx = some inp) (ho : (outS T inp (p 3) (p 4) (p 6)).2 = s.2.1 3) : mkS T p (f + 1) nx s = mkS T p f 0 (s.1 + 1, upN (upN s.2.1 5 (s.2.1 5 + 1)) 6 (s.2.1 6 + 1), s.2.2.1, s.2.2.2.1, inp) := by
  rw [mkS, h]; exact if_pos ho
theorem mkS_ne {T : tm} {p : pr} {f nx : Nat} {s : rS} {inp : Nat → vV} (h : cand s.2.2.2.2 nx = some inp) (ho : ¬ (outS T inp (p 3) (p 4) (p 6)).2 = s.2.1 3) : mkS T p (f + 1) nx s = mkS T p f (nx + 1) (s.1 + 1, upN s.2.1 5 (s.2.1 5 + 1), s.2.2.1, s.2.2.2.1, s.2.2.2.2) := by
  rw [mkS, h]; exact if_neg ho
theorem tcS_fl (T : tm) (p : pr) (no : Nat) (inp : Nat → vV) (s : rS) (h : s.2.2.2.1 < 0) : (tcS T p no inp s).2.2.2.1 < 0 ∨ (tcS T p no inp s).2.2.2.1 = nI no := by
  unfold tcS
  by_cases ho : 0 < (outS T inp (p 3) (p 4) (p 6)).2
  · right; exact if_pos ho
  · left
    rw [if_neg (c := 0 < (outS T inp (p 3) (p 4) (p 6)).2) ho]; exact h
def runA (s : rS) (n : Nat) : Int32 := if s.2.2.2.1 < 0 then (if s.2.1 1 * 10 < nI n then 2 else 1) else 0
section RUN
variable {l : Launch} {K : aK} {d : Nat} {M : aM} {Q : Option Value → aE → aM → Prop}
theorem cS_R0 {s : rS} {M M' : aM} (h : cS s M) (h1 : M' 1 4 = M 1 4) (h2 : M' 162 = M 162) (h3 : M' 163 = M 163) (h4 : M' 0 8 = M 0 8) (h5 : ∀ q, 137 ≤ q → q < 143 → M' q = M q) : cS s M' := by
  obtain ⟨g1, g2, g3, g4, g5⟩ := h
  exact ⟨h1.trans g1, fun k hk => by rw [h2]; exact g2 k hk, fun k hk => by rw [h3]; exact g3 k hk, h4.trans g4, fun hn i hi => vAt_same (g5 hn i hi) (h5 _ (by omega) (by omega)) (h5 _ (by omega) (by omega))⟩
theorem t_makeSmaller {cnt np k : Nat} {T : tm} {P : Nat → pr} {s : rS} (hd : 144 ≤ d) (hW : wfA cnt T np P) (hA : cA cnt T np P M) (hk : k < np) (hS : cS s M) (hfl : s.2.2.2.1 = nI k)
    (hQ : ∀ M', cS (setl (mkS T (P k) 200 0 s)) M' → fR0 M M' → Q none EE M') : aw l K mX7_makeSmaller d 0 0 0 [.ref 0, .null, .null] [] EE M Q := by
  have e0 := E_0
  have e1 := E_1
  have e145 := E_145r
  have e162 := E_162
  have hk8 : k < 8 := by have := hW.2.2.1; omega
  have hinp : vp_in (nI k) rPr.length := vp_in_nI (show k < 8 by omega) (by decide)
  have hrp : rPr[(nI k).toNatClampNeg]? = some (some (146 + 2 * k)) := by rw [nI_clamp (by omega)]; exact rPr_at k hk8
  have ip1 := (iP_at k hk8).1
  have hnn : ¬ nI k < 0 := nI_pos (by omega)
  have fin : ∀ (s' : rS) (M1 : aM) (x1 x2 : Value), cS s' M1 → fR0 M M1 → setl (mkS T (P k) 200 0 s) = setl s' → aw l K mX7_makeSmaller d 0 0 93 [.ref 0, x1, x2] [] EE M1 Q := by
    intro s' M1 x1 x2 h1 h2 he
    have m6 : M1 162 6 = s'.2.1 5 := h1.2.1 5 (by decide)
    rw [he] at hQ
    refine aw_aload_n (n := 94) dX7_makeSmaller_93 rfl rfl ?_
    refine aw_getr (n := 97) dX7_makeSmaller_94 fX7_52 (by assumption) rfl rfl ?_
    refine aw_aload_n (n := 98) dX7_makeSmaller_97 rfl rfl ?_
    refine aw_getr (n := 101) dX7_makeSmaller_98 fX7_52 (by assumption) rfl rfl ?_
    refine aw_geti (n := 104) dX7_makeSmaller_101 fX7_176 (by assumption) rfl rfl ?_
    refine aw_sipush (n := 107) (v := 200) dX7_makeSmaller_104 (by decide) rfl ?_
    rw [m6]
    refine aw_icmp_ge (tg := 114) (n := 110) dX7_makeSmaller_107 (by decide) rfl (fun c_107 => ?_) (fun c_107 => ?_)
    · refine aw_iconst (n := 115) (v := 0) dX7_makeSmaller_114 (by decide) rfl ?_
      refine aw_putz (n := 118) dX7_makeSmaller_115 pX7_184 (by assumption) rfl (by first | exact Or.inl rfl | exact Or.inr rfl) rfl ?_
      refine aw_vret dX7_makeSmaller_118 rfl ?_
      refine hQ _ ⟨?_, ?_, ?_, ?_, ?_⟩ ?_
      · rw [up2_a _ _ (by decide)]; exact h1.1
      · intro j hj
        show _ = upN s'.2.1 7 _ j
        unfold upN
        by_cases hj7 : j = 7
        · rw [if_pos hj7, hj7, up2_s]
          first
            | exact (if_pos (i_nle.mp c_107)).symm
            | exact (if_neg (i_nlt.mpr c_107)).symm
        · rw [if_neg hj7, up2_k _ _ (by omega)]; exact h1.2.1 j hj
      · intro j hj; rw [up2_a _ _ (by decide)]; exact h1.2.2.1 j hj
      · rw [up2_a _ _ (by decide)]; exact h1.2.2.2.1
      · intro hn i hi; exact vAt_same (h1.2.2.2.2 hn i hi) (up2_ra _ _ (by omega)) (up2_ra _ _ (by omega))
      · exact fR0_trans h2 ⟨fun q hq => up2_ra _ _ (by omega), fun j _ => up2_a _ _ (by decide)⟩
    · refine aw_iconst (n := 111) (v := 1) dX7_makeSmaller_110 (by decide) rfl ?_
      refine aw_goto (n := 115) dX7_makeSmaller_111 (by decide) ?_
      refine aw_putz (n := 118) dX7_makeSmaller_115 pX7_184 (by assumption) rfl (by first | exact Or.inl rfl | exact Or.inr rfl) rfl ?_
      refine aw_vret dX7_makeSmaller_118 rfl ?_
      refine hQ _ ⟨?_, ?_, ?_, ?_, ?_⟩ ?_
      · rw [up2_a _ _ (by decide)]; exact h1.1
      · intro j hj
        show _ = upN s'.2.1 7 _ j
        unfold upN
        by_cases hj7 : j = 7
        · rw [if_pos hj7, hj7, up2_s]
          first
            | exact (if_pos (i_nle.mp c_107)).symm
            | exact (if_neg (i_nlt.mpr c_107)).symm
        · rw [if_neg hj7, up2_k _ _ (by omega)]; exact h1.2.1 j hj
      · intro j hj; rw [up2_a _ _ (by decide)]; exact h1.2.2.1 j hj
      · rw [up2_a _ _ (by decide)]; exact h1.2.2.2.1
      · intro hn i hi; exact vAt_same (h1.2.2.2.2 hn i hi) (up2_ra _ _ (by omega)) (up2_ra _ _ (by omega))
      · exact fR0_trans h2 ⟨fun q hq => up2_ra _ _ (by omega), fun j _ => up2_a _ _ (by decide)⟩
  have loop : ∀ f nx ct (s' : rS) (M1 : aM), f + ct = 200 → nx ≤ ct → cS s' M1 → fR0 M M1 → s'.2.2.2.1 = nI k → mkS T (P k) 200 0 s = mkS T (P k) f nx s' → aw l K mX7_makeSmaller d 0 0 4 [.ref 0, .int (nI nx), .int (nI ct)] [] EE M1 Q := by
    intro f
    induction f with
    | zero =>
      intro nx ct s' M1 hf hn h1 h2 h3 he
      obtain rfl : ct = 200 := by omega
      refine aw_iload_n (n := 5) dX7_makeSmaller_4 rfl rfl ?_
      refine aw_sipush (n := 8) (v := 200) dX7_makeSmaller_5 (by decide) rfl ?_
      refine aw_icmp_ge (tg := 93) (n := 11) dX7_makeSmaller_8 (by decide) rfl (fun c_8 => ?_) (fun c_8 => by exact absurd (by decide) c_8)
      exact fin s' M1 _ _ h1 h2 (congrArg setl he)
    | succ f ih =>
      intro nx ct s' M1 hf hn h1 h2 h3 he
      obtain ⟨w1, w2, w3, w4⟩ := hW
      obtain ⟨q1, q2, q3, q4⟩ := w4 k hk
      refine aw_iload_n (n := 5) dX7_makeSmaller_4 rfl rfl ?_
      refine aw_sipush (n := 8) (v := 200) dX7_makeSmaller_5 (by decide) rfl ?_
      refine aw_icmp_ge (tg := 93) (n := 11) dX7_makeSmaller_8 (by decide) rfl (fun c_8 => by exact absurd c_8 (nI_ge (b := 200) (by omega) (by decide))) (fun c_8 => ?_)
      refine aw_aload_n (n := 12) dX7_makeSmaller_11 rfl rfl ?_
      refine aw_iload_n (n := 13) dX7_makeSmaller_12 rfl rfl ?_
      refine aw_v1 (d1 := d - 1) (n := 16) (Z := mX7_takeCandidate) (ci := 5) (L0 := [_, _, .null, .null, .null]) dX7_makeSmaller_13 kX7_takeCandidate gX7_173 iyX7_takeCandidate eyX7_takeCandidate rfl rfl (by assumption) rfl (Nat.le_of_ble_eq_true rfl) rfl rfl (by omega) (Nat.le_of_ble_eq_true rfl) (t_takeCandidate (inp := s'.2.2.2.2) (by omega) (by omega) (h1.2.2.2.2 (by rw [h3]; exact hnn)) (fun hc => ?_) (fun inp M2 hc hI hf2 => ?_))
      · dsimp only [aPush]
        refine aw_if_eq (tg := 93) (n := 19) dX7_makeSmaller_16 (by decide) rfl (fun c_16 => ?_) (fun c_16 => by exact absurd rfl c_16)
        exact fin s' M1 _ _ h1 h2 (congrArg setl (he.trans (mkS_none hc)))
      · dsimp only [aPush]
        have f2 : fR0 M M2 := fR0_trans h2 ⟨fun q hq => hf2 q (by omega), fun j _ => by rw [hf2 0 (by omega)]⟩
        have m6 : M2 162 6 = s'.2.1 5 := by rw [hf2 162 (by omega)]; exact h1.2.1 5 (by decide)
        have m08 : M2 0 8 = nI k := by rw [hf2 0 (by omega), h1.2.2.2.1, h3]
        refine aw_if_eq (tg := 93) (n := 19) dX7_makeSmaller_16 (by decide) rfl (fun c_16 => by exact absurd c_16 (by decide)) (fun c_16 => ?_)
        refine aw_aload_n (n := 20) dX7_makeSmaller_19 rfl rfl ?_
        refine aw_getr (n := 23) dX7_makeSmaller_20 fX7_52 (by assumption) rfl rfl ?_
        refine aw_dup (n := 24) dX7_makeSmaller_23 rfl rfl ?_
        refine aw_geti (n := 27) dX7_makeSmaller_24 fX7_176 (by assumption) rfl rfl ?_
        refine aw_iconst (n := 28) (v := 1) dX7_makeSmaller_27 (by decide) rfl ?_
        refine aw_iadd (n := 29) dX7_makeSmaller_28 rfl ?_
        refine aw_puti (n := 32) dX7_makeSmaller_29 pX7_176 (by assumption) rfl rfl ?_
        refine aw_incp (n := 35) (L' := [_, _, _]) dX7_makeSmaller_32 rfl rfl rfl ?_
        obtain ⟨M3, hM3⟩ : ∃ M3, M3 = up2 M2 162 6 (M2 162 6 + 1) := ⟨_, rfl⟩
        rw [← hM3, nI_1]
        have g3 : ∀ q, q ≠ 162 → M3 q = M2 q := fun q hq => by rw [hM3]; exact up2_ra _ _ hq
        have f3 : fR0 M M3 := fR0_trans f2 ⟨fun q hq => g3 q (by omega), fun j _ => by rw [g3 0 (by omega)]⟩
        obtain ⟨A1, A2, A3, A4⟩ := cA_same hA f3 w3
        obtain ⟨p1, p2, p3, p4, p5⟩ := A4 k hk
        have m08' : M3 0 8 = nI k := by rw [g3 0 (by omega)]; exact m08
        refine aw_aload_n (n := 36) dX7_makeSmaller_35 rfl rfl ?_
        refine aw_getr (n := 39) dX7_makeSmaller_36 fX7_10 (by assumption) rfl rfl ?_
        refine aw_aload_n (n := 40) dX7_makeSmaller_39 rfl rfl ?_
        refine aw_getr (n := 43) dX7_makeSmaller_40 fX7_44 (by assumption) rfl rfl ?_
        refine aw_aload_n (n := 44) dX7_makeSmaller_43 rfl rfl ?_
        refine aw_geti (n := 47) dX7_makeSmaller_44 fX7_60 (by assumption) rfl rfl ?_
        rw [m08']
        refine aw_aald (n := 48) dX7_makeSmaller_47 (by assumption) (by decide) (by assumption) (by assumption) rfl ?_
        refine aw_v1 (d1 := d - 1) (n := 51) (Z := mX6_outcome) (ci := 4) (L0 := [_, _, .null]) dX7_makeSmaller_48 kX6_outcome gX7_144 iyX6_outcome eyX6_outcome rfl rfl (by assumption) rfl (Nat.le_of_ble_eq_true rfl) rfl rfl (by omega) (Nat.le_of_ble_eq_true rfl) (t_outcome (inp := inp) (by omega) w1 w2 (iP_at k hk8) (by omega) A2 (fun i hi => vAt_same (hI i hi) (g3 _ (by omega)) (g3 _ (by omega))) p2 p3 p5 q2 q3 (fun M4 k1 k2 k3 => ?_))
        dsimp only [aPush]
        refine aw_aload_n (n := 52) dX7_makeSmaller_51 rfl rfl ?_
        refine aw_getr (n := 55) dX7_makeSmaller_52 fX7_52 (by assumption) rfl rfl ?_
        refine aw_geti (n := 58) dX7_makeSmaller_55 fX7_179 (by assumption) rfl rfl ?_
        have m4 : M4 162 4 = s'.2.1 3 := by rw [k3.1 162 (by omega) (by omega), hM3, up2_k _ _ (by decide), hf2 162 (by omega)]; exact h1.2.1 3 (by decide)
        rw [m4]
        have f4 : fR0 M M4 := fR0_trans f3 (fO_R0 k3)
        have t4 : M4 1 4 = nI (s'.1 + 1) := by rw [k3.2.1, g3 1 (by omega), hf2 1 (by omega), h1.1, nI_1]
        have s4 : ∀ j, j < 8 → M4 162 (j + 1) = upN s'.2.1 5 (s'.2.1 5 + 1) j := by
          intro j hj
          rw [k3.1 162 (by omega) (by omega), hM3]
          unfold upN
          by_cases hj5 : j = 5
          · rw [if_pos hj5, hj5, up2_s, m6]
          · rw [if_neg hj5, up2_k _ _ (by omega), hf2 162 (by omega)]; exact h1.2.1 j hj
        have l4 : ∀ j, j < 9 → M4 163 j = s'.2.2.1 j := fun j hj => by rw [k3.1 163 (by omega) (by omega), g3 163 (by omega), hf2 163 (by omega)]; exact h1.2.2.1 j hj
        have o4 : M4 0 8 = s'.2.2.2.1 := by rw [k3.1 0 (by omega) (by omega), m08', h3]
        refine aw_icmp_ne (tg := 87) (n := 61) dX7_makeSmaller_58 (by decide) rfl (fun c_58 => ?_) (fun c_58 => ?_)
        · refine aw_incp (n := 90) (L' := [_, _, _]) dX7_makeSmaller_87 rfl rfl rfl ?_
          refine aw_goto (n := 4) dX7_makeSmaller_90 (by decide) ?_
          rw [nI_1]
          refine ih (nx + 1) (ct + 1) (s'.1 + 1, upN s'.2.1 5 (s'.2.1 5 + 1), s'.2.2.1, s'.2.2.2.1, s'.2.2.2.2) M4 (by omega) (by omega) ⟨t4, s4, l4, o4, ?_⟩ f4 h3 (he.trans (mkS_ne hc c_58))
          intro hn i hi
          exact vAt_same (h1.2.2.2.2 hn i hi) (by rw [k3.1 _ (by omega) (by omega), g3 _ (by omega), hf2 _ (by omega)]) (by rw [k3.1 _ (by omega) (by omega), g3 _ (by omega), hf2 _ (by omega)])
        · refine aw_aload_n (n := 62) dX7_makeSmaller_61 rfl rfl ?_
          refine aw_getr (n := 65) dX7_makeSmaller_62 fX7_52 (by assumption) rfl rfl ?_
          refine aw_dup (n := 66) dX7_makeSmaller_65 rfl rfl ?_
          refine aw_geti (n := 69) dX7_makeSmaller_66 fX7_181 (by assumption) rfl rfl ?_
          refine aw_iconst (n := 70) (v := 1) dX7_makeSmaller_69 (by decide) rfl ?_
          refine aw_iadd (n := 71) dX7_makeSmaller_70 rfl ?_
          refine aw_puti (n := 74) dX7_makeSmaller_71 pX7_181 (by assumption) rfl rfl ?_
          refine aw_aload_n (n := 75) dX7_makeSmaller_74 rfl rfl ?_
          obtain ⟨M5, hM5⟩ : ∃ M5, M5 = up2 M4 162 7 (M4 162 7 + 1) := ⟨_, rfl⟩
          rw [← hM5]
          have g5 : ∀ q, q ≠ 162 → M5 q = M4 q := fun q hq => by rw [hM5]; exact up2_ra _ _ hq
          refine aw_getr (n := 78) dX7_makeSmaller_75 fX7_25 (by assumption) rfl rfl ?_
          refine aw_aload_n (n := 79) dX7_makeSmaller_78 rfl rfl ?_
          refine aw_getr (n := 82) dX7_makeSmaller_79 fX7_32 (by assumption) rfl rfl ?_
          refine aw_s2 (d1 := d - 1) (n := 85) (Z := mX7_copyAll) (L0 := [_, _, .null]) dX7_makeSmaller_82 kX7_copyAll gX7_140 syX7_copyAll rfl rfl (Nat.le_of_ble_eq_true rfl) rfl rfl (by omega) (Nat.le_of_ble_eq_true rfl) (t_toSmallest (inp := inp) (by omega) (fun i hi => vAt_same (hI i hi) (by rw [g5 _ (by omega), k3.1 _ (by omega) (by omega), g3 _ (by omega)]) (by rw [g5 _ (by omega), k3.1 _ (by omega) (by omega), g3 _ (by omega)])) (fun M6 j1 j2 => ?_))
          dsimp only [aPush]
          refine aw_iconst (n := 86) (v := 0) dX7_makeSmaller_85 (by decide) rfl ?_
          refine aw_istore_n (n := 87) (L' := [_, _, _]) dX7_makeSmaller_86 (Nat.le_of_ble_eq_true rfl) rfl rfl ?_
          refine aw_incp (n := 90) (L' := [_, _, _]) dX7_makeSmaller_87 rfl rfl rfl ?_
          refine aw_goto (n := 4) dX7_makeSmaller_90 (by decide) ?_
          rw [nI_1]
          refine ih 0 (ct + 1) (s'.1 + 1, upN (upN s'.2.1 5 (s'.2.1 5 + 1)) 6 (s'.2.1 6 + 1), s'.2.2.1, s'.2.2.2.1, inp) M6 (by omega) (by omega) ⟨?_, ?_, ?_, ?_, fun _ => j1⟩ ?_ h3 (he.trans (mkS_eq hc c_58))
          · rw [j2 1 (by omega), g5 1 (by omega)]; exact t4
          · intro j hj
            rw [j2 162 (by omega), hM5]
            show _ = upN (upN s'.2.1 5 (s'.2.1 5 + 1)) 6 (s'.2.1 6 + 1) j
            by_cases hj6 : j = 6
            · rw [hj6, up2_s, s4 6 (by decide)]
              rfl
            · rw [up2_k _ _ (by omega), s4 j hj]
              exact (if_neg hj6).symm
          · intro j hj; rw [j2 163 (by omega), g5 163 (by omega)]; exact l4 j hj
          · rw [j2 0 (by omega), g5 0 (by omega)]; exact o4
          · exact fR0_trans f4 ⟨fun q hq => by rw [j2 q (by omega), g5 q (by omega)], fun j _ => by rw [j2 0 (by omega), g5 0 (by omega)]⟩
  refine aw_iconst (n := 1) (v := 0) dX7_makeSmaller_0 (by decide) rfl ?_
  refine aw_istore_n (n := 2) (L' := [_, _, _]) dX7_makeSmaller_1 (Nat.le_of_ble_eq_true rfl) rfl rfl ?_
  refine aw_iconst (n := 3) (v := 0) dX7_makeSmaller_2 (by decide) rfl ?_
  refine aw_istore_n (n := 4) (L' := [_, _, _]) dX7_makeSmaller_3 (Nat.le_of_ble_eq_true rfl) rfl rfl ?_
  exact loop 200 0 0 s M (by omega) (Nat.le_refl _) hS (fR0_refl M) hfl rfl
theorem t_forget {s : rS} (hd : 1 ≤ d) (hS : cS s M) (hQ : ∀ M', cS (rS0 s.1 s.2.2.2.2) M' → fR0 M M' → Q none EE M') : aw l K mX7_forgetLatest d 0 0 0 [.ref 0] [] EE M Q := by
  have e0 := E_0
  have e162 := E_162
  refine aw_aload_n (n := 1) dX7_forgetLatest_0 rfl rfl ?_
  refine aw_getr (n := 4) dX7_forgetLatest_1 fX7_52 (by assumption) rfl rfl ?_
  refine aw_v0 (d1 := d - 1) (n := 7) (Z := mX3_clear) (ci := 1) (L0 := [_, .null]) dX7_forgetLatest_4 kX3_clear gX7_161 iyX3_clear eyX3_clear rfl rfl (by assumption) (Nat.le_of_ble_eq_true rfl) rfl rfl (by omega) (Nat.le_of_ble_eq_true rfl) (t_clear (fun M1 h1 h2 h3 => ?_))
  dsimp only [aPush]
  refine aw_aload_n (n := 8) dX7_forgetLatest_7 rfl rfl ?_
  refine aw_iconst (n := 9) (v := -1) dX7_forgetLatest_8 (by decide) rfl ?_
  refine aw_puti (n := 12) dX7_forgetLatest_9 pX7_60 (by assumption) rfl rfl ?_
  refine aw_vret dX7_forgetLatest_12 rfl ?_
  refine hQ _ ⟨?_, ?_, ?_, ?_, ?_⟩ ⟨fun q hq => by rw [up2_ra _ _ (by omega), h3 q (by omega) (by omega)], fun j hj => by rw [up2_k _ _ hj, h3 0 (by omega) (by omega)]⟩
  · rw [up2_a _ _ (by decide), h3 1 (by omega) (by omega)]; exact hS.1
  · intro k hk; rw [up2_a _ _ (by decide)]; exact h1 k hk
  · intro k hk; rw [up2_a _ _ (by decide)]; exact h2 k hk
  · rw [up2_s]; rfl
  · intro hn; exact absurd (show (-1 : Int32) < 0 by decide) hn
theorem t_run {cnt np k n : Nat} {T : tm} {P : Nat → pr} {s : rS} {seed : Int32} (hd : 146 ≤ d) (hW : wfA cnt T np P) (hA : cA cnt T np P M) (hk : k < np) (hS : cS s M) (hn1 : 1 ≤ n) (hn2 : n ≤ 200) (htr : s.1 + n + 200 ≤ 3000)
    (hQ : ∀ M', cS (runS T (P k) k n seed s.1 s.2.2.2.2) M' → fR0 M M' → Q (some (.int (runA (runL T (P k) k (drI (P k) seed) n 0 (rS0 s.1 s.2.2.2.2)) n))) EE M') : aw l K mX7_run d 0 0 0 [.ref 0, .int (nI k), .int (nI n), .int seed, .null, .null] [] EE M Q := by
  have e0 := E_0
  have e1 := E_1
  have e8 := E_8r
  have e145 := E_145r
  have e162 := E_162
  have hk8 : k < 8 := by have := hW.2.2.1; omega
  have hnp8 : np ≤ 8 := hW.2.2.1
  have m07 : M 0 7 = nI np := hA.2.2.1
  have m14 : M 1 4 = nI s.1 := hS.1
  have hinp : vp_in (nI k) rPr.length := vp_in_nI (show k < 8 by omega) (by decide)
  have hrp : rPr[(nI k).toNatClampNeg]? = some (some (146 + 2 * k)) := by rw [nI_clamp (by omega)]; exact rPr_at k hk8
  obtain ⟨ip1, ip2⟩ := iP_at k hk8
  have hnn : ¬ nI k < 0 := nI_pos (by omega)
  obtain ⟨sL, hsL⟩ : ∃ sL, sL = runL T (P k) k (drI (P k) seed) n 0 (rS0 s.1 s.2.2.2.2) := ⟨_, rfl⟩
  have hrun : runS T (P k) k n seed s.1 s.2.2.2.2 = if sL.2.2.2.1 < 0 then sL else setl (mkS T (P k) 200 0 sL) := by rw [hsL]; rfl
  rw [← hsL, hrun] at hQ
  have fin : ∀ (M1 : aM) (x4 x5 : Value), cS sL M1 → fR0 M M1 → (¬ sL.2.2.2.1 < 0 → sL.2.2.2.1 = nI k) → aw l K mX7_run d 0 0 117 [.ref 0, .int (nI k), .int (nI n), .int seed, x4, x5] [] EE M1 Q := by
    intro M1 x4 x5 h1 h2 h3
    have m08 : M1 0 8 = sL.2.2.2.1 := h1.2.2.2.1
    have m2 : M1 162 2 = sL.2.1 1 := h1.2.1 1 (by decide)
    refine aw_aload_n (n := 118) dX7_run_117 rfl rfl ?_
    refine aw_geti (n := 121) dX7_run_118 fX7_60 (by assumption) rfl rfl ?_
    rw [m08]
    refine aw_if_lt (tg := 130) (n := 124) dX7_run_121 (by decide) rfl (fun c_121 => ?_) (fun c_121 => ?_)
    · refine aw_aload_n (n := 131) dX7_run_130 rfl rfl ?_
      refine aw_getr (n := 134) dX7_run_131 fX7_52 (by assumption) rfl rfl ?_
      refine aw_geti (n := 137) dX7_run_134 fX7_124 (by assumption) rfl rfl ?_
      refine aw_bipush (n := 139) (v := 10) dX7_run_137 (by decide) rfl ?_
      refine aw_imul (n := 140) dX7_run_139 rfl ?_
      refine aw_iload_n (n := 141) dX7_run_140 rfl rfl ?_
      rw [m2]
      refine aw_icmp_ge (tg := 148) (n := 144) dX7_run_141 (by decide) rfl (fun c_141 => ?_) (fun c_141 => ?_)
      · refine aw_iconst (n := 149) (v := 1) dX7_run_148 (by decide) rfl ?_
        refine aw_iret dX7_run_149 rfl ?_
        rw [if_pos c_121] at hQ
        have h9 := hQ _ h1 h2
        first
          | (rw [show runA sL n = 2 from (if_pos c_121).trans (if_pos (i_nle.mp c_141))] at h9; exact h9)
          | (rw [show runA sL n = 1 from (if_pos c_121).trans (if_neg (i_nlt.mpr c_141))] at h9; exact h9)
      · refine aw_iconst (n := 145) (v := 2) dX7_run_144 (by decide) rfl ?_
        refine aw_goto (n := 149) dX7_run_145 (by decide) ?_
        refine aw_iret dX7_run_149 rfl ?_
        rw [if_pos c_121] at hQ
        have h9 := hQ _ h1 h2
        first
          | (rw [show runA sL n = 2 from (if_pos c_121).trans (if_pos (i_nle.mp c_141))] at h9; exact h9)
          | (rw [show runA sL n = 1 from (if_pos c_121).trans (if_neg (i_nlt.mpr c_141))] at h9; exact h9)
    · refine aw_aload_n (n := 125) dX7_run_124 rfl rfl ?_
      refine aw_v0 (d1 := d - 1) (n := 128) (Z := mX7_makeSmaller) (ci := 5) (L0 := [_, .null, .null]) dX7_run_125 kX7_makeSmaller gX7_121 iyX7_makeSmaller eyX7_makeSmaller rfl rfl (by assumption) (Nat.le_of_ble_eq_true rfl) rfl rfl (by omega) (Nat.le_of_ble_eq_true rfl) (t_makeSmaller (by omega) hW (cA_same hA h2 hnp8) hk h1 (h3 c_121) (fun M2 g1 g2 => ?_))
      dsimp only [aPush]
      refine aw_iconst (n := 129) (v := 0) dX7_run_128 (by decide) rfl ?_
      refine aw_iret dX7_run_129 rfl ?_
      rw [if_neg c_121] at hQ
      have := hQ _ g1 (fR0_trans h2 g2)
      rw [show runA sL n = 0 from if_neg c_121] at this
      exact this
  have inner : ∀ m i c (M1 : aM), m + i = 3 → c < 200 → fR0 M M1 → (∀ j, j < i → vAt M1 (9 + 2 * j) (drI (P k) seed c j)) → (∀ M2, cI (drI (P k) seed c) M2 → (∀ q, q < 9 ∨ 15 ≤ q → M2 q = M1 q) → aw l K mX7_run d 0 0 106 [.ref 0, .int (nI k), .int (nI n), .int seed, .int (nI c), .int (nI 3)] [] EE M2 Q) → aw l K mX7_run d 0 0 67 [.ref 0, .int (nI k), .int (nI n), .int seed, .int (nI c), .int (nI i)] [] EE M1 Q := by
    intro m
    induction m with
    | zero =>
      intro i c M1 hi hc hf h1 h2
      obtain rfl : i = 3 := by omega
      refine aw_iload (n := 69) dX7_run_67 rfl rfl ?_
      refine aw_iconst (n := 70) (v := 3) dX7_run_69 (by decide) rfl ?_
      refine aw_icmp_ge (tg := 106) (n := 73) dX7_run_70 (by decide) rfl (fun c_70 => ?_) (fun c_70 => by exact absurd (by decide) c_70)
      exact h2 M1 h1 (fun _ _ => rfl)
    | succ m ih =>
      intro i c M1 hi hc hf h1 h2
      have hi3 : i < 3 := by omega
      have hin : vp_in (nI i) rIn.length := vp_in_nI (show i < 3 by omega) (by decide)
      have hin3 : vp_in (nI i) 3 := vp_in_nI (show i < 3 by omega) (by decide)
      have hr : rIn[(nI i).toNatClampNeg]? = some (some (9 + 2 * i)) := by rw [nI_clamp (by omega)]; exact rIn_at i hi3
      have hii : (nI i).toNatClampNeg = i := nI_clamp (by omega)
      have hty : M1 (146 + 2 * k + 1) i = P k i := by rw [hf.1 _ (by omega)]; exact (hA.2.2.2 k hk).1 i hi3
      refine aw_iload (n := 69) dX7_run_67 rfl rfl ?_
      refine aw_iconst (n := 70) (v := 3) dX7_run_69 (by decide) rfl ?_
      refine aw_icmp_ge (tg := 106) (n := 73) dX7_run_70 (by decide) rfl (fun c_70 => by exact absurd c_70 (nI_ge (b := 3) hi3 (by decide))) (fun c_70 => ?_)
      refine aw_aload_n (n := 74) dX7_run_73 rfl rfl ?_
      refine aw_getr (n := 77) dX7_run_74 fX7_25 (by assumption) rfl rfl ?_
      refine aw_iload (n := 79) dX7_run_77 rfl rfl ?_
      refine aw_aald (n := 80) dX7_run_79 (by assumption) (by decide) (by assumption) (by assumption) rfl ?_
      refine aw_iload_n (n := 81) dX7_run_80 rfl rfl ?_
      refine aw_iload (n := 83) dX7_run_81 rfl rfl ?_
      refine aw_iload (n := 85) dX7_run_83 rfl rfl ?_
      refine aw_aload_n (n := 86) dX7_run_85 rfl rfl ?_
      refine aw_getr (n := 89) dX7_run_86 fX7_44 (by assumption) rfl rfl ?_
      refine aw_iload_n (n := 90) dX7_run_89 rfl rfl ?_
      refine aw_aald (n := 91) dX7_run_90 (by assumption) (by decide) (by assumption) (by assumption) rfl ?_
      refine aw_getr (n := 94) dX7_run_91 fX7_107 (by assumption) rfl rfl ?_
      refine aw_iload (n := 96) dX7_run_94 rfl rfl ?_
      refine aw_iald (n := 97) dX7_run_96 (by assumption) (by assumption) rfl ?_
      rw [hii, hty]
      refine aw_s5 (d1 := d - 1) (n := 100) (Z := mX0_into) (L0 := [_, _, _, _, _, .null, .null, .null]) dX7_run_97 kX0_into gX7_111 syX0_into rfl rfl rfl rfl rfl (Nat.le_of_ble_eq_true rfl) rfl rfl (by omega) (Nat.le_of_ble_eq_true rfl) (t_drawInto (by omega) (iV_in i hi3) hc hi3 (fun M2 g1 g2 => ?_))
      dsimp only [aPush]
      refine aw_incp (n := 103) (L' := [_, _, _, _, _, _]) dX7_run_100 rfl rfl rfl ?_
      refine aw_goto (n := 67) dX7_run_103 (by decide) ?_
      rw [nI_1]
      refine ih (i + 1) c M2 (by omega) hc (fR0_trans hf ⟨fun q hq => g2 q (by omega) (by omega), fun j _ => by rw [g2 0 (by omega) (by omega)]⟩) (fun j hj => ?_) (fun M3 g3 g4 => h2 M3 g3 (fun q hq => by rw [g4 q hq, g2 q (by omega) (by omega)]))
      by_cases hji : j = i
      · subst hji; exact g1
      · exact vAt_same (h1 j (by omega)) (g2 _ (by omega) (by omega)) (g2 _ (by omega) (by omega))
  have loop : ∀ m c (s' : rS) (M1 : aM) (x5 : Value), m + c = n → cS s' M1 → fR0 M M1 → (¬ s'.2.2.2.1 < 0 → s'.2.2.2.1 = nI k) → sL = runL T (P k) k (drI (P k) seed) m c s' → aw l K mX7_run d 0 0 51 [.ref 0, .int (nI k), .int (nI n), .int seed, .int (nI c), x5] [] EE M1 Q := by
    intro m
    induction m with
    | zero =>
      intro c s' M1 x5 hc h1 h2 h3 he
      obtain rfl : sL = s' := he
      refine aw_iload (n := 53) dX7_run_51 rfl rfl ?_
      refine aw_iload_n (n := 54) dX7_run_53 rfl rfl ?_
      refine aw_icmp_ge (tg := 117) (n := 57) dX7_run_54 (by decide) rfl (fun c_54 => ?_) (fun c_54 => by exact absurd (nI_le (by omega) (by omega)) c_54)
      exact fin M1 _ _ h1 h2 h3
    | succ m ih =>
      intro c s' M1 x5 hc h1 h2 h3 he
      have m08 : M1 0 8 = s'.2.2.2.1 := h1.2.2.2.1
      refine aw_iload (n := 53) dX7_run_51 rfl rfl ?_
      refine aw_iload_n (n := 54) dX7_run_53 rfl rfl ?_
      refine aw_icmp_ge (tg := 117) (n := 57) dX7_run_54 (by decide) rfl (fun c_54 => by exact absurd c_54 (nI_ge (by omega) (by omega))) (fun c_54 => ?_)
      refine aw_aload_n (n := 58) dX7_run_57 rfl rfl ?_
      refine aw_geti (n := 61) dX7_run_58 fX7_60 (by assumption) rfl rfl ?_
      rw [m08]
      refine aw_if_ge (tg := 117) (n := 64) dX7_run_61 (by decide) rfl (fun c_61 => ?_) (fun c_61 => ?_)
      · have hs : sL = s' := he.trans (if_neg (i_nlt.mpr c_61))
        subst hs
        exact fin M1 _ _ h1 h2 h3
      · refine aw_iconst (n := 65) (v := 0) dX7_run_64 (by decide) rfl ?_
        refine aw_istore (n := 67) (L' := [_, _, _, _, _, _]) dX7_run_65 (Nat.le_of_ble_eq_true rfl) rfl rfl ?_
        have hlt : s'.2.2.2.1 < 0 := i_nle.mp c_61
        refine inner 3 0 c M1 (by omega) (by omega) h2 (fun j hj => by omega) (fun M2 g1 g2 => ?_)
        have f2 : fR0 M M2 := fR0_trans h2 ⟨fun q hq => g2 q (by omega), fun j _ => by rw [g2 0 (by omega)]⟩
        refine aw_aload_n (n := 107) dX7_run_106 rfl rfl ?_
        refine aw_iload_n (n := 108) dX7_run_107 rfl rfl ?_
        refine aw_v1 (d1 := d - 1) (n := 111) (Z := mX7_tryCase) (ci := 5) (L0 := [_, _, .null]) dX7_run_108 kX7_tryCase gX7_117 iyX7_tryCase eyX7_tryCase rfl rfl (by assumption) rfl (Nat.le_of_ble_eq_true rfl) rfl rfl (by omega) (Nat.le_of_ble_eq_true rfl) (t_tryCase (s := s') (inp := drI (P k) seed c) (by omega) hW (cA_same hA f2 hnp8) hk g1 (cS_R0 h1 (by rw [g2 1 (by omega)]) (g2 162 (by omega)) (g2 163 (by omega)) (by rw [g2 0 (by omega)]) (fun q q1 q2 => g2 q (by omega))) hlt (fun M3 g3 g4 => ?_))
        dsimp only [aPush]
        refine aw_incp (n := 114) (L' := [_, _, _, _, _, _]) dX7_run_111 rfl rfl rfl ?_
        refine aw_goto (n := 51) dX7_run_114 (by decide) ?_
        rw [nI_1]
        exact ih (c + 1) (tcS T (P k) k (drI (P k) seed c) s') M3 _ (by omega) g3 (fR0_trans f2 g4) (fun hn => (tcS_fl T (P k) k (drI (P k) seed c) s' hlt).resolve_left hn) (he.trans (if_pos hlt))
  refine aw_aload_n (n := 1) dX7_run_0 rfl rfl ?_
  refine aw_iload_n (n := 2) dX7_run_1 rfl rfl ?_
  refine aw_v1 (d1 := d - 1) (n := 5) (Z := mX7_isProperty) (ci := 5) (L0 := [_, _]) dX7_run_2 kX7_isProperty gX7_98 iyX7_isProperty eyX7_isProperty rfl rfl (by assumption) rfl (Nat.le_of_ble_eq_true rfl) rfl rfl (by omega) (Nat.le_of_ble_eq_true rfl) ?_
  refine aw_iload_n (n := 1) dX7_isProperty_0 rfl rfl ?_
  refine aw_if_lt (tg := 16) (n := 4) dX7_isProperty_1 (by decide) rfl (fun c_1 => by exact absurd c_1 hnn) (fun c_1 => ?_)
  refine aw_iload_n (n := 5) dX7_isProperty_4 rfl rfl ?_
  refine aw_aload_n (n := 6) dX7_isProperty_5 rfl rfl ?_
  refine aw_geti (n := 9) dX7_isProperty_6 fX7_56 (by assumption) rfl rfl ?_
  rw [m07]
  refine aw_icmp_ge (tg := 16) (n := 12) dX7_isProperty_9 (by decide) rfl (fun c_9 => by exact absurd c_9 (nI_ge hk (by omega))) (fun c_9 => ?_)
  refine aw_iconst (n := 13) (v := 1) dX7_isProperty_12 (by decide) rfl ?_
  refine aw_goto (n := 17) dX7_isProperty_13 (by decide) ?_
  refine aw_zret dX7_isProperty_17 rfl (by first | exact Or.inl rfl | exact Or.inr rfl | assumption) ?_
  dsimp only [aPush]
  refine aw_if_eq (tg := 20) (n := 8) dX7_run_5 (by decide) rfl (fun c_5 => by first | exact absurd rfl c_5 | exact absurd c_5 (by decide)) (fun _ => ?_)
  refine aw_iload_n (n := 9) dX7_run_8 rfl rfl ?_
  refine aw_iconst (n := 10) (v := 1) dX7_run_9 (by decide) rfl ?_
  refine aw_icmp_lt (tg := 20) (n := 13) dX7_run_10 (by decide) rfl (fun c_10 => by exact absurd c_10 (nI_nlt (b := 1) (by omega) (by omega))) (fun c_10 => ?_)
  refine aw_iload_n (n := 14) dX7_run_13 rfl rfl ?_
  refine aw_sipush (n := 17) (v := 200) dX7_run_14 (by decide) rfl ?_
  refine aw_icmp_le (tg := 22) (n := 20) dX7_run_17 (by decide) rfl (fun c_17 => ?_) (fun c_17 => by exact absurd (nI_le (b := 200) (by omega) (by decide)) c_17)
  refine aw_aload_n (n := 23) dX7_run_22 rfl rfl ?_
  refine aw_getr (n := 26) dX7_run_23 fX7_10 (by assumption) rfl rfl ?_
  refine aw_geti (n := 29) dX7_run_26 fX7_101 (by assumption) rfl rfl ?_
  refine aw_iload_n (n := 30) dX7_run_29 rfl rfl ?_
  rw [m14]
  refine aw_iadd (n := 31) dX7_run_30 rfl ?_
  rw [nI_add]
  refine aw_sipush (n := 34) (v := 200) dX7_run_31 (by decide) rfl ?_
  refine aw_iadd (n := 35) dX7_run_34 rfl ?_
  rw [show (200 : Int32) = nI 200 from rfl, nI_add]
  refine aw_sipush (n := 38) (v := 3000) dX7_run_35 (by decide) rfl ?_
  refine aw_icmp_le (tg := 44) (n := 41) dX7_run_38 (by decide) rfl (fun c_38 => ?_) (fun c_38 => by exact absurd (nI_le (b := 3000) (by omega) (by decide)) c_38)
  refine aw_aload_n (n := 45) dX7_run_44 rfl rfl ?_
  refine aw_v0 (d1 := d - 1) (n := 48) (Z := mX7_forgetLatest) (ci := 5) (L0 := [_]) dX7_run_45 kX7_forgetLatest gX7_104 iyX7_forgetLatest eyX7_forgetLatest rfl rfl (by assumption) (Nat.le_of_ble_eq_true rfl) rfl rfl (by omega) (Nat.le_of_ble_eq_true rfl) (t_forget (s := s) (by omega) hS (fun M1 g1 g2 => ?_))
  dsimp only [aPush]
  refine aw_iconst (n := 49) (v := 0) dX7_run_48 (by decide) rfl ?_
  refine aw_istore (n := 51) (L' := [_, _, _, _, _, _]) dX7_run_49 (Nat.le_of_ble_eq_true rfl) rfl rfl ?_
  exact loop n 0 _ M1 _ (by omega) g1 g2 (fun q => absurd (show (-1 : Int32) < 0 by decide) q) hsL
end RUN
