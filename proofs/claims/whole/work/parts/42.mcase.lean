def okE (p : rE) : Prop := ∀ k, p.2 = .inl k → 1 ≤ k ∧ k ≤ 7
theorem okE_B {p : rE} {f : Nat → vV → rE} (h1 : okE p) (h2 : ∀ r v, okE (f r v)) : okE (eB p f) := by
  rcases p with ⟨r, k | v⟩
  · exact h1
  · exact h2 r v
theorem okE_W {r : Nat} {v : vV} {f : Int32 → rE} (h2 : ∀ x, okE (f x)) : okE (eW r v f) := by
  rcases v with _ | x | s
  · intro k e; cases e; decide
  · exact h2 x
  · intro k e; cases e; decide
theorem ev_code {cnt : Nat} {T : tm} {inp : Nat → vV} (hcnt : cnt ≤ 60) (hT : wfT cnt T) : ∀ n r t, t < cnt → okE (ev T inp n r t) := by
  intro n
  induction n with
  | zero => intro r t ht k e; cases e; decide
  | succ n ih =>
    intro r t ht
    cases r with
    | zero => intro k e; cases e; decide
    | succ r =>
      obtain ⟨w, hw20, hwT, hpA, hpB, hpC, hp4⟩ := hT t ht
      by_cases hw18 : w ≤ 18
      · rcases (show pts w = 0 ∨ pts w = 1 ∨ pts w = 2 ∨ pts w = 3 from ptsLe w hw20) with hp | hp | hp | hp
        · rw [ev_p0 hwT hw18 hp]
          exact fun k e => op_code hw18 e
        · obtain ⟨ja, hja, hjA⟩ := hpA (by omega)
          rw [ev_p1 hwT hw18 hp hjA (by omega)]
          exact okE_B (ih _ _ (by omega)) (fun r v k e => op_code hw18 e)
        · obtain ⟨ja, hja, hjA⟩ := hpA (by omega)
          obtain ⟨jb, hjb, hjB⟩ := hpB (by omega)
          rw [ev_p2 hwT hw18 hp hjA (by omega) hjB (by omega)]
          exact okE_B (ih _ _ (by omega)) (fun r v => okE_B (ih _ _ (by omega)) (fun r v k e => op_code hw18 e))
        · obtain ⟨ja, hja, hjA⟩ := hpA (by omega)
          obtain ⟨jb, hjb, hjB⟩ := hpB (by omega)
          obtain ⟨jc, hjc, hjC⟩ := hpC (by omega)
          rw [ev_p3 hwT hw18 hp hjA (by omega) hjB (by omega) hjC (by omega)]
          exact okE_B (ih _ _ (by omega)) (fun r v => okE_B (ih _ _ (by omega)) (fun r v => okE_B (ih _ _ (by omega)) (fun r v k e => op_code hw18 e)))
      · have hpt := ptsN9 w hw20 (by omega)
        obtain ⟨ja, hja, hjA⟩ := hpA (by omega)
        obtain ⟨jb, hjb, hjB⟩ := hpB (by omega)
        rcases (show w = 19 ∨ w = 20 by omega) with rfl | rfl
        · obtain ⟨jc, hjc, hjC⟩ := hpC (by rw [hpt.2 rfl]; exact Nat.le_refl _)
          rw [ev_19 hwT hjA (by omega) hjB (by omega) hjC (by omega)]
          refine okE_B (ih _ _ (by omega)) (fun r v => okE_W (fun x => ?_))
          split
          · exact ih _ _ (by omega)
          · exact ih _ _ (by omega)
        · rw [ev_20 hwT hjA (by omega) hjB (by omega)]
          refine okE_B (ih _ _ (by omega)) (fun r v => okE_W (fun x => ?_))
          split
          · intro k e; cases e
          · exact okE_B (ih _ _ (by omega)) (fun r v => okE_W (fun x k e => by cases e))
def oc (x : Int32) : Prop := x = 0 ∨ x = -1 ∨ 0 < x
theorem oc_lk {p : rE} (h : okE p) (hn : lkR p.2 ≠ 0) : oc (nI (lkR p.2)) := by
  have hb : 1 ≤ lkR p.2 ∧ lkR p.2 ≤ 7 := by
    rcases hp : p.2 with k | v
    · exact h k hp
    · rw [hp] at hn; exact lk_07 hn
  obtain ⟨x, hx⟩ : ∃ x, x = lkR p.2 := ⟨_, rfl⟩
  rw [← hx] at hb ⊢
  refine Or.inr (Or.inr ?_)
  rcases (show x = 1 ∨ x = 2 ∨ x = 3 ∨ x = 4 ∨ x = 5 ∨ x = 6 ∨ x = 7 by omega) with rfl | rfl | rfl | rfl | rfl | rfl | rfl <;> decide
theorem outS_oc {cnt : Nat} {T : tm} {inp : Nat → vV} {P : pr} (hcnt : cnt ≤ 60) (hT : wfT cnt T) (hwf : wfP1 cnt P) : oc (outS T inp (P 3) (P 4) (P 6)).2 := by
  obtain ⟨-, hw3, ⟨jb, hjb, hjB⟩, -⟩ := hwf
  have hb : ∀ r, oc (bodS T inp (P 4) (P 6) r).2 := by
    intro r
    have hjbb : (P 4).toNatClampNeg = jb := by rw [hjB]; exact nI_clamp (by omega)
    have := ev_code (inp := inp) hcnt hT 61 r jb hjb
    unfold bodS
    rw [hjbb]
    dsimp only
    split
    · split
      · exact Or.inl rfl
      · exact oc_lk this (by assumption)
    · split
      · split
        · exact Or.inr (Or.inr (by decide))
        · exact Or.inl rfl
      · exact Or.inr (Or.inr (by decide))
  unfold outS
  split
  · exact hb 60
  · rename_i hc
    obtain ⟨jc, hjc, hjC⟩ := hw3.resolve_left (fun q => hc (by rw [q]; decide))
    have hjcc : (P 3).toNatClampNeg = jc := by rw [hjC]; exact nI_clamp (by omega)
    have := ev_code (inp := inp) hcnt hT 61 60 jc hjc
    rw [hjcc]
    split
    · exact oc_lk this (by assumption)
    · split
      · exact Or.inr (Or.inl rfl)
      · exact hb _
/-- the reference's terms and properties, and what it tells -/
def mA (cnt : Nat) (T : tm) (np : Nat) (P : Nat → pr) (M : aM) : Prop := M 164 0 = nI cnt ∧ mT cnt T M ∧ M 164 23 = nI np ∧ ∀ k, k < np → mP1 (P k) k M
def mS (s : rS) (M : aM) : Prop := M 164 29 = nI s.1 ∧ (∀ k, k < 8 → M 164 (33 + k) = s.2.1 k) ∧ (∀ k, k < 9 → M 185 k = s.2.2.1 k) ∧ M 164 41 = s.2.2.2.1 ∧ (¬ s.2.2.2.1 < 0 → ∀ i, i < 3 → M 187 i = tyV (s.2.2.2.2 i) ∧ kI 188 189 (s.2.2.2.2 i) i M)
/-- what a call that runs leaves as it was -/
def fV (M M' : aM) : Prop := (∀ q, q < 164 ∨ (165 ≤ q ∧ q ≤ 169) ∨ (180 ≤ q ∧ q ≤ 184) → M' q = M q) ∧ M' 164 0 = M 164 0 ∧ M' 164 23 = M 164 23
theorem fV_refl (M : aM) : fV M M := ⟨fun _ _ => rfl, rfl, rfl⟩
theorem fV_trans {M M1 M2 : aM} (h1 : fV M M1) (h2 : fV M1 M2) : fV M M2 := ⟨fun q hq => (h2.1 q hq).trans (h1.1 q hq), h2.2.1.trans h1.2.1, h2.2.2.trans h1.2.2⟩
theorem fT_V {M M' : aM} (h : fT M M') : fV M M' := ⟨fun q hq => h.1 q (by omega), h.2 0 (by decide) (by decide) (by decide) (by decide) (by decide) (by decide) (by decide) (by decide), h.2 23 (by decide) (by decide) (by decide) (by decide) (by decide) (by decide) (by decide) (by decide)⟩
theorem mA_same {cnt np : Nat} {T : tm} {P : Nat → pr} {M M' : aM} (h : mA cnt T np P M) (hf : fV M M') : mA cnt T np P M' := by
  obtain ⟨h1, h2, h3, h4⟩ := h
  refine ⟨hf.2.1.trans h1, fun t ht => ?_, hf.2.2.trans h3, fun k hk => ?_⟩
  · rw [hf.1 165 (by omega), hf.1 166 (by omega), hf.1 167 (by omega), hf.1 168 (by omega), hf.1 169 (by omega)]
    exact h2 t ht
  · unfold mP1
    rw [hf.1 180 (by omega), hf.1 181 (by omega), hf.1 182 (by omega), hf.1 183 (by omega), hf.1 184 (by omega)]
    exact h4 k hk
section MCASE
variable {l : Launch} {K : aK} {d : Nat} {M : aM} {Q : Option Value → aE → aM → Prop}
theorem m_outcome {cnt p : Nat} {T : tm} {inp : Nat → vV} {P : pr} {ct : Int32} (hd : 12 ≤ d) (hcnt : cnt ≤ 60) (hT : wfT cnt T) (hp : p < 8) (hcT : mT cnt T M) (hP : mP1 P p M) (hwf : wfP1 cnt P) (hct : ct = 0 ∨ ct = 1) (hty : ∀ i, i < 3 → P i = tyV (inp i)) (hI : ∀ i, i < 3 → kI 171 172 (inp i) i M)
    (hQ : ∀ M', fT M M' → M' 164 29 = M 164 29 + 1 → M' 185 = labOn T inp P ct (M 185) → Q (some (.int (outS T inp (P 3) (P 4) (P 6)).2)) EE M') : aw l K mX8_outcome d 0 0 0 [.ref 164, .int (nI p), .int ct, .null, .null] [] EE M Q := by
  have hP0 := hP.1
  obtain ⟨M1, hM1⟩ : ∃ M1, M1 = up2 (up2 (up2 M 164 29 (M 164 29 + 1)) 164 9 0) 164 22 0 := ⟨_, rfl⟩
  have r1 : ∀ q, q ≠ 164 → M1 q = M q := fun q a => by rw [hM1, up2_ra _ _ a, up2_ra _ _ a, up2_ra _ _ a]
  have l2 : ∀ (m k : Nat) (Mk M2 : aM), m + k = 3 → (∀ q, q ≠ 178 → M2 q = M1 q) → (∀ j, j < 48 → M2 178 j = M1 172 j) → (∀ q, q ≠ 170 → Mk q = M2 q) → (∀ j, j < k → Mk 170 j = P j) → aw l K mX8_outcome d 0 0 48 [.ref 164, .int (nI p), .int ct, .int (nI k), .null] [] EE Mk Q := by
    intro m
    induction m with
    | zero =>
      intro k Mk M2 hk g1 g2 h1 h2
      obtain rfl : k = 3 := by omega
      have rk : ∀ q, q ≠ 164 → q ≠ 170 → q ≠ 178 → Mk q = M q := fun q a b c => by rw [h1 q b, g1 q c, r1 q a]
      have r164 : ∀ j, Mk 164 j = M1 164 j := fun j => by rw [h1 164 (by decide), g1 164 (by decide)]
      refine aw_iload_n (n := 49) dX8_outcome_48 rfl rfl ?_
      refine aw_iconst (n := 50) (v := 3) dX8_outcome_49 (by decide) rfl ?_
      refine aw_icmp_ge (tg := 75) (n := 53) dX8_outcome_50 (by decide) rfl (fun c_50 => ?_) (fun c_50 => by exact absurd (by decide) c_50)
      refine m_outc2 (T := T) (inp := inp) (P := P) hd hcnt hT hp ?_ ?_ ⟨?_, by decide, 0, ?_, by decide⟩ ?_ hwf hct (fun M' g3 g4 => hQ M' ⟨fun q hq => ?_, fun j a b c e f g i i' => ?_⟩ ?_ ?_)
      · intro t ht
        rw [rk 165 (by decide) (by decide) (by decide), rk 166 (by decide) (by decide) (by decide), rk 167 (by decide) (by decide) (by decide), rk 168 (by decide) (by decide) (by decide), rk 169 (by decide) (by decide) (by decide)]
        exact hcT t ht
      · intro i hi
        have ht := (h2 i hi).trans (hty i hi)
        have hx : Mk 171 i = M 171 i := by rw [rk 171 (by decide) (by decide) (by decide)]
        have hr : ∀ j, j < 16 → Mk 178 (16 * i + j) = M 172 (16 * i + j) := fun j hj => by rw [h1 178 (by decide), g2 _ (by omega), r1 172 (by decide)]
        have hk := kI_same (a' := 171) (b' := 178) (hI i hi) hx hr
        rcases hv : inp i with _ | x | r
        · rw [hv] at ht; show Mk 170 i < 0; rw [ht]; decide
        · rw [hv] at ht hk; exact ⟨ht, hk⟩
        · rw [hv] at ht hk; exact ⟨ht, hk.1, hk.2.1, hk.2.2⟩
      · rw [r164, hM1, up2_k _ _ (by decide), up2_s]; rfl
      · rw [r164, hM1, up2_s]; rfl
      · unfold mP1
        rw [rk 180 (by decide) (by decide) (by decide), rk 181 (by decide) (by decide) (by decide), rk 182 (by decide) (by decide) (by decide), rk 183 (by decide) (by decide) (by decide), rk 184 (by decide) (by decide) (by decide)]
        exact hP
      · rw [g3.1 q (by omega), rk q (by omega) (by omega) (by omega)]
      · rw [g3.2 j a b c e f g i, r164, hM1, up2_k _ _ i, up2_k _ _ a, up2_k _ _ i']
      · rw [g3.2 29 (by decide) (by decide) (by decide) (by decide) (by decide) (by decide) (by decide), r164, hM1, up2_k _ _ (by decide), up2_k _ _ (by decide), up2_s]
      · rw [g4, rk 185 (by decide) (by decide) (by decide)]
    | succ m ih =>
      intro k Mk M2 hk g1 g2 h1 h2
      have hin : vp_in (nI k) 3 := vp_in_nI (by omega) (by decide)
      have hkk : (nI k).toNatClampNeg = k := nI_clamp (by omega)
      have hin2 : vp_in (nI (3 * p + k)) 24 := vp_in_nI (by omega) (by decide)
      have hk2 : (nI (3 * p + k)).toNatClampNeg = 3 * p + k := nI_clamp (by omega)
      have hv : Mk 180 (3 * p + k) = P k := by rw [h1 180 (by decide), g1 180 (by decide), r1 180 (by decide)]; exact hP0 k (by omega)
      refine aw_iload_n (n := 49) dX8_outcome_48 rfl rfl ?_
      refine aw_iconst (n := 50) (v := 3) dX8_outcome_49 (by decide) rfl ?_
      refine aw_icmp_ge (tg := 75) (n := 53) dX8_outcome_50 (by decide) rfl (fun c_50 => by exact absurd c_50 (nI_ge (b := 3) (by omega) (by decide))) (fun c_50 => ?_)
      refine aw_aload_n (n := 54) dX8_outcome_53 rfl rfl ?_
      refine aw_getr (n := 57) dX8_outcome_54 fX8_25 E_164 rfl rfl ?_
      refine aw_iload_n (n := 58) dX8_outcome_57 rfl rfl ?_
      refine aw_aload_n (n := 59) dX8_outcome_58 rfl rfl ?_
      refine aw_getr (n := 62) dX8_outcome_59 fX8_55 E_164 rfl rfl ?_
      refine aw_iconst (n := 63) (v := 3) dX8_outcome_62 (by decide) rfl ?_
      refine aw_iload_n (n := 64) dX8_outcome_63 rfl rfl ?_
      refine aw_imul (n := 65) dX8_outcome_64 rfl ?_
      refine aw_iload_n (n := 66) dX8_outcome_65 rfl rfl ?_
      refine aw_iadd (n := 67) dX8_outcome_66 rfl ?_
      rw [show (3 : Int32) = nI 3 from rfl, pk_mul, nI_add]
      refine aw_iald (n := 68) dX8_outcome_67 E_180 (by assumption) rfl ?_
      rw [hk2, hv]
      refine aw_iast (n := 69) dX8_outcome_68 E_170 (by assumption) rfl ?_
      refine aw_incp (n := 72) (L' := [_, _, _, _, _]) dX8_outcome_69 rfl rfl rfl ?_
      refine aw_goto (n := 48) dX8_outcome_72 (by decide) ?_
      rw [hkk, nI_1]
      refine ih (k + 1) _ M2 (by omega) g1 g2 (fun q hq => by rw [up2_ra _ _ hq]; exact h1 q hq) (fun j hj => ?_)
      by_cases hjk : j = k
      · subst hjk; rw [up2_s]
      · rw [up2_k _ _ (by omega)]; exact h2 j (by omega)
  have l1 : ∀ m k Mk, m + k = 48 → (∀ q, q ≠ 178 → Mk q = M1 q) → (∀ j, j < k → Mk 178 j = M1 172 j) → aw l K mX8_outcome d 0 0 22 [.ref 164, .int (nI p), .int ct, .int (nI k), .null] [] EE Mk Q := by
    intro m
    induction m with
    | zero =>
      intro k Mk hk h1 h2
      obtain rfl : k = 48 := by omega
      refine aw_iload_n (n := 23) dX8_outcome_22 rfl rfl ?_
      refine aw_bipush (n := 25) (v := 48) dX8_outcome_23 (by decide) rfl ?_
      refine aw_icmp_ge (tg := 46) (n := 28) dX8_outcome_25 (by decide) rfl (fun c_25 => ?_) (fun c_25 => by exact absurd (by decide) c_25)
      refine aw_iconst (n := 47) (v := 0) dX8_outcome_46 (by decide) rfl ?_
      refine aw_istore_n (n := 48) (L' := [_, _, _, _, _]) dX8_outcome_47 (Nat.le_of_ble_eq_true rfl) rfl rfl ?_
      exact l2 3 0 Mk Mk (by omega) h1 h2 (fun _ _ => rfl) (fun j hj => by omega)
    | succ m ih =>
      intro k Mk hk h1 h2
      have hin : vp_in (nI k) 48 := vp_in_nI (by omega) (by decide)
      have hin2 : vp_in (nI k) 1024 := vp_in_nI (by omega) (by decide)
      have hkk : (nI k).toNatClampNeg = k := nI_clamp (by omega)
      refine aw_iload_n (n := 23) dX8_outcome_22 rfl rfl ?_
      refine aw_bipush (n := 25) (v := 48) dX8_outcome_23 (by decide) rfl ?_
      refine aw_icmp_ge (tg := 46) (n := 28) dX8_outcome_25 (by decide) rfl (fun c_25 => by exact absurd c_25 (nI_ge (b := 48) (by omega) (by decide))) (fun c_25 => ?_)
      refine aw_aload_n (n := 29) dX8_outcome_28 rfl rfl ?_
      refine aw_getr (n := 32) dX8_outcome_29 fX8_49 E_164 rfl rfl ?_
      refine aw_iload_n (n := 33) dX8_outcome_32 rfl rfl ?_
      refine aw_aload_n (n := 34) dX8_outcome_33 rfl rfl ?_
      refine aw_getr (n := 37) dX8_outcome_34 fX8_31 E_164 rfl rfl ?_
      refine aw_iload_n (n := 38) dX8_outcome_37 rfl rfl ?_
      refine aw_iald (n := 39) dX8_outcome_38 E_172 (by assumption) rfl ?_
      refine aw_iast (n := 40) dX8_outcome_39 E_178 (by assumption) rfl ?_
      refine aw_incp (n := 43) (L' := [_, _, _, _, _]) dX8_outcome_40 rfl rfl rfl ?_
      refine aw_goto (n := 22) dX8_outcome_43 (by decide) ?_
      rw [hkk, nI_1, h1 172 (by decide)]
      refine ih (k + 1) _ (by omega) (fun q hq => by rw [up2_ra _ _ hq]; exact h1 q hq) (fun j hj => ?_)
      by_cases hjk : j = k
      · subst hjk; rw [up2_s]
      · rw [up2_k _ _ (by omega)]; exact h2 j (by omega)
  refine aw_aload_n (n := 1) dX8_outcome_0 rfl rfl ?_
  refine aw_dup (n := 2) dX8_outcome_1 rfl rfl ?_
  refine aw_geti (n := 5) dX8_outcome_2 fX8_178 E_164 rfl rfl ?_
  refine aw_iconst (n := 6) (v := 1) dX8_outcome_5 (by decide) rfl ?_
  refine aw_iadd (n := 7) dX8_outcome_6 rfl ?_
  refine aw_puti (n := 10) dX8_outcome_7 pX8_178 E_164 rfl rfl ?_
  refine aw_aload_n (n := 11) dX8_outcome_10 rfl rfl ?_
  refine aw_iconst (n := 12) (v := 0) dX8_outcome_11 (by decide) rfl ?_
  refine aw_puti (n := 15) dX8_outcome_12 pX8_107 E_164 rfl rfl ?_
  refine aw_aload_n (n := 16) dX8_outcome_15 rfl rfl ?_
  refine aw_iconst (n := 17) (v := 0) dX8_outcome_16 (by decide) rfl ?_
  refine aw_puti (n := 20) dX8_outcome_17 pX8_144 E_164 rfl rfl ?_
  refine aw_iconst (n := 21) (v := 0) dX8_outcome_20 (by decide) rfl ?_
  refine aw_istore_n (n := 22) (L' := [_, _, _, _, _]) dX8_outcome_21 (Nat.le_of_ble_eq_true rfl) rfl rfl ?_
  rw [← hM1]
  exact l1 48 0 M1 (by omega) (fun _ _ => rfl) (fun j hj => by omega)
theorem m_keep {p : Nat} (hp : p < 8) (hQ : ∀ M', M' 164 41 = nI p → (∀ j, j ≠ 41 → M' 164 j = M 164 j) → (∀ i, i < 3 → M' 187 i = M 180 (3 * p + i) ∧ M' 188 i = M 171 i) → (∀ j, j < 48 → M' 189 j = M 172 j) → (∀ q, q ≠ 164 → q ≠ 187 → q ≠ 188 → q ≠ 189 → M' q = M q) → Q none EE M') : aw l K mX8_keep d 0 0 0 [.ref 164, .int (nI p), .null] [] EE M Q := by
  have l2 : ∀ (m k : Nat) (Mk M2 : aM), m + k = 48 → (∀ i, i < 3 → M2 187 i = M 180 (3 * p + i) ∧ M2 188 i = M 171 i) → (∀ q, q ≠ 187 → q ≠ 188 → M2 q = up2 M 164 41 (nI p) q) → (∀ q, q ≠ 189 → Mk q = M2 q) → (∀ j, j < k → Mk 189 j = M 172 j) → aw l K mX8_keep d 0 0 48 [.ref 164, .int (nI p), .int (nI k)] [] EE Mk Q := by
    intro m
    induction m with
    | zero =>
      intro k Mk M2 hk g1 g2 h1 h2
      obtain rfl : k = 48 := by omega
      refine aw_iload_n (n := 49) dX8_keep_48 rfl rfl ?_
      refine aw_bipush (n := 51) (v := 48) dX8_keep_49 (by decide) rfl ?_
      refine aw_icmp_ge (tg := 72) (n := 54) dX8_keep_51 (by decide) rfl (fun c_51 => ?_) (fun c_51 => by exact absurd (by decide) c_51)
      refine aw_vret dX8_keep_72 rfl ?_
      refine hQ Mk ?_ ?_ ?_ h2 ?_
      · rw [h1 164 (by decide), g2 164 (by decide) (by decide), up2_s]
      · intro j hj; rw [h1 164 (by decide), g2 164 (by decide) (by decide), up2_k _ _ hj]
      · intro i hi; rw [h1 187 (by decide), h1 188 (by decide)]; exact g1 i hi
      · intro q a b c e; rw [h1 q e, g2 q b c, up2_ra _ _ a]
    | succ m ih =>
      intro k Mk M2 hk g1 g2 h1 h2
      have hin : vp_in (nI k) 48 := vp_in_nI (by omega) (by decide)
      have hkk : (nI k).toNatClampNeg = k := nI_clamp (by omega)
      refine aw_iload_n (n := 49) dX8_keep_48 rfl rfl ?_
      refine aw_bipush (n := 51) (v := 48) dX8_keep_49 (by decide) rfl ?_
      refine aw_icmp_ge (tg := 72) (n := 54) dX8_keep_51 (by decide) rfl (fun c_51 => by exact absurd c_51 (nI_ge (b := 48) (by omega) (by decide))) (fun c_51 => ?_)
      refine aw_aload_n (n := 55) dX8_keep_54 rfl rfl ?_
      refine aw_getr (n := 58) dX8_keep_55 fX8_86 E_164 rfl rfl ?_
      refine aw_iload_n (n := 59) dX8_keep_58 rfl rfl ?_
      refine aw_aload_n (n := 60) dX8_keep_59 rfl rfl ?_
      refine aw_getr (n := 63) dX8_keep_60 fX8_31 E_164 rfl rfl ?_
      refine aw_iload_n (n := 64) dX8_keep_63 rfl rfl ?_
      refine aw_iald (n := 65) dX8_keep_64 E_172 (by assumption) rfl ?_
      refine aw_iast (n := 66) dX8_keep_65 E_189 (by assumption) rfl ?_
      refine aw_incp (n := 69) (L' := [_, _, _]) dX8_keep_66 rfl rfl rfl ?_
      refine aw_goto (n := 48) dX8_keep_69 (by decide) ?_
      rw [hkk, nI_1, h1 172 (by decide), g2 172 (by decide) (by decide), up2_ra _ _ (by decide)]
      refine ih (k + 1) _ M2 (by omega) g1 g2 (fun q hq => by rw [up2_ra _ _ hq]; exact h1 q hq) (fun j hj => ?_)
      by_cases hjk : j = k
      · subst hjk; rw [up2_s]
      · rw [up2_k _ _ (by omega)]; exact h2 j (by omega)
  have l1 : ∀ m k Mk, m + k = 3 → (∀ i, i < k → Mk 187 i = M 180 (3 * p + i) ∧ Mk 188 i = M 171 i) → (∀ q, q ≠ 187 → q ≠ 188 → Mk q = up2 M 164 41 (nI p) q) → aw l K mX8_keep d 0 0 7 [.ref 164, .int (nI p), .int (nI k)] [] EE Mk Q := by
    intro m
    induction m with
    | zero =>
      intro k Mk hk h1 h2
      obtain rfl : k = 3 := by omega
      refine aw_iload_n (n := 8) dX8_keep_7 rfl rfl ?_
      refine aw_iconst (n := 9) (v := 3) dX8_keep_8 (by decide) rfl ?_
      refine aw_icmp_ge (tg := 46) (n := 12) dX8_keep_9 (by decide) rfl (fun c_9 => ?_) (fun c_9 => by exact absurd (by decide) c_9)
      refine aw_iconst (n := 47) (v := 0) dX8_keep_46 (by decide) rfl ?_
      refine aw_istore_n (n := 48) (L' := [_, _, _]) dX8_keep_47 (Nat.le_of_ble_eq_true rfl) rfl rfl ?_
      exact l2 48 0 Mk Mk (by omega) h1 h2 (fun _ _ => rfl) (fun j hj => by omega)
    | succ m ih =>
      intro k Mk hk h1 h2
      have hin : vp_in (nI k) 3 := vp_in_nI (by omega) (by decide)
      have hkk : (nI k).toNatClampNeg = k := nI_clamp (by omega)
      have hin2 : vp_in (nI (3 * p + k)) 24 := vp_in_nI (by omega) (by decide)
      have hk2 : (nI (3 * p + k)).toNatClampNeg = 3 * p + k := nI_clamp (by omega)
      have v1 : Mk 180 (3 * p + k) = M 180 (3 * p + k) := by rw [h2 180 (by decide) (by decide), up2_a _ _ (by decide)]
      have v2 : Mk 171 k = M 171 k := by rw [h2 171 (by decide) (by decide), up2_a _ _ (by decide)]
      refine aw_iload_n (n := 8) dX8_keep_7 rfl rfl ?_
      refine aw_iconst (n := 9) (v := 3) dX8_keep_8 (by decide) rfl ?_
      refine aw_icmp_ge (tg := 46) (n := 12) dX8_keep_9 (by decide) rfl (fun c_9 => by exact absurd c_9 (nI_ge (b := 3) (by omega) (by decide))) (fun c_9 => ?_)
      refine aw_aload_n (n := 13) dX8_keep_12 rfl rfl ?_
      refine aw_getr (n := 16) dX8_keep_13 fX8_80 E_164 rfl rfl ?_
      refine aw_iload_n (n := 17) dX8_keep_16 rfl rfl ?_
      refine aw_aload_n (n := 18) dX8_keep_17 rfl rfl ?_
      refine aw_getr (n := 21) dX8_keep_18 fX8_55 E_164 rfl rfl ?_
      refine aw_iconst (n := 22) (v := 3) dX8_keep_21 (by decide) rfl ?_
      refine aw_iload_n (n := 23) dX8_keep_22 rfl rfl ?_
      refine aw_imul (n := 24) dX8_keep_23 rfl ?_
      refine aw_iload_n (n := 25) dX8_keep_24 rfl rfl ?_
      refine aw_iadd (n := 26) dX8_keep_25 rfl ?_
      rw [show (3 : Int32) = nI 3 from rfl, pk_mul, nI_add]
      refine aw_iald (n := 27) dX8_keep_26 E_180 (by assumption) rfl ?_
      rw [hk2, v1]
      refine aw_iast (n := 28) dX8_keep_27 E_187 (by assumption) rfl ?_
      rw [hkk]
      refine aw_aload_n (n := 29) dX8_keep_28 rfl rfl ?_
      refine aw_getr (n := 32) dX8_keep_29 fX8_83 E_164 rfl rfl ?_
      refine aw_iload_n (n := 33) dX8_keep_32 rfl rfl ?_
      refine aw_aload_n (n := 34) dX8_keep_33 rfl rfl ?_
      refine aw_getr (n := 37) dX8_keep_34 fX8_28 E_164 rfl rfl ?_
      refine aw_iload_n (n := 38) dX8_keep_37 rfl rfl ?_
      refine aw_iald (n := 39) dX8_keep_38 E_171 (by assumption) rfl ?_
      rw [hkk, up2_a _ _ (by decide), v2]
      refine aw_iast (n := 40) dX8_keep_39 E_188 (by assumption) rfl ?_
      refine aw_incp (n := 43) (L' := [_, _, _]) dX8_keep_40 rfl rfl rfl ?_
      refine aw_goto (n := 7) dX8_keep_43 (by decide) ?_
      rw [hkk, nI_1]
      refine ih (k + 1) _ (by omega) (fun i hi => ?_) (fun q a b => by rw [up2_ra _ _ b, up2_ra _ _ a]; exact h2 q a b)
      by_cases hjk : i = k
      · subst hjk; exact ⟨by rw [up2_a _ _ (by decide), up2_s], by rw [up2_s]⟩
      · rw [up2_a _ _ (by decide), up2_k _ _ (by omega), up2_k _ _ (by omega), up2_a _ _ (by decide)]; exact h1 i (by omega)
  refine aw_aload_n (n := 1) dX8_keep_0 rfl rfl ?_
  refine aw_iload_n (n := 2) dX8_keep_1 rfl rfl ?_
  refine aw_puti (n := 5) dX8_keep_2 pX8_76 E_164 rfl rfl ?_
  refine aw_iconst (n := 6) (v := 0) dX8_keep_5 (by decide) rfl ?_
  refine aw_istore_n (n := 7) (L' := [_, _, _]) dX8_keep_6 (Nat.le_of_ble_eq_true rfl) rfl rfl ?_
  exact l1 3 0 _ (by omega) (fun i hi => by omega) (fun _ _ _ => rfl)
theorem m_take (hQ : ∀ M', (∀ i, i < 3 → M' 171 i = M 188 i) → (∀ j, j < 48 → M' 172 j = M 189 j) → (∀ q, q ≠ 171 → q ≠ 172 → M' q = M q) → Q none EE M') : aw l K mX8_takeCounter d 0 0 0 [.ref 164, .null] [] EE M Q := by
  have l2 : ∀ (m k : Nat) (Mk M2 : aM), m + k = 48 → (∀ i, i < 3 → M2 171 i = M 188 i) → (∀ q, q ≠ 171 → M2 q = M q) → (∀ q, q ≠ 172 → Mk q = M2 q) → (∀ j, j < k → Mk 172 j = M 189 j) → aw l K mX8_takeCounter d 0 0 27 [.ref 164, .int (nI k)] [] EE Mk Q := by
    intro m
    induction m with
    | zero =>
      intro k Mk M2 hk g1 g2 h1 h2
      obtain rfl : k = 48 := by omega
      refine aw_iload_n (n := 28) dX8_takeCounter_27 rfl rfl ?_
      refine aw_bipush (n := 30) (v := 48) dX8_takeCounter_28 (by decide) rfl ?_
      refine aw_icmp_ge (tg := 51) (n := 33) dX8_takeCounter_30 (by decide) rfl (fun c_30 => ?_) (fun c_30 => by exact absurd (by decide) c_30)
      refine aw_vret dX8_takeCounter_51 rfl ?_
      refine hQ Mk ?_ h2 ?_
      · intro i hi; rw [h1 171 (by decide)]; exact g1 i hi
      · intro q a b; rw [h1 q b, g2 q a]
    | succ m ih =>
      intro k Mk M2 hk g1 g2 h1 h2
      have hin : vp_in (nI k) 48 := vp_in_nI (by omega) (by decide)
      have hkk : (nI k).toNatClampNeg = k := nI_clamp (by omega)
      refine aw_iload_n (n := 28) dX8_takeCounter_27 rfl rfl ?_
      refine aw_bipush (n := 30) (v := 48) dX8_takeCounter_28 (by decide) rfl ?_
      refine aw_icmp_ge (tg := 51) (n := 33) dX8_takeCounter_30 (by decide) rfl (fun c_30 => by exact absurd c_30 (nI_ge (b := 48) (by omega) (by decide))) (fun c_30 => ?_)
      refine aw_aload_n (n := 34) dX8_takeCounter_33 rfl rfl ?_
      refine aw_getr (n := 37) dX8_takeCounter_34 fX8_31 E_164 rfl rfl ?_
      refine aw_iload_n (n := 38) dX8_takeCounter_37 rfl rfl ?_
      refine aw_aload_n (n := 39) dX8_takeCounter_38 rfl rfl ?_
      refine aw_getr (n := 42) dX8_takeCounter_39 fX8_86 E_164 rfl rfl ?_
      refine aw_iload_n (n := 43) dX8_takeCounter_42 rfl rfl ?_
      refine aw_iald (n := 44) dX8_takeCounter_43 E_189 (by assumption) rfl ?_
      refine aw_iast (n := 45) dX8_takeCounter_44 E_172 (by assumption) rfl ?_
      refine aw_incp (n := 48) (L' := [_, _]) dX8_takeCounter_45 rfl rfl rfl ?_
      refine aw_goto (n := 27) dX8_takeCounter_48 (by decide) ?_
      rw [hkk, nI_1, h1 189 (by decide), g2 189 (by decide)]
      refine ih (k + 1) _ M2 (by omega) g1 g2 (fun q hq => by rw [up2_ra _ _ hq]; exact h1 q hq) (fun j hj => ?_)
      by_cases hjk : j = k
      · subst hjk; rw [up2_s]
      · rw [up2_k _ _ (by omega)]; exact h2 j (by omega)
  have l1 : ∀ m k Mk, m + k = 3 → (∀ i, i < k → Mk 171 i = M 188 i) → (∀ q, q ≠ 171 → Mk q = M q) → aw l K mX8_takeCounter d 0 0 2 [.ref 164, .int (nI k)] [] EE Mk Q := by
    intro m
    induction m with
    | zero =>
      intro k Mk hk h1 h2
      obtain rfl : k = 3 := by omega
      refine aw_iload_n (n := 3) dX8_takeCounter_2 rfl rfl ?_
      refine aw_iconst (n := 4) (v := 3) dX8_takeCounter_3 (by decide) rfl ?_
      refine aw_icmp_ge (tg := 25) (n := 7) dX8_takeCounter_4 (by decide) rfl (fun c_4 => ?_) (fun c_4 => by exact absurd (by decide) c_4)
      refine aw_iconst (n := 26) (v := 0) dX8_takeCounter_25 (by decide) rfl ?_
      refine aw_istore_n (n := 27) (L' := [_, _]) dX8_takeCounter_26 (Nat.le_of_ble_eq_true rfl) rfl rfl ?_
      exact l2 48 0 Mk Mk (by omega) h1 h2 (fun _ _ => rfl) (fun j hj => by omega)
    | succ m ih =>
      intro k Mk hk h1 h2
      have hin : vp_in (nI k) 3 := vp_in_nI (by omega) (by decide)
      have hkk : (nI k).toNatClampNeg = k := nI_clamp (by omega)
      refine aw_iload_n (n := 3) dX8_takeCounter_2 rfl rfl ?_
      refine aw_iconst (n := 4) (v := 3) dX8_takeCounter_3 (by decide) rfl ?_
      refine aw_icmp_ge (tg := 25) (n := 7) dX8_takeCounter_4 (by decide) rfl (fun c_4 => by exact absurd c_4 (nI_ge (b := 3) (by omega) (by decide))) (fun c_4 => ?_)
      refine aw_aload_n (n := 8) dX8_takeCounter_7 rfl rfl ?_
      refine aw_getr (n := 11) dX8_takeCounter_8 fX8_28 E_164 rfl rfl ?_
      refine aw_iload_n (n := 12) dX8_takeCounter_11 rfl rfl ?_
      refine aw_aload_n (n := 13) dX8_takeCounter_12 rfl rfl ?_
      refine aw_getr (n := 16) dX8_takeCounter_13 fX8_83 E_164 rfl rfl ?_
      refine aw_iload_n (n := 17) dX8_takeCounter_16 rfl rfl ?_
      refine aw_iald (n := 18) dX8_takeCounter_17 E_188 (by assumption) rfl ?_
      refine aw_iast (n := 19) dX8_takeCounter_18 E_171 (by assumption) rfl ?_
      refine aw_incp (n := 22) (L' := [_, _]) dX8_takeCounter_19 rfl rfl rfl ?_
      refine aw_goto (n := 2) dX8_takeCounter_22 (by decide) ?_
      rw [hkk, nI_1, h2 188 (by decide)]
      refine ih (k + 1) _ (by omega) (fun i hi => ?_) (fun q a => by rw [up2_ra _ _ a]; exact h2 q a)
      by_cases hjk : i = k
      · subst hjk; rw [up2_s]
      · rw [up2_k _ _ (by omega)]; exact h1 i (by omega)
  refine aw_iconst (n := 1) (v := 0) dX8_takeCounter_0 (by decide) rfl ?_
  refine aw_istore_n (n := 2) (L' := [_, _]) dX8_takeCounter_1 (Nat.le_of_ble_eq_true rfl) rfl rfl ?_
  exact l1 3 0 _ (by omega) (fun i hi => by omega) (fun _ _ => rfl)
theorem m_anew (hQ : ∀ M', (∀ k, k < 8 → M' 164 (33 + k) = ta0 k) → M' 164 41 = -1 → (∀ k, k < 9 → M' 185 k = 0) → (∀ j, j < 33 ∨ 42 ≤ j → M' 164 j = M 164 j) → (∀ q, q ≠ 164 → q ≠ 185 → M' q = M q) → Q none EE M') : aw l K mX8_anew d 0 0 0 [.ref 164, .null] [] EE M Q := by
  have loop : ∀ (m k : Nat) (Mk M1 : aM), m + k = 9 → (∀ k, k < 8 → M1 164 (33 + k) = ta0 k) → M1 164 41 = -1 → (∀ j, j < 33 ∨ 42 ≤ j → M1 164 j = M 164 j) → (∀ q, q ≠ 164 → M1 q = M q) → (∀ i, i < k → Mk 185 i = 0) → (∀ q, q ≠ 185 → Mk q = M1 q) → aw l K mX8_anew d 0 0 47 [.ref 164, .int (nI k)] [] EE Mk Q := by
    intro m
    induction m with
    | zero =>
      intro k Mk M1 hk g1 g2 g3 g4 h1 h2
      obtain rfl : k = 9 := by omega
      refine aw_iload_n (n := 48) dX8_anew_47 rfl rfl ?_
      refine aw_bipush (n := 50) (v := 9) dX8_anew_48 (by decide) rfl ?_
      refine aw_icmp_ge (tg := 66) (n := 53) dX8_anew_50 (by decide) rfl (fun c_50 => ?_) (fun c_50 => by exact absurd (by decide) c_50)
      refine aw_vret dX8_anew_66 rfl ?_
      exact hQ Mk (fun k hk => by rw [h2 164 (by decide)]; exact g1 k hk) (by rw [h2 164 (by decide)]; exact g2) h1 (fun j hj => by rw [h2 164 (by decide)]; exact g3 j hj) (fun q a b => by rw [h2 q b]; exact g4 q a)
    | succ m ih =>
      intro k Mk M1 hk g1 g2 g3 g4 h1 h2
      have hin : vp_in (nI k) 9 := vp_in_nI (by omega) (by decide)
      have hkk : (nI k).toNatClampNeg = k := nI_clamp (by omega)
      refine aw_iload_n (n := 48) dX8_anew_47 rfl rfl ?_
      refine aw_bipush (n := 50) (v := 9) dX8_anew_48 (by decide) rfl ?_
      refine aw_icmp_ge (tg := 66) (n := 53) dX8_anew_50 (by decide) rfl (fun c_50 => by exact absurd c_50 (nI_ge (b := 9) (by omega) (by decide))) (fun c_50 => ?_)
      refine aw_aload_n (n := 54) dX8_anew_53 rfl rfl ?_
      refine aw_getr (n := 57) dX8_anew_54 fX8_70 E_164 rfl rfl ?_
      refine aw_iload_n (n := 58) dX8_anew_57 rfl rfl ?_
      refine aw_iconst (n := 59) (v := 0) dX8_anew_58 (by decide) rfl ?_
      refine aw_iast (n := 60) dX8_anew_59 E_185 (by assumption) rfl ?_
      refine aw_incp (n := 63) (L' := [_, _]) dX8_anew_60 rfl rfl rfl ?_
      refine aw_goto (n := 47) dX8_anew_63 (by decide) ?_
      rw [hkk, nI_1]
      refine ih (k + 1) _ M1 (by omega) g1 g2 g3 g4 (fun i hi => ?_) (fun q hq => ?_)
      · by_cases hik : i = k
        · subst hik; rw [up2_s]
        · rw [up2_k _ _ hik]; exact h1 i (by omega)
      · rw [up2_ra _ _ hq]; exact h2 q hq
  refine aw_aload_n (n := 1) dX8_anew_0 rfl rfl ?_
  refine aw_iconst (n := 2) (v := 0) dX8_anew_1 (by decide) rfl ?_
  refine aw_puti (n := 5) dX8_anew_2 pX8_203 E_164 rfl rfl ?_
  refine aw_aload_n (n := 6) dX8_anew_5 rfl rfl ?_
  refine aw_iconst (n := 7) (v := 0) dX8_anew_6 (by decide) rfl ?_
  refine aw_puti (n := 10) dX8_anew_7 pX8_206 E_164 rfl rfl ?_
  refine aw_aload_n (n := 11) dX8_anew_10 rfl rfl ?_
  refine aw_iconst (n := 12) (v := 0) dX8_anew_11 (by decide) rfl ?_
  refine aw_puti (n := 15) dX8_anew_12 pX8_209 E_164 rfl rfl ?_
  refine aw_aload_n (n := 16) dX8_anew_15 rfl rfl ?_
  refine aw_iconst (n := 17) (v := 0) dX8_anew_16 (by decide) rfl ?_
  refine aw_puti (n := 20) dX8_anew_17 pX8_212 E_164 rfl rfl ?_
  refine aw_aload_n (n := 21) dX8_anew_20 rfl rfl ?_
  refine aw_iconst (n := 22) (v := -1) dX8_anew_21 (by decide) rfl ?_
  refine aw_puti (n := 25) dX8_anew_22 pX8_89 E_164 rfl rfl ?_
  refine aw_aload_n (n := 26) dX8_anew_25 rfl rfl ?_
  refine aw_iconst (n := 27) (v := 0) dX8_anew_26 (by decide) rfl ?_
  refine aw_puti (n := 30) dX8_anew_27 pX8_215 E_164 rfl rfl ?_
  refine aw_aload_n (n := 31) dX8_anew_30 rfl rfl ?_
  refine aw_iconst (n := 32) (v := 0) dX8_anew_31 (by decide) rfl ?_
  refine aw_puti (n := 35) dX8_anew_32 pX8_218 E_164 rfl rfl ?_
  refine aw_aload_n (n := 36) dX8_anew_35 rfl rfl ?_
  refine aw_iconst (n := 37) (v := 0) dX8_anew_36 (by decide) rfl ?_
  refine aw_puti (n := 40) dX8_anew_37 pX8_221 E_164 rfl rfl ?_
  refine aw_aload_n (n := 41) dX8_anew_40 rfl rfl ?_
  refine aw_iconst (n := 42) (v := -1) dX8_anew_41 (by decide) rfl ?_
  refine aw_puti (n := 45) dX8_anew_42 pX8_76 E_164 rfl rfl ?_
  refine aw_iconst (n := 46) (v := 0) dX8_anew_45 (by decide) rfl ?_
  refine aw_istore_n (n := 47) (L' := [_, _]) dX8_anew_46 (Nat.le_of_ble_eq_true rfl) rfl rfl ?_
  refine loop 9 0 _ _ (by omega) (fun k hk => ?_) ?_ (fun j hj => ?_) (fun q hq => ?_) (fun i hi => by omega) (fun _ _ => rfl)
  · rcases (show k = 0 ∨ k = 1 ∨ k = 2 ∨ k = 3 ∨ k = 4 ∨ k = 5 ∨ k = 6 ∨ k = 7 by omega) with rfl | rfl | rfl | rfl | rfl | rfl | rfl | rfl <;> simp [up2, ta0]
  · rw [up2_s]
  · rw [up2_k _ _ (by omega), up2_k _ _ (by omega), up2_k _ _ (by omega), up2_k _ _ (by omega), up2_k _ _ (by omega), up2_k _ _ (by omega), up2_k _ _ (by omega), up2_k _ _ (by omega), up2_k _ _ (by omega)]
  · rw [up2_ra _ _ hq, up2_ra _ _ hq, up2_ra _ _ hq, up2_ra _ _ hq, up2_ra _ _ hq, up2_ra _ _ hq, up2_ra _ _ hq, up2_ra _ _ hq, up2_ra _ _ hq]
end MCASE
