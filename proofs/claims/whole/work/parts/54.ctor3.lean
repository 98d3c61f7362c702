/-! the worker's, the class's own and the reference's constructors -/
def pT0 : aC := .inl (5, [some none, some none, some none, some none, some none, some none, some none, none, none])
def pT1 : aC := .inl (5, [some (some 1), some none, some none, some none, some none, some none, some none, none, none])
def pT2 : aC := .inl (5, [some (some 1), some (some 2), some none, some none, some none, some none, some none, none, none])
def pT3 : aC := .inl (5, [some (some 1), some (some 2), some (some 8), some none, some none, some none, some none, none, none])
def pT4 : aC := .inl (5, [some (some 1), some (some 2), some (some 8), some (some 136), some none, some none, some none, none, none])
def pT5 : aC := .inl (5, [some (some 1), some (some 2), some (some 8), some (some 136), some (some 143), some none, some none, none, none])
def pT6 : aC := .inl (5, [some (some 1), some (some 2), some (some 8), some (some 136), some (some 143), some (some 145), some none, none, none])
def wK0 : aC := .inl (4, [some none, some none, some none, none, none])
def wK1 : aC := .inl (4, [some (some 2), some none, some none, none, none])
def wK2 : aC := .inl (4, [some (some 2), some (some 8), some none, none, none])
def eD (c : aC) (n : Nat) : aE := c :: (EE.drop 1).take n
def eW15 : aE := pT0 :: wK2 :: (EE.drop 2).take 13
def prs (b : Nat) : Nat → aE
  | 0 => []
  | i + 1 => prs b i ++ [.inl (0, [some (some (b + 2 * i + 1)), none, none, none, none]), .inr (.inl 3)]
theorem prs_len (b i : Nat) : (prs b i).length = 2 * i := by
  induction i with
  | zero => rfl
  | succ i ih => show (prs b i ++ [_, _]).length = _; rw [List.length_append, ih]; rfl
theorem np_len {A : aE} {a : Nat} {x : aC} (hA : A.length = a) (i : Nat) : (A ++ x :: prs (a + 1) i).length = a + 1 + 2 * i := by
  rw [List.length_append, List.length_cons, prs_len, hA]; omega
theorem np_step {A : aE} {a n i t : Nat} (hA : A.length = a) (hi : i < n) : (((A ++ .inr (.inr (t, rfs (a + 1) n i)) :: prs (a + 1) i) ++ [.inl (0, [some (some (a + 1 + 2 * i + 1)), none, none, none, none]), .inr (.inl 3)] : aE)).set a (.inr (.inr (t, (rfs (a + 1) n i).set i (some (a + 1 + 2 * i))))) = A ++ .inr (.inr (t, rfs (a + 1) n (i + 1))) :: prs (a + 1) (i + 1) := by
  rw [List.append_assoc, List.cons_append, ap_set hA, rfs_set hi]
  rfl
section CTOR3
variable {l : Launch} {K : aK} {Y : aY} {d kc ks pc n : Nat} {L st : List Value} {E : aE} {M : aM} {Q : Option Value → aE → aM → Prop}
theorem aw_top {r r' : Nat} (h : r = r') (k : aw l K Y d kc ks pc L (.ref r' :: st) E M Q) : aw l K Y d kc ks pc L (.ref r :: st) E M Q := by
  subst h; exact k
set_option maxRecDepth 20000 in
theorem c_worker (hd : 4 ≤ d) (hQ : ∀ M' : aM, M' 1 4 = 0 → M' 2 5 = 0 → Q none (eD pT0 135) M') : aw l K mX6_init d 134 1629 0 [.ref 1] [] [pT0, wK0] M Q := by
  refine aw_aload_n (n := 1) dX6_init_0 rfl rfl ?_
  refine aw_oinit (n := 4) dX6_init_1 gX6_3 iobjectInit k_objectInit (by omega) (Nat.le_of_ble_eq_true rfl) rfl ?_
  refine aw_aload_n (n := 5) dX6_init_4 rfl rfl ?_
  refine aw_new (n := 8) (N := 6) dX6_init_5 wX6_9 (by decide) rfl ?_
  refine aw_stE (st' := [.ref 2, .ref 1]) (E' := [pT0, wK0] ++ [.inl (2, [some none, some none, some none, some none, some none, none])]) rfl rfl ?_
  refine aw_dup (n := 9) dX6_init_8 rfl rfl ?_
  refine aw_c0 (d1 := d - 1) (n := 12) (Z := mX4_init) (L0 := [_]) (kc1 := 5) (kc2 := 128) (ks1 := 300) (ks2 := 1323) dX6_init_9 kX4_init gX6_11 rfl rfl iyX4_init (Nat.le_of_ble_eq_true rfl) rfl rfl (by omega) (Nat.le_of_ble_eq_true rfl) (by omega) (by omega) (c_terms (A := [pT0, wK0]) (a := 2) rfl (by omega) (by decide) (fun M1 _ h1 => ?_))
  dsimp only [aPush]
  refine aw_putF (n := 15) dX6_init_12 pX6_12 rfl rfl (Nat.le_of_ble_eq_true rfl) (fun _ => rfl) (fun _ => rfl) rfl ?_
  refine aw_E (E' := [pT0, wK1, .inl (2, [some (some 3), some (some 4), some (some 5), some (some 6), some (some 7), none]), .inr (.inl 60), .inr (.inl 60), .inr (.inl 60), .inr (.inl 60), .inr (.inl 60)]) (by decide +kernel) ?_
  refine aw_aload_n (n := 16) dX6_init_15 rfl rfl ?_
  refine aw_iconst (n := 17) (v := 3) dX6_init_16 (by decide) rfl ?_
  refine aw_s1k (d1 := d - 1) (n := 20) (Z := mX7_newValues) (L0 := [_, .null, .null]) (kc1 := 7) (kc2 := 121) (ks1 := 63) (ks2 := 1260) dX6_init_17 kX7_newValues gX6_18 syX7_newValues rfl (Nat.le_of_ble_eq_true rfl) rfl rfl (by omega) (Nat.le_of_ble_eq_true rfl) (by omega) (by omega) (c_newV (n := 3) (a := 8) rfl (by omega) (by decide) (by decide) (fun M2 f2 => ?_))
  dsimp only [aPush]
  refine aw_putF (n := 23) dX6_init_20 pX6_22 rfl rfl (Nat.le_of_ble_eq_true rfl) (fun _ => rfl) (fun _ => rfl) rfl ?_
  refine aw_E (E' := eW15) (by decide +kernel) ?_
  refine aw_aload_n (n := 24) dX6_init_23 rfl rfl ?_
  refine aw_bipush (n := 26) (v := 60) dX6_init_24 (by decide) rfl ?_
  refine aw_s1k (d1 := d - 1) (n := 29) (Z := mX7_newValues) (L0 := [_, .null, .null]) (kc1 := 121) (kc2 := 0) (ks1 := 1260) (ks2 := 0) dX6_init_26 kX7_newValues gX6_18 syX7_newValues rfl (Nat.le_of_ble_eq_true rfl) rfl rfl (by omega) (Nat.le_of_ble_eq_true rfl) (by omega) (by omega) (c_newV (n := 60) (a := 15) (by decide +kernel) (by omega) (by decide) (by decide) (fun M3 f3 => ?_))
  dsimp only [aPush]
  refine aw_putF (n := 32) dX6_init_29 pX6_26 rfl rfl (Nat.le_of_ble_eq_true rfl) (fun _ => rfl) (fun _ => rfl) rfl ?_
  refine aw_E (E' := eD pT0 135) (by decide +kernel) ?_
  refine aw_aload_n (n := 33) dX6_init_32 rfl rfl ?_
  refine aw_iconst (n := 34) (v := 0) dX6_init_33 (by decide) rfl ?_
  refine aw_puti (n := 37) dX6_init_34 pX6_29 rfl rfl rfl ?_
  refine aw_aload_n (n := 38) dX6_init_37 rfl rfl ?_
  refine aw_iconst (n := 39) (v := 0) dX6_init_38 (by decide) rfl ?_
  refine aw_puti (n := 42) dX6_init_39 pX6_33 rfl rfl rfl ?_
  refine aw_vret dX6_init_42 rfl ?_
  refine hQ _ (up2_s _ _ _ _) ?_
  rw [up2_a _ _ (by decide), up2_a _ _ (by decide), f3 2 (by decide), f2 2 (by decide)]
  exact h1
set_option maxRecDepth 20000 in
theorem c_ptL {M0 : aM} (hd : 4 ≤ d) (hk : ∀ M' : aM, (∀ q, q < 145 → M' q = M0 q) → aw l K mX7_init d 2 18 92 [.ref 0, .int (nI 8)] [] (eD pT6 144 ++ .inr (.inr (1, rfs 146 8 8)) :: prs 146 8) M' Q) : ∀ (m i : Nat) (M : aM), i + m = 8 → (∀ q, q < 145 → M q = M0 q) → aw l K mX7_init d (2 * m + 2) (8 * m + 18) 67 [.ref 0, .int (nI i)] [] (eD pT6 144 ++ .inr (.inr (1, rfs 146 8 i)) :: prs 146 i) M Q := by
  have hA : (eD pT6 144).length = 145 := by decide +kernel
  have hA0 : ∀ B : aE, (eD pT6 144 ++ B)[0]? = some pT6 := fun B => rfl
  intro m
  induction m with
  | zero =>
    intro i M hi hf
    obtain rfl : i = 8 := by omega
    refine aw_k (kc' := 2) (ks' := 18) rfl rfl ?_
    refine aw_iload_n (n := 68) dX7_init_67 rfl rfl ?_
    refine aw_bipush (n := 70) (v := 8) dX7_init_68 (by decide) rfl ?_
    refine aw_icmp_ge (tg := 92) (n := 73) dX7_init_70 (by decide) rfl (fun c_70 => ?_) (fun c_70 => by exact absurd (nI_le (a := 8) (b := 8) (by omega) (by omega)) c_70)
    exact hk M hf
  | succ m ih =>
    intro i M hi hf
    have hin : vp_in (nI i) (rfs (145 + 1) 8 i).length := by rw [rfs_len]; exact vp_in_nI (by omega) (by omega)
    refine aw_k (kc' := 2 * m + 2 + 1 + 1) (ks' := 8 * m + 18 + 3 + 5) (by omega) (by omega) ?_
    refine aw_iload_n (n := 68) dX7_init_67 rfl rfl ?_
    refine aw_bipush (n := 70) (v := 8) dX7_init_68 (by decide) rfl ?_
    refine aw_icmp_ge (tg := 92) (n := 73) dX7_init_70 (by decide) rfl (fun c_70 => by exact absurd ((nI_leI (a := 8) (by omega) (by omega)).mp c_70) (by omega)) (fun c_70 => ?_)
    refine aw_aload_n (n := 74) dX7_init_73 rfl rfl ?_
    refine aw_getr (n := 77) dX7_init_74 fX7_44 (hA0 _) rfl rfl ?_
    refine aw_iload_n (n := 78) dX7_init_77 rfl rfl ?_
    refine aw_new (n := 81) (N := 5) dX7_init_78 wX7_42 (by rw [np_len hA]; omega) rfl ?_
    rw [np_len hA]
    refine aw_dup (n := 82) dX7_init_81 rfl rfl ?_
    refine aw_c0 (d1 := d - 1) (n := 85) (Z := mX1_init) (L0 := [_]) (kc1 := 1) (kc2 := (2*m+2)) (ks1 := 3) (ks2 := (8*m+18)) dX7_init_82 kX1_init gX7_48 rfl rfl iyX1_init (Nat.le_of_ble_eq_true rfl) rfl rfl (by omega) (Nat.le_of_ble_eq_true rfl) (by omega) (by omega) (c_prop (np_len hA i) (by omega) (by omega) (fun M1 hf1 => ?_))
    dsimp only [aPush]
    refine aw_aast (n := 86) dX7_init_85 (by rw [List.append_assoc]; exact ap_a hA) (by decide) hin (ap_a (np_len hA i)) rfl rfl rfl ?_
    rw [nI_clamp (by omega), np_step hA (by omega)]
    refine aw_incp (n := 89) (L' := [_, _]) dX7_init_86 rfl rfl rfl ?_
    refine aw_goto (n := 67) dX7_init_89 (by decide) ?_
    rw [nI_1]; exact ih (i + 1) M1 (by omega) (fun q hq => by rw [hf1 q (by omega), aClr_n _ (by omega)]; exact hf q hq)
theorem xG_0 {M : aM} (h1 : M 2 5 = 0) (h2 : M 0 7 = 0) (h3 : M 1 4 = 0) (h4 : ∀ k, k < 8 → M 162 (k + 1) = ta0 k) (h5 : ∀ k, M 163 k = 0) (h6 : M 0 8 = -1) : xG (0, fun _ _ => 0, 0, fun _ _ => 0, rS0 0 (fun _ => none)) M :=
  ⟨⟨h1, fun t ht => absurd ht (Nat.not_lt_zero t), h2, fun k hk => absurd hk (Nat.not_lt_zero k)⟩, h3, h4, fun k _ => h5 k, h6, fun h => absurd (show (-1 : Int32) < 0 by decide) h⟩
set_option maxRecDepth 20000 in
theorem c_class (hd : 6 ≤ d) (hQ : ∀ M' : aM, xG (0, fun _ _ => 0, 0, fun _ _ => 0, rS0 0 (fun _ => none)) M' → Q none (EE.take 164) M') : aw l K mX7_init d 163 1807 0 [.ref 0, .null] [] [pT0] M Q := by
  refine aw_aload_n (n := 1) dX7_init_0 rfl rfl ?_
  refine aw_oinit (n := 4) dX7_init_1 gX7_1 iobjectInit k_objectInit (by omega) (Nat.le_of_ble_eq_true rfl) rfl ?_
  refine aw_aload_n (n := 5) dX7_init_4 rfl rfl ?_
  refine aw_new (n := 8) (N := 5) dX7_init_5 wX7_7 (by decide) rfl ?_
  refine aw_stE (st' := [.ref 1, .ref 0]) (E' := [pT0, wK0]) rfl rfl ?_
  refine aw_dup (n := 9) dX7_init_8 rfl rfl ?_
  refine aw_c0 (d1 := d - 1) (n := 12) (Z := mX6_init) (L0 := [_]) (kc1 := 134) (kc2 := 28) (ks1 := 1629) (ks2 := 173) dX7_init_9 kX6_init gX7_9 rfl rfl iyX6_init (Nat.le_of_ble_eq_true rfl) rfl rfl (by omega) (Nat.le_of_ble_eq_true rfl) (by omega) (by omega) (c_worker (by omega) (fun M1 a1 a2 => ?_))
  dsimp only [aPush]
  refine aw_putF (n := 15) dX7_init_12 pX7_10 rfl rfl (Nat.le_of_ble_eq_true rfl) (fun _ => rfl) (fun _ => rfl) rfl ?_
  refine aw_E (E' := eD pT1 135) rfl ?_
  refine aw_aload_n (n := 16) dX7_init_15 rfl rfl ?_
  refine aw_aload_n (n := 17) dX7_init_16 rfl rfl ?_
  refine aw_getr (n := 20) dX7_init_17 fX7_10 rfl rfl rfl ?_
  refine aw_getr (n := 23) dX7_init_20 fX7_16 rfl rfl rfl ?_
  refine aw_putF (n := 26) dX7_init_23 pX7_20 rfl rfl (Nat.le_of_ble_eq_true rfl) (fun _ => rfl) (fun _ => rfl) rfl ?_
  refine aw_E (E' := eD pT2 135) rfl ?_
  refine aw_aload_n (n := 27) dX7_init_26 rfl rfl ?_
  refine aw_aload_n (n := 28) dX7_init_27 rfl rfl ?_
  refine aw_getr (n := 31) dX7_init_28 fX7_10 rfl rfl rfl ?_
  refine aw_getr (n := 34) dX7_init_31 fX7_21 rfl rfl rfl ?_
  refine aw_putF (n := 37) dX7_init_34 pX7_25 rfl rfl (Nat.le_of_ble_eq_true rfl) (fun _ => rfl) (fun _ => rfl) rfl ?_
  refine aw_E (E' := eD pT3 135) rfl ?_
  refine aw_aload_n (n := 38) dX7_init_37 rfl rfl ?_
  refine aw_iconst (n := 39) (v := 3) dX7_init_38 (by decide) rfl ?_
  refine aw_s1k (d1 := d - 1) (n := 42) (Z := mX7_newValues) (L0 := [_, .null, .null]) (kc1 := 7) (kc2 := 21) (ks1 := 63) (ks2 := 110) dX7_init_39 kX7_newValues gX7_28 syX7_newValues rfl (Nat.le_of_ble_eq_true rfl) rfl rfl (by omega) (Nat.le_of_ble_eq_true rfl) (by omega) (by omega) (c_newV (n := 3) (a := 136) (by decide +kernel) (by omega) (by decide) (by decide) (fun M2 f2 => ?_))
  dsimp only [aPush]
  refine aw_putF (n := 45) dX7_init_42 pX7_32 rfl rfl (Nat.le_of_ble_eq_true rfl) (fun _ => rfl) (fun _ => rfl) rfl ?_
  refine aw_E (E' := eD pT4 142) (by decide +kernel) ?_
  refine aw_aload_n (n := 46) dX7_init_45 rfl rfl ?_
  refine aw_new (n := 49) (N := 4) dX7_init_46 wX7_35 (by decide +kernel) rfl ?_
  refine aw_top (r' := 143) (by decide +kernel) ?_
  refine aw_dup (n := 50) dX7_init_49 rfl rfl ?_
  refine aw_c0 (d1 := d - 1) (n := 53) (Z := mX5_init) (L0 := [_]) (kc1 := 1) (kc2 := 19) (ks1 := 16) (ks2 := 90) dX7_init_50 kX5_init gX7_37 rfl rfl iyX5_init (Nat.le_of_ble_eq_true rfl) rfl rfl (by omega) (Nat.le_of_ble_eq_true rfl) (by omega) (by omega) (c_value (A := eD pT4 142) (a := 143) (by decide +kernel) (by omega) (by decide) (fun M3 f3 => ?_))
  dsimp only [aPush]
  refine aw_putF (n := 56) dX7_init_53 pX7_38 rfl rfl (Nat.le_of_ble_eq_true rfl) (fun _ => rfl) (fun _ => rfl) rfl ?_
  refine aw_E (E' := eD pT5 144) (by decide +kernel) ?_
  refine aw_aload_n (n := 57) dX7_init_56 rfl rfl ?_
  refine aw_bipush (n := 59) (v := 8) dX7_init_57 (by decide) rfl ?_
  refine aw_anew (n := 62) (t := 1) (N := 8) dX7_init_59 (by decide) lX7_42 (by decide) (by decide) (by decide) (by decide +kernel) rfl ?_
  refine aw_top (r' := 145) (by decide +kernel) ?_
  rw [show (eD pT5 144).length = 145 from by decide +kernel]
  refine aw_putF (n := 65) dX7_init_62 pX7_44 rfl rfl (Nat.le_of_ble_eq_true rfl) (fun _ => rfl) (fun _ => rfl) rfl ?_
  refine aw_E (E' := eD pT6 144 ++ .inr (.inr (1, rfs 146 8 0)) :: prs 146 0) (by decide +kernel) ?_
  refine aw_iconst (n := 66) (v := 0) dX7_init_65 (by decide) rfl ?_
  refine aw_istore_n (n := 67) (L' := [_, _]) dX7_init_66 (Nat.le_of_ble_eq_true rfl) rfl rfl ?_
  refine c_ptL (M0 := M3) (by omega) (fun M4 f4 => ?_) 8 0 (aClr M3 145) rfl (fun q hq => aClr_n _ (by omega))
  have hB : (eD pT6 144 ++ .inr (.inr (1, rfs 146 8 8)) :: prs 146 8).length = 162 := by decide +kernel
  refine aw_aload_n (n := 93) dX7_init_92 rfl rfl ?_
  refine aw_new (n := 96) (N := 9) dX7_init_93 wX7_49 (by rw [hB]; omega) rfl ?_
  rw [hB]
  refine aw_dup (n := 97) dX7_init_96 rfl rfl ?_
  refine aw_c0 (d1 := d - 1) (n := 100) (Z := mX3_init) (L0 := [_]) (kc1 := 1) (kc2 := 0) (ks1 := 9) (ks2 := 0) dX7_init_97 kX3_init gX7_51 rfl rfl iyX3_init (Nat.le_of_ble_eq_true rfl) rfl rfl (by omega) (Nat.le_of_ble_eq_true rfl) (by omega) (by omega) (c_tally hB (by omega) (by decide) (fun M5 f5 g5 k5 => ?_))
  dsimp only [aPush]
  refine aw_putF (n := 103) dX7_init_100 pX7_52 rfl rfl (Nat.le_of_ble_eq_true rfl) (fun _ => rfl) (fun _ => rfl) rfl ?_
  refine aw_E (E' := EE.take 164) (by decide +kernel) ?_
  refine aw_aload_n (n := 104) dX7_init_103 rfl rfl ?_
  refine aw_iconst (n := 105) (v := 0) dX7_init_104 (by decide) rfl ?_
  refine aw_puti (n := 108) dX7_init_105 pX7_56 rfl rfl rfl ?_
  refine aw_aload_n (n := 109) dX7_init_108 rfl rfl ?_
  refine aw_iconst (n := 110) (v := -1) dX7_init_109 (by decide) rfl ?_
  refine aw_puti (n := 113) dX7_init_110 pX7_60 rfl rfl rfl ?_
  refine aw_vret dX7_init_113 rfl ?_
  have hf : ∀ q, q ≠ 0 → up2 (up2 M5 0 7 0) 0 8 (-1) q = M5 q := fun q hq => by rw [up2_ra _ _ hq, up2_ra _ _ hq]
  refine hQ _ (xG_0 ?_ ?_ ?_ ?_ ?_ (up2_s _ _ _ _))
  · rw [hf 2 (by decide), f5 2 (by decide), aClr_n _ (by decide), f4 2 (by decide), f3 2 (by decide), aClr_n _ (by decide), f2 2 (by decide)]; exact a2
  · rw [up2_k _ _ (by decide), up2_s]
  · rw [hf 1 (by decide), f5 1 (by decide), aClr_n _ (by decide), f4 1 (by decide), f3 1 (by decide), aClr_n _ (by decide), f2 1 (by decide)]; exact a1
  · rw [hf 162 (by decide)]; exact g5
  · rw [hf 163 (by decide)]; exact k5
theorem c_model1 {A : aE} (hA : A.length = 164) (hd : 1 ≤ d) (hk : ∀ M' : aM, fB M M' → (∀ j, j ≠ 41 → M' 164 j = M 164 j) → M' 164 41 = -1 → (∀ k, M' 185 k = 0) → aw l K mX8_init d 0 0 209 [.ref 164, .null] [] (A ++ .inl (6, [none, some (some 165), some (some 166), some (some 167), some (some 168), some (some 169), some (some 170), some (some 171), some (some 172), none, some (some 173), some (some 174), some (some 175), some (some 176), some (some 177), none, some (some 178), none, none, none, none, some (some 179), none, none, some (some 180), some (some 181), some (some 182), some (some 183), some (some 184), none, some (some 185), none, some (some 186), none, none, none, none, none, none, none, none, none, some (some 187), some (some 188), some (some 189)]) :: [.inr (.inl 60), .inr (.inl 60), .inr (.inl 60), .inr (.inl 60), .inr (.inl 60), .inr (.inl 3), .inr (.inl 3), .inr (.inl 48), .inr (.inl 61), .inr (.inl 61), .inr (.inl 183), .inr (.inl 183), .inr (.inl 183), .inr (.inl 1024), .inr (.inl 16), .inr (.inl 24), .inr (.inl 8), .inr (.inl 8), .inr (.inl 8), .inr (.inl 8), .inr (.inl 9), .inr (.inl 16), .inr (.inl 3), .inr (.inl 3), .inr (.inl 48)]) M' Q) : aw l K mX8_init d 25 2200 0 [.ref 164, .null] [] (A ++ [.inl (6, [none, some none, some none, some none, some none, some none, some none, some none, some none, none, some none, some none, some none, some none, some none, none, some none, none, none, none, none, some none, none, none, some none, some none, some none, some none, some none, none, some none, none, some none, none, none, none, none, none, none, none, none, none, some none, some none, some none])]) M Q := by
  refine aw_aload_n (n := 1) dX8_init_0 rfl rfl ?_
  refine aw_oinit (n := 4) dX8_init_1 gX8_1 iobjectInit k_objectInit (by omega) (Nat.le_of_ble_eq_true rfl) rfl ?_
  refine aw_aload_n (n := 5) dX8_init_4 rfl rfl ?_
  refine aw_bipush (n := 7) (v := 60) dX8_init_5 (by decide) rfl ?_
  refine aw_narr (n := 12) (a := 164) (r := 165) (N := 60) (k := 1) (F' := [none, some (some 165), some none, some none, some none, some none, some none, some none, some none, none, some none, some none, some none, some none, some none, none, some none, none, none, none, none, some none, none, none, some none, some none, some none, some none, some none, none, some none, none, some none, none, none, none, none, none, none, none, none, none, some none, some none, some none]) (B' := [.inr (.inl 60)]) hA dX8_init_7 dX8_init_9 pX8_7 rfl (by decide) (by decide) (by decide) (by decide) (by decide) rfl rfl rfl rfl ?_
  refine aw_aload_n (n := 13) dX8_init_12 rfl rfl ?_
  refine aw_bipush (n := 15) (v := 60) dX8_init_13 (by decide) rfl ?_
  refine aw_narr (n := 20) (a := 164) (r := 166) (N := 60) (k := 2) (F' := [none, some (some 165), some (some 166), some none, some none, some none, some none, some none, some none, none, some none, some none, some none, some none, some none, none, some none, none, none, none, none, some none, none, none, some none, some none, some none, some none, some none, none, some none, none, some none, none, none, none, none, none, none, none, none, none, some none, some none, some none]) (B' := [.inr (.inl 60), .inr (.inl 60)]) hA dX8_init_15 dX8_init_17 pX8_13 rfl (by decide) (by decide) (by decide) (by decide) (by decide) rfl rfl rfl rfl ?_
  refine aw_aload_n (n := 21) dX8_init_20 rfl rfl ?_
  refine aw_bipush (n := 23) (v := 60) dX8_init_21 (by decide) rfl ?_
  refine aw_narr (n := 28) (a := 164) (r := 167) (N := 60) (k := 3) (F' := [none, some (some 165), some (some 166), some (some 167), some none, some none, some none, some none, some none, none, some none, some none, some none, some none, some none, none, some none, none, none, none, none, some none, none, none, some none, some none, some none, some none, some none, none, some none, none, some none, none, none, none, none, none, none, none, none, none, some none, some none, some none]) (B' := [.inr (.inl 60), .inr (.inl 60), .inr (.inl 60)]) hA dX8_init_23 dX8_init_25 pX8_16 rfl (by decide) (by decide) (by decide) (by decide) (by decide) rfl rfl rfl rfl ?_
  refine aw_aload_n (n := 29) dX8_init_28 rfl rfl ?_
  refine aw_bipush (n := 31) (v := 60) dX8_init_29 (by decide) rfl ?_
  refine aw_narr (n := 36) (a := 164) (r := 168) (N := 60) (k := 4) (F' := [none, some (some 165), some (some 166), some (some 167), some (some 168), some none, some none, some none, some none, none, some none, some none, some none, some none, some none, none, some none, none, none, none, none, some none, none, none, some none, some none, some none, some none, some none, none, some none, none, some none, none, none, none, none, none, none, none, none, none, some none, some none, some none]) (B' := [.inr (.inl 60), .inr (.inl 60), .inr (.inl 60), .inr (.inl 60)]) hA dX8_init_31 dX8_init_33 pX8_19 rfl (by decide) (by decide) (by decide) (by decide) (by decide) rfl rfl rfl rfl ?_
  refine aw_aload_n (n := 37) dX8_init_36 rfl rfl ?_
  refine aw_bipush (n := 39) (v := 60) dX8_init_37 (by decide) rfl ?_
  refine aw_narr (n := 44) (a := 164) (r := 169) (N := 60) (k := 5) (F' := [none, some (some 165), some (some 166), some (some 167), some (some 168), some (some 169), some none, some none, some none, none, some none, some none, some none, some none, some none, none, some none, none, none, none, none, some none, none, none, some none, some none, some none, some none, some none, none, some none, none, some none, none, none, none, none, none, none, none, none, none, some none, some none, some none]) (B' := [.inr (.inl 60), .inr (.inl 60), .inr (.inl 60), .inr (.inl 60), .inr (.inl 60)]) hA dX8_init_39 dX8_init_41 pX8_22 rfl (by decide) (by decide) (by decide) (by decide) (by decide) rfl rfl rfl rfl ?_
  refine aw_aload_n (n := 45) dX8_init_44 rfl rfl ?_
  refine aw_iconst (n := 46) (v := 3) dX8_init_45 (by decide) rfl ?_
  refine aw_narr (n := 51) (a := 164) (r := 170) (N := 3) (k := 6) (F' := [none, some (some 165), some (some 166), some (some 167), some (some 168), some (some 169), some (some 170), some none, some none, none, some none, some none, some none, some none, some none, none, some none, none, none, none, none, some none, none, none, some none, some none, some none, some none, some none, none, some none, none, some none, none, none, none, none, none, none, none, none, none, some none, some none, some none]) (B' := [.inr (.inl 60), .inr (.inl 60), .inr (.inl 60), .inr (.inl 60), .inr (.inl 60), .inr (.inl 3)]) hA dX8_init_46 dX8_init_48 pX8_25 rfl (by decide) (by decide) (by decide) (by decide) (by decide) rfl rfl rfl rfl ?_
  refine aw_aload_n (n := 52) dX8_init_51 rfl rfl ?_
  refine aw_iconst (n := 53) (v := 3) dX8_init_52 (by decide) rfl ?_
  refine aw_narr (n := 58) (a := 164) (r := 171) (N := 3) (k := 7) (F' := [none, some (some 165), some (some 166), some (some 167), some (some 168), some (some 169), some (some 170), some (some 171), some none, none, some none, some none, some none, some none, some none, none, some none, none, none, none, none, some none, none, none, some none, some none, some none, some none, some none, none, some none, none, some none, none, none, none, none, none, none, none, none, none, some none, some none, some none]) (B' := [.inr (.inl 60), .inr (.inl 60), .inr (.inl 60), .inr (.inl 60), .inr (.inl 60), .inr (.inl 3), .inr (.inl 3)]) hA dX8_init_53 dX8_init_55 pX8_28 rfl (by decide) (by decide) (by decide) (by decide) (by decide) rfl rfl rfl rfl ?_
  refine aw_aload_n (n := 59) dX8_init_58 rfl rfl ?_
  refine aw_bipush (n := 61) (v := 48) dX8_init_59 (by decide) rfl ?_
  refine aw_narr (n := 66) (a := 164) (r := 172) (N := 48) (k := 8) (F' := [none, some (some 165), some (some 166), some (some 167), some (some 168), some (some 169), some (some 170), some (some 171), some (some 172), none, some none, some none, some none, some none, some none, none, some none, none, none, none, none, some none, none, none, some none, some none, some none, some none, some none, none, some none, none, some none, none, none, none, none, none, none, none, none, none, some none, some none, some none]) (B' := [.inr (.inl 60), .inr (.inl 60), .inr (.inl 60), .inr (.inl 60), .inr (.inl 60), .inr (.inl 3), .inr (.inl 3), .inr (.inl 48)]) hA dX8_init_61 dX8_init_63 pX8_31 rfl (by decide) (by decide) (by decide) (by decide) (by decide) rfl rfl rfl rfl ?_
  refine aw_aload_n (n := 67) dX8_init_66 rfl rfl ?_
  refine aw_bipush (n := 69) (v := 61) dX8_init_67 (by decide) rfl ?_
  refine aw_narr (n := 74) (a := 164) (r := 173) (N := 61) (k := 10) (F' := [none, some (some 165), some (some 166), some (some 167), some (some 168), some (some 169), some (some 170), some (some 171), some (some 172), none, some (some 173), some none, some none, some none, some none, none, some none, none, none, none, none, some none, none, none, some none, some none, some none, some none, some none, none, some none, none, some none, none, none, none, none, none, none, none, none, none, some none, some none, some none]) (B' := [.inr (.inl 60), .inr (.inl 60), .inr (.inl 60), .inr (.inl 60), .inr (.inl 60), .inr (.inl 3), .inr (.inl 3), .inr (.inl 48), .inr (.inl 61)]) hA dX8_init_69 dX8_init_71 pX8_34 rfl (by decide) (by decide) (by decide) (by decide) (by decide) rfl rfl rfl rfl ?_
  refine aw_aload_n (n := 75) dX8_init_74 rfl rfl ?_
  refine aw_bipush (n := 77) (v := 61) dX8_init_75 (by decide) rfl ?_
  refine aw_narr (n := 82) (a := 164) (r := 174) (N := 61) (k := 11) (F' := [none, some (some 165), some (some 166), some (some 167), some (some 168), some (some 169), some (some 170), some (some 171), some (some 172), none, some (some 173), some (some 174), some none, some none, some none, none, some none, none, none, none, none, some none, none, none, some none, some none, some none, some none, some none, none, some none, none, some none, none, none, none, none, none, none, none, none, none, some none, some none, some none]) (B' := [.inr (.inl 60), .inr (.inl 60), .inr (.inl 60), .inr (.inl 60), .inr (.inl 60), .inr (.inl 3), .inr (.inl 3), .inr (.inl 48), .inr (.inl 61), .inr (.inl 61)]) hA dX8_init_77 dX8_init_79 pX8_37 rfl (by decide) (by decide) (by decide) (by decide) (by decide) rfl rfl rfl rfl ?_
  refine aw_aload_n (n := 83) dX8_init_82 rfl rfl ?_
  refine aw_sipush (n := 86) (v := 183) dX8_init_83 (by decide) rfl ?_
  refine aw_narr (n := 91) (a := 164) (r := 175) (N := 183) (k := 12) (F' := [none, some (some 165), some (some 166), some (some 167), some (some 168), some (some 169), some (some 170), some (some 171), some (some 172), none, some (some 173), some (some 174), some (some 175), some none, some none, none, some none, none, none, none, none, some none, none, none, some none, some none, some none, some none, some none, none, some none, none, some none, none, none, none, none, none, none, none, none, none, some none, some none, some none]) (B' := [.inr (.inl 60), .inr (.inl 60), .inr (.inl 60), .inr (.inl 60), .inr (.inl 60), .inr (.inl 3), .inr (.inl 3), .inr (.inl 48), .inr (.inl 61), .inr (.inl 61), .inr (.inl 183)]) hA dX8_init_86 dX8_init_88 pX8_40 rfl (by decide) (by decide) (by decide) (by decide) (by decide) rfl rfl rfl rfl ?_
  refine aw_aload_n (n := 92) dX8_init_91 rfl rfl ?_
  refine aw_sipush (n := 95) (v := 183) dX8_init_92 (by decide) rfl ?_
  refine aw_narr (n := 100) (a := 164) (r := 176) (N := 183) (k := 13) (F' := [none, some (some 165), some (some 166), some (some 167), some (some 168), some (some 169), some (some 170), some (some 171), some (some 172), none, some (some 173), some (some 174), some (some 175), some (some 176), some none, none, some none, none, none, none, none, some none, none, none, some none, some none, some none, some none, some none, none, some none, none, some none, none, none, none, none, none, none, none, none, none, some none, some none, some none]) (B' := [.inr (.inl 60), .inr (.inl 60), .inr (.inl 60), .inr (.inl 60), .inr (.inl 60), .inr (.inl 3), .inr (.inl 3), .inr (.inl 48), .inr (.inl 61), .inr (.inl 61), .inr (.inl 183), .inr (.inl 183)]) hA dX8_init_95 dX8_init_97 pX8_43 rfl (by decide) (by decide) (by decide) (by decide) (by decide) rfl rfl rfl rfl ?_
  refine aw_aload_n (n := 101) dX8_init_100 rfl rfl ?_
  refine aw_sipush (n := 104) (v := 183) dX8_init_101 (by decide) rfl ?_
  refine aw_narr (n := 109) (a := 164) (r := 177) (N := 183) (k := 14) (F' := [none, some (some 165), some (some 166), some (some 167), some (some 168), some (some 169), some (some 170), some (some 171), some (some 172), none, some (some 173), some (some 174), some (some 175), some (some 176), some (some 177), none, some none, none, none, none, none, some none, none, none, some none, some none, some none, some none, some none, none, some none, none, some none, none, none, none, none, none, none, none, none, none, some none, some none, some none]) (B' := [.inr (.inl 60), .inr (.inl 60), .inr (.inl 60), .inr (.inl 60), .inr (.inl 60), .inr (.inl 3), .inr (.inl 3), .inr (.inl 48), .inr (.inl 61), .inr (.inl 61), .inr (.inl 183), .inr (.inl 183), .inr (.inl 183)]) hA dX8_init_104 dX8_init_106 pX8_46 rfl (by decide) (by decide) (by decide) (by decide) (by decide) rfl rfl rfl rfl ?_
  refine aw_aload_n (n := 110) dX8_init_109 rfl rfl ?_
  refine aw_sipush (n := 113) (v := 1024) dX8_init_110 (by decide) rfl ?_
  refine aw_narr (n := 118) (a := 164) (r := 178) (N := 1024) (k := 16) (F' := [none, some (some 165), some (some 166), some (some 167), some (some 168), some (some 169), some (some 170), some (some 171), some (some 172), none, some (some 173), some (some 174), some (some 175), some (some 176), some (some 177), none, some (some 178), none, none, none, none, some none, none, none, some none, some none, some none, some none, some none, none, some none, none, some none, none, none, none, none, none, none, none, none, none, some none, some none, some none]) (B' := [.inr (.inl 60), .inr (.inl 60), .inr (.inl 60), .inr (.inl 60), .inr (.inl 60), .inr (.inl 3), .inr (.inl 3), .inr (.inl 48), .inr (.inl 61), .inr (.inl 61), .inr (.inl 183), .inr (.inl 183), .inr (.inl 183), .inr (.inl 1024)]) hA dX8_init_113 dX8_init_115 pX8_49 rfl (by decide) (by decide) (by decide) (by decide) (by decide) rfl rfl rfl rfl ?_
  refine aw_aload_n (n := 119) dX8_init_118 rfl rfl ?_
  refine aw_bipush (n := 121) (v := 16) dX8_init_119 (by decide) rfl ?_
  refine aw_narr (n := 126) (a := 164) (r := 179) (N := 16) (k := 21) (F' := [none, some (some 165), some (some 166), some (some 167), some (some 168), some (some 169), some (some 170), some (some 171), some (some 172), none, some (some 173), some (some 174), some (some 175), some (some 176), some (some 177), none, some (some 178), none, none, none, none, some (some 179), none, none, some none, some none, some none, some none, some none, none, some none, none, some none, none, none, none, none, none, none, none, none, none, some none, some none, some none]) (B' := [.inr (.inl 60), .inr (.inl 60), .inr (.inl 60), .inr (.inl 60), .inr (.inl 60), .inr (.inl 3), .inr (.inl 3), .inr (.inl 48), .inr (.inl 61), .inr (.inl 61), .inr (.inl 183), .inr (.inl 183), .inr (.inl 183), .inr (.inl 1024), .inr (.inl 16)]) hA dX8_init_121 dX8_init_123 pX8_52 rfl (by decide) (by decide) (by decide) (by decide) (by decide) rfl rfl rfl rfl ?_
  refine aw_aload_n (n := 127) dX8_init_126 rfl rfl ?_
  refine aw_bipush (n := 129) (v := 24) dX8_init_127 (by decide) rfl ?_
  refine aw_narr (n := 134) (a := 164) (r := 180) (N := 24) (k := 24) (F' := [none, some (some 165), some (some 166), some (some 167), some (some 168), some (some 169), some (some 170), some (some 171), some (some 172), none, some (some 173), some (some 174), some (some 175), some (some 176), some (some 177), none, some (some 178), none, none, none, none, some (some 179), none, none, some (some 180), some none, some none, some none, some none, none, some none, none, some none, none, none, none, none, none, none, none, none, none, some none, some none, some none]) (B' := [.inr (.inl 60), .inr (.inl 60), .inr (.inl 60), .inr (.inl 60), .inr (.inl 60), .inr (.inl 3), .inr (.inl 3), .inr (.inl 48), .inr (.inl 61), .inr (.inl 61), .inr (.inl 183), .inr (.inl 183), .inr (.inl 183), .inr (.inl 1024), .inr (.inl 16), .inr (.inl 24)]) hA dX8_init_129 dX8_init_131 pX8_55 rfl (by decide) (by decide) (by decide) (by decide) (by decide) rfl rfl rfl rfl ?_
  refine aw_aload_n (n := 135) dX8_init_134 rfl rfl ?_
  refine aw_bipush (n := 137) (v := 8) dX8_init_135 (by decide) rfl ?_
  refine aw_narr (n := 142) (a := 164) (r := 181) (N := 8) (k := 25) (F' := [none, some (some 165), some (some 166), some (some 167), some (some 168), some (some 169), some (some 170), some (some 171), some (some 172), none, some (some 173), some (some 174), some (some 175), some (some 176), some (some 177), none, some (some 178), none, none, none, none, some (some 179), none, none, some (some 180), some (some 181), some none, some none, some none, none, some none, none, some none, none, none, none, none, none, none, none, none, none, some none, some none, some none]) (B' := [.inr (.inl 60), .inr (.inl 60), .inr (.inl 60), .inr (.inl 60), .inr (.inl 60), .inr (.inl 3), .inr (.inl 3), .inr (.inl 48), .inr (.inl 61), .inr (.inl 61), .inr (.inl 183), .inr (.inl 183), .inr (.inl 183), .inr (.inl 1024), .inr (.inl 16), .inr (.inl 24), .inr (.inl 8)]) hA dX8_init_137 dX8_init_139 pX8_58 rfl (by decide) (by decide) (by decide) (by decide) (by decide) rfl rfl rfl rfl ?_
  refine aw_aload_n (n := 143) dX8_init_142 rfl rfl ?_
  refine aw_bipush (n := 145) (v := 8) dX8_init_143 (by decide) rfl ?_
  refine aw_narr (n := 150) (a := 164) (r := 182) (N := 8) (k := 26) (F' := [none, some (some 165), some (some 166), some (some 167), some (some 168), some (some 169), some (some 170), some (some 171), some (some 172), none, some (some 173), some (some 174), some (some 175), some (some 176), some (some 177), none, some (some 178), none, none, none, none, some (some 179), none, none, some (some 180), some (some 181), some (some 182), some none, some none, none, some none, none, some none, none, none, none, none, none, none, none, none, none, some none, some none, some none]) (B' := [.inr (.inl 60), .inr (.inl 60), .inr (.inl 60), .inr (.inl 60), .inr (.inl 60), .inr (.inl 3), .inr (.inl 3), .inr (.inl 48), .inr (.inl 61), .inr (.inl 61), .inr (.inl 183), .inr (.inl 183), .inr (.inl 183), .inr (.inl 1024), .inr (.inl 16), .inr (.inl 24), .inr (.inl 8), .inr (.inl 8)]) hA dX8_init_145 dX8_init_147 pX8_61 rfl (by decide) (by decide) (by decide) (by decide) (by decide) rfl rfl rfl rfl ?_
  refine aw_aload_n (n := 151) dX8_init_150 rfl rfl ?_
  refine aw_bipush (n := 153) (v := 8) dX8_init_151 (by decide) rfl ?_
  refine aw_narr (n := 158) (a := 164) (r := 183) (N := 8) (k := 27) (F' := [none, some (some 165), some (some 166), some (some 167), some (some 168), some (some 169), some (some 170), some (some 171), some (some 172), none, some (some 173), some (some 174), some (some 175), some (some 176), some (some 177), none, some (some 178), none, none, none, none, some (some 179), none, none, some (some 180), some (some 181), some (some 182), some (some 183), some none, none, some none, none, some none, none, none, none, none, none, none, none, none, none, some none, some none, some none]) (B' := [.inr (.inl 60), .inr (.inl 60), .inr (.inl 60), .inr (.inl 60), .inr (.inl 60), .inr (.inl 3), .inr (.inl 3), .inr (.inl 48), .inr (.inl 61), .inr (.inl 61), .inr (.inl 183), .inr (.inl 183), .inr (.inl 183), .inr (.inl 1024), .inr (.inl 16), .inr (.inl 24), .inr (.inl 8), .inr (.inl 8), .inr (.inl 8)]) hA dX8_init_153 dX8_init_155 pX8_64 rfl (by decide) (by decide) (by decide) (by decide) (by decide) rfl rfl rfl rfl ?_
  refine aw_aload_n (n := 159) dX8_init_158 rfl rfl ?_
  refine aw_bipush (n := 161) (v := 8) dX8_init_159 (by decide) rfl ?_
  refine aw_narr (n := 166) (a := 164) (r := 184) (N := 8) (k := 28) (F' := [none, some (some 165), some (some 166), some (some 167), some (some 168), some (some 169), some (some 170), some (some 171), some (some 172), none, some (some 173), some (some 174), some (some 175), some (some 176), some (some 177), none, some (some 178), none, none, none, none, some (some 179), none, none, some (some 180), some (some 181), some (some 182), some (some 183), some (some 184), none, some none, none, some none, none, none, none, none, none, none, none, none, none, some none, some none, some none]) (B' := [.inr (.inl 60), .inr (.inl 60), .inr (.inl 60), .inr (.inl 60), .inr (.inl 60), .inr (.inl 3), .inr (.inl 3), .inr (.inl 48), .inr (.inl 61), .inr (.inl 61), .inr (.inl 183), .inr (.inl 183), .inr (.inl 183), .inr (.inl 1024), .inr (.inl 16), .inr (.inl 24), .inr (.inl 8), .inr (.inl 8), .inr (.inl 8), .inr (.inl 8)]) hA dX8_init_161 dX8_init_163 pX8_67 rfl (by decide) (by decide) (by decide) (by decide) (by decide) rfl rfl rfl rfl ?_
  refine aw_aload_n (n := 167) dX8_init_166 rfl rfl ?_
  refine aw_bipush (n := 169) (v := 9) dX8_init_167 (by decide) rfl ?_
  refine aw_narr (n := 174) (a := 164) (r := 185) (N := 9) (k := 30) (F' := [none, some (some 165), some (some 166), some (some 167), some (some 168), some (some 169), some (some 170), some (some 171), some (some 172), none, some (some 173), some (some 174), some (some 175), some (some 176), some (some 177), none, some (some 178), none, none, none, none, some (some 179), none, none, some (some 180), some (some 181), some (some 182), some (some 183), some (some 184), none, some (some 185), none, some none, none, none, none, none, none, none, none, none, none, some none, some none, some none]) (B' := [.inr (.inl 60), .inr (.inl 60), .inr (.inl 60), .inr (.inl 60), .inr (.inl 60), .inr (.inl 3), .inr (.inl 3), .inr (.inl 48), .inr (.inl 61), .inr (.inl 61), .inr (.inl 183), .inr (.inl 183), .inr (.inl 183), .inr (.inl 1024), .inr (.inl 16), .inr (.inl 24), .inr (.inl 8), .inr (.inl 8), .inr (.inl 8), .inr (.inl 8), .inr (.inl 9)]) hA dX8_init_169 dX8_init_171 pX8_70 rfl (by decide) (by decide) (by decide) (by decide) (by decide) rfl rfl rfl rfl ?_
  refine aw_aload_n (n := 175) dX8_init_174 rfl rfl ?_
  refine aw_bipush (n := 177) (v := 16) dX8_init_175 (by decide) rfl ?_
  refine aw_narr (n := 182) (a := 164) (r := 186) (N := 16) (k := 32) (F' := [none, some (some 165), some (some 166), some (some 167), some (some 168), some (some 169), some (some 170), some (some 171), some (some 172), none, some (some 173), some (some 174), some (some 175), some (some 176), some (some 177), none, some (some 178), none, none, none, none, some (some 179), none, none, some (some 180), some (some 181), some (some 182), some (some 183), some (some 184), none, some (some 185), none, some (some 186), none, none, none, none, none, none, none, none, none, some none, some none, some none]) (B' := [.inr (.inl 60), .inr (.inl 60), .inr (.inl 60), .inr (.inl 60), .inr (.inl 60), .inr (.inl 3), .inr (.inl 3), .inr (.inl 48), .inr (.inl 61), .inr (.inl 61), .inr (.inl 183), .inr (.inl 183), .inr (.inl 183), .inr (.inl 1024), .inr (.inl 16), .inr (.inl 24), .inr (.inl 8), .inr (.inl 8), .inr (.inl 8), .inr (.inl 8), .inr (.inl 9), .inr (.inl 16)]) hA dX8_init_177 dX8_init_179 pX8_73 rfl (by decide) (by decide) (by decide) (by decide) (by decide) rfl rfl rfl rfl ?_
  refine aw_aload_n (n := 183) dX8_init_182 rfl rfl ?_
  refine aw_iconst (n := 184) (v := -1) dX8_init_183 (by decide) rfl ?_
  refine aw_puti (n := 187) dX8_init_184 pX8_76 (ap_a hA) rfl rfl ?_
  refine aw_aload_n (n := 188) dX8_init_187 rfl rfl ?_
  refine aw_iconst (n := 189) (v := 3) dX8_init_188 (by decide) rfl ?_
  refine aw_narr (n := 194) (a := 164) (r := 187) (N := 3) (k := 42) (F' := [none, some (some 165), some (some 166), some (some 167), some (some 168), some (some 169), some (some 170), some (some 171), some (some 172), none, some (some 173), some (some 174), some (some 175), some (some 176), some (some 177), none, some (some 178), none, none, none, none, some (some 179), none, none, some (some 180), some (some 181), some (some 182), some (some 183), some (some 184), none, some (some 185), none, some (some 186), none, none, none, none, none, none, none, none, none, some (some 187), some none, some none]) (B' := [.inr (.inl 60), .inr (.inl 60), .inr (.inl 60), .inr (.inl 60), .inr (.inl 60), .inr (.inl 3), .inr (.inl 3), .inr (.inl 48), .inr (.inl 61), .inr (.inl 61), .inr (.inl 183), .inr (.inl 183), .inr (.inl 183), .inr (.inl 1024), .inr (.inl 16), .inr (.inl 24), .inr (.inl 8), .inr (.inl 8), .inr (.inl 8), .inr (.inl 8), .inr (.inl 9), .inr (.inl 16), .inr (.inl 3)]) hA dX8_init_189 dX8_init_191 pX8_80 rfl (by decide) (by decide) (by decide) (by decide) (by decide) rfl rfl rfl rfl ?_
  refine aw_aload_n (n := 195) dX8_init_194 rfl rfl ?_
  refine aw_iconst (n := 196) (v := 3) dX8_init_195 (by decide) rfl ?_
  refine aw_narr (n := 201) (a := 164) (r := 188) (N := 3) (k := 43) (F' := [none, some (some 165), some (some 166), some (some 167), some (some 168), some (some 169), some (some 170), some (some 171), some (some 172), none, some (some 173), some (some 174), some (some 175), some (some 176), some (some 177), none, some (some 178), none, none, none, none, some (some 179), none, none, some (some 180), some (some 181), some (some 182), some (some 183), some (some 184), none, some (some 185), none, some (some 186), none, none, none, none, none, none, none, none, none, some (some 187), some (some 188), some none]) (B' := [.inr (.inl 60), .inr (.inl 60), .inr (.inl 60), .inr (.inl 60), .inr (.inl 60), .inr (.inl 3), .inr (.inl 3), .inr (.inl 48), .inr (.inl 61), .inr (.inl 61), .inr (.inl 183), .inr (.inl 183), .inr (.inl 183), .inr (.inl 1024), .inr (.inl 16), .inr (.inl 24), .inr (.inl 8), .inr (.inl 8), .inr (.inl 8), .inr (.inl 8), .inr (.inl 9), .inr (.inl 16), .inr (.inl 3), .inr (.inl 3)]) hA dX8_init_196 dX8_init_198 pX8_83 rfl (by decide) (by decide) (by decide) (by decide) (by decide) rfl rfl rfl rfl ?_
  refine aw_aload_n (n := 202) dX8_init_201 rfl rfl ?_
  refine aw_bipush (n := 204) (v := 48) dX8_init_202 (by decide) rfl ?_
  refine aw_narr (n := 209) (a := 164) (r := 189) (N := 48) (k := 44) (F' := [none, some (some 165), some (some 166), some (some 167), some (some 168), some (some 169), some (some 170), some (some 171), some (some 172), none, some (some 173), some (some 174), some (some 175), some (some 176), some (some 177), none, some (some 178), none, none, none, none, some (some 179), none, none, some (some 180), some (some 181), some (some 182), some (some 183), some (some 184), none, some (some 185), none, some (some 186), none, none, none, none, none, none, none, none, none, some (some 187), some (some 188), some (some 189)]) (B' := [.inr (.inl 60), .inr (.inl 60), .inr (.inl 60), .inr (.inl 60), .inr (.inl 60), .inr (.inl 3), .inr (.inl 3), .inr (.inl 48), .inr (.inl 61), .inr (.inl 61), .inr (.inl 183), .inr (.inl 183), .inr (.inl 183), .inr (.inl 1024), .inr (.inl 16), .inr (.inl 24), .inr (.inl 8), .inr (.inl 8), .inr (.inl 8), .inr (.inl 8), .inr (.inl 9), .inr (.inl 16), .inr (.inl 3), .inr (.inl 3), .inr (.inl 48)]) hA dX8_init_204 dX8_init_206 pX8_86 rfl (by decide) (by decide) (by decide) (by decide) (by decide) rfl rfl rfl rfl ?_
  refine hk _ (fun q hq => ?_) (fun j hj => ?_) ?_ (fun k => ?_)
  · rw [aClr_n _ (by omega), aClr_n _ (by omega), aClr_n _ (by omega), up2_ra _ _ (by omega), aClr_n _ (by omega), aClr_n _ (by omega), aClr_n _ (by omega), aClr_n _ (by omega), aClr_n _ (by omega), aClr_n _ (by omega), aClr_n _ (by omega), aClr_n _ (by omega), aClr_n _ (by omega), aClr_n _ (by omega), aClr_n _ (by omega), aClr_n _ (by omega), aClr_n _ (by omega), aClr_n _ (by omega), aClr_n _ (by omega), aClr_n _ (by omega), aClr_n _ (by omega), aClr_n _ (by omega), aClr_n _ (by omega), aClr_n _ (by omega), aClr_n _ (by omega), aClr_n _ (by omega)]
  · rw [aClr_n _ (by decide), aClr_n _ (by decide), aClr_n _ (by decide), up2_k _ _ hj, aClr_n _ (by decide), aClr_n _ (by decide), aClr_n _ (by decide), aClr_n _ (by decide), aClr_n _ (by decide), aClr_n _ (by decide), aClr_n _ (by decide), aClr_n _ (by decide), aClr_n _ (by decide), aClr_n _ (by decide), aClr_n _ (by decide), aClr_n _ (by decide), aClr_n _ (by decide), aClr_n _ (by decide), aClr_n _ (by decide), aClr_n _ (by decide), aClr_n _ (by decide), aClr_n _ (by decide), aClr_n _ (by decide), aClr_n _ (by decide), aClr_n _ (by decide), aClr_n _ (by decide)]
  · rw [aClr_n _ (by decide), aClr_n _ (by decide), aClr_n _ (by decide), up2_s]
  · rw [aClr_n _ (by decide), aClr_n _ (by decide), aClr_n _ (by decide), up2_ra _ _ (by decide), aClr_n _ (by decide), aClr_s]
theorem yG_0 {M : aM} (h1 : ∀ j, j ≠ 41 → j ≠ 37 → M 164 j = 0) (h2 : M 164 37 = -1) (h3 : M 164 41 = -1) (h4 : ∀ k, M 185 k = 0) : yG (0, fun _ _ => 0, 0, fun _ _ => 0, rS0 0 (fun _ => none)) M := by
  refine ⟨⟨h1 0 (by decide) (by decide), fun t ht => absurd ht (Nat.not_lt_zero t), h1 23 (by decide) (by decide), fun k hk => absurd hk (Nat.not_lt_zero k)⟩, h1 29 (by decide) (by decide), fun k hk => ?_, fun k _ => h4 k, h3, fun h => absurd (show (-1 : Int32) < 0 by decide) h⟩
  show M 164 (33 + k) = ta0 k
  by_cases h : k = 4
  · subst h; rw [h2]; rfl
  · rw [h1 (33 + k) (by omega) (by omega)]
    exact (if_neg h).symm
set_option maxRecDepth 20000 in
theorem c_model2 (hd : 1 ≤ d) (hM : ∀ j, j ≠ 41 → M 164 j = 0) (h4 : M 164 41 = -1) (h5 : ∀ k, M 185 k = 0) (hQ : ∀ M' : aM, yG (0, fun _ _ => 0, 0, fun _ _ => 0, rS0 0 (fun _ => none)) M' → fB M M' → Q none EE M') : aw l K mX8_init d 0 0 209 [.ref 164, .null] [] EE M Q := by
  refine aw_aload_n (n := 210) dX8_init_209 rfl rfl ?_
  refine aw_iconst (n := 211) (v := -1) dX8_init_210 (by decide) rfl ?_
  refine aw_puti (n := 214) dX8_init_211 pX8_89 E_164 rfl rfl ?_
  refine aw_iconst (n := 215) (v := 0) dX8_init_214 (by decide) rfl ?_
  refine aw_istore_n (n := 216) (L' := [_, _]) dX8_init_215 (Nat.le_of_ble_eq_true rfl) rfl rfl ?_
  refine aw_iload_n (n := 217) dX8_init_216 rfl rfl ?_
  refine aw_iconst (n := 218) (v := 3) dX8_init_217 (by decide) rfl ?_
  refine aw_icmp_ge (tg := 234) (n := 221) dX8_init_218 (by decide) rfl (fun c_218 => by first | exact absurd rfl c_218 | exact absurd c_218 (by decide)) (fun _ => ?_)
  refine aw_aload_n (n := 222) dX8_init_221 rfl rfl ?_
  refine aw_getr (n := 225) dX8_init_222 fX8_80 E_164 rfl rfl ?_
  refine aw_iload_n (n := 226) dX8_init_225 rfl rfl ?_
  refine aw_iconst (n := 227) (v := -1) dX8_init_226 (by decide) rfl ?_
  refine aw_iast (n := 228) dX8_init_227 E_187 (by unfold vp_in; decide) rfl ?_
  refine aw_incp (n := 231) (L' := [_, _]) dX8_init_228 rfl rfl rfl ?_
  refine aw_goto (n := 216) dX8_init_231 (by decide) ?_
  refine aw_iload_n (n := 217) dX8_init_216 rfl rfl ?_
  refine aw_iconst (n := 218) (v := 3) dX8_init_217 (by decide) rfl ?_
  refine aw_icmp_ge (tg := 234) (n := 221) dX8_init_218 (by decide) rfl (fun c_218 => by first | exact absurd rfl c_218 | exact absurd c_218 (by decide)) (fun _ => ?_)
  refine aw_aload_n (n := 222) dX8_init_221 rfl rfl ?_
  refine aw_getr (n := 225) dX8_init_222 fX8_80 E_164 rfl rfl ?_
  refine aw_iload_n (n := 226) dX8_init_225 rfl rfl ?_
  refine aw_iconst (n := 227) (v := -1) dX8_init_226 (by decide) rfl ?_
  refine aw_iast (n := 228) dX8_init_227 E_187 (by unfold vp_in; decide) rfl ?_
  refine aw_incp (n := 231) (L' := [_, _]) dX8_init_228 rfl rfl rfl ?_
  refine aw_goto (n := 216) dX8_init_231 (by decide) ?_
  refine aw_iload_n (n := 217) dX8_init_216 rfl rfl ?_
  refine aw_iconst (n := 218) (v := 3) dX8_init_217 (by decide) rfl ?_
  refine aw_icmp_ge (tg := 234) (n := 221) dX8_init_218 (by decide) rfl (fun c_218 => by first | exact absurd rfl c_218 | exact absurd c_218 (by decide)) (fun _ => ?_)
  refine aw_aload_n (n := 222) dX8_init_221 rfl rfl ?_
  refine aw_getr (n := 225) dX8_init_222 fX8_80 E_164 rfl rfl ?_
  refine aw_iload_n (n := 226) dX8_init_225 rfl rfl ?_
  refine aw_iconst (n := 227) (v := -1) dX8_init_226 (by decide) rfl ?_
  refine aw_iast (n := 228) dX8_init_227 E_187 (by unfold vp_in; decide) rfl ?_
  refine aw_incp (n := 231) (L' := [_, _]) dX8_init_228 rfl rfl rfl ?_
  refine aw_goto (n := 216) dX8_init_231 (by decide) ?_
  refine aw_iload_n (n := 217) dX8_init_216 rfl rfl ?_
  refine aw_iconst (n := 218) (v := 3) dX8_init_217 (by decide) rfl ?_
  refine aw_icmp_ge (tg := 234) (n := 221) dX8_init_218 (by decide) rfl (fun _ => ?_) (fun c_218 => by first | exact absurd rfl c_218 | exact absurd c_218 (by decide))
  refine aw_vret dX8_init_234 rfl ?_
  refine hQ _ (yG_0 (fun j hj h7 => ?_) ?_ ?_ (fun k => ?_)) (fun q hq => ?_)
  · rw [up2_ra _ _ (by decide), up2_ra _ _ (by decide), up2_ra _ _ (by decide), up2_k _ _ h7]; exact hM j hj
  · rw [up2_ra _ _ (by decide), up2_ra _ _ (by decide), up2_ra _ _ (by decide), up2_s]
  · rw [up2_ra _ _ (by decide), up2_ra _ _ (by decide), up2_ra _ _ (by decide), up2_k _ _ (by decide)]; exact h4
  · rw [up2_ra _ _ (by decide), up2_ra _ _ (by decide), up2_ra _ _ (by decide), up2_ra _ _ (by decide)]; exact h5 k
  · rw [up2_ra _ _ (by omega), up2_ra _ _ (by omega), up2_ra _ _ (by omega), up2_ra _ _ (by omega)]
theorem eM_0 : EE.take 164 ++ .inl (6, [none, some (some 165), some (some 166), some (some 167), some (some 168), some (some 169), some (some 170), some (some 171), some (some 172), none, some (some 173), some (some 174), some (some 175), some (some 176), some (some 177), none, some (some 178), none, none, none, none, some (some 179), none, none, some (some 180), some (some 181), some (some 182), some (some 183), some (some 184), none, some (some 185), none, some (some 186), none, none, none, none, none, none, none, none, none, some (some 187), some (some 188), some (some 189)]) :: [.inr (.inl 60), .inr (.inl 60), .inr (.inl 60), .inr (.inl 60), .inr (.inl 60), .inr (.inl 3), .inr (.inl 3), .inr (.inl 48), .inr (.inl 61), .inr (.inl 61), .inr (.inl 183), .inr (.inl 183), .inr (.inl 183), .inr (.inl 1024), .inr (.inl 16), .inr (.inl 24), .inr (.inl 8), .inr (.inl 8), .inr (.inl 8), .inr (.inl 8), .inr (.inl 9), .inr (.inl 16), .inr (.inl 3), .inr (.inl 3), .inr (.inl 48)] = EE := by decide +kernel
theorem c_model {g : gS} (hd : 1 ≤ d) (hg : okG g) (hx : xG g M) (h0 : ∀ j, M 164 j = 0) (hQ : ∀ M' : aM, xG g M' → yG (0, fun _ _ => 0, 0, fun _ _ => 0, rS0 0 (fun _ => none)) M' → Q none EE M') : aw l K mX8_init d 25 2200 0 [.ref 164, .null] [] (EE.take 164 ++ [.inl (6, [none, some none, some none, some none, some none, some none, some none, some none, some none, none, some none, some none, some none, some none, some none, none, some none, none, none, none, none, some none, none, none, some none, some none, some none, some none, some none, none, some none, none, some none, none, none, none, none, none, none, none, none, none, some none, some none, some none])]) M Q := by
  refine c_model1 (by decide +kernel) hd (fun M1 f1 g1 h1 k1 => ?_)
  rw [eM_0]
  refine c_model2 hd (fun j hj => by rw [g1 j hj]; exact h0 j) h1 k1 (fun M2 y2 f2 => hQ M2 (xG_lo hg hx (fun q hq => by rw [f2 q hq, f1 q hq])) y2)
end CTOR3
