/-! the constructors of the class -/
theorem ap_a {A B : aE} {a : Nat} {x : aC} (hA : A.length = a) : (A ++ x :: B)[a]? = some x := by
  subst hA
  rw [List.getElem?_append_right (Nat.le_refl _), Nat.sub_self]
  rfl
theorem ap_set {A B : aE} {a : Nat} {x y : aC} (hA : A.length = a) : (A ++ x :: B).set a y = A ++ y :: B := by
  subst hA
  rw [List.set_append, if_neg (Nat.lt_irrefl _), Nat.sub_self]
  rfl
section CTOR
variable {l : Launch} {K : aK} {Y : aY} {d kc ks pc n : Nat} {L st : List Value} {E : aE} {M : aM} {Q : Option Value → aE → aM → Prop}
theorem aw_eq {L' st' : List Value} {E' : aE} {M' : aM} {kc' ks' : Nat} (h1 : kc = kc') (h2 : ks = ks') (h3 : L = L') (h4 : st = st') (h5 : E = E') (h6 : M = M') (k : aw l K Y d kc' ks' pc L' st' E' M' Q) : aw l K Y d kc ks pc L st E M Q := by
  subst h1 h2 h3 h4 h5 h6
  exact k
theorem aw_k {kc' ks' : Nat} (h1 : kc = kc') (h2 : ks = ks') (k : aw l K Y d kc' ks' pc L st E M Q) : aw l K Y d kc ks pc L st E M Q := aw_eq h1 h2 rfl rfl rfl rfl k
theorem aw_E {E' : aE} (h : E = E') (k : aw l K Y d kc ks pc L st E' M Q) : aw l K Y d kc ks pc L st E M Q := aw_eq rfl rfl rfl rfl h rfl k
theorem aw_stE {st' : List Value} {E' : aE} (h0 : st = st') (h : E = E') (k : aw l K Y d kc ks pc L st' E' M Q) : aw l K Y d kc ks pc L st E M Q := aw_eq rfl rfl rfl h0 h rfl k
theorem aw_c0 {Z : aY} {idx d1 kc1 kc2 ks1 ks2 b : Nat} {L0 rest : List Value} (hd : decode Y.2.1 pc = .ok (.invokespecial idx, 3)) (hok : aMd Z 0) (hlk : aLk Y.1.cls idx Z.1) (hnm : Z.1.name = "<init>") (hrn : Z.2.2.2 = none) (hinst : Cond.instanceMethod Z.1 ∈ aTB) (hle : 0 + 1 ≤ Z.2.2.1) (hL : .ref b :: [] ++ List.replicate (Z.2.2.1 - (0 + 1)) .null = L0) (hn : pc + 3 = n) (hd1 : d1 + 1 ≤ d) (hrest : (rest.map fun v => v.category).sum ≤ 8) (hkc : kc1 + kc2 = kc) (hks : ks1 + ks2 = ks)
    (kk : aw l K Z d1 kc1 ks1 0 L0 [] E M (fun v E' M' => aw l K Y d kc2 ks2 n L (aPush v rest) E' M' Q)) : aw l K Y d kc ks pc L (.ref b :: rest) E M Q := by
  subst hn hkc hks
  exact aw_ccall (As := []) hd hok hlk hnm hrn hinst rfl (fun v hv => absurd hv List.not_mem_nil) hle hL hd1 hrest kk
theorem aw_s1k {Z : aY} {idx d1 kc1 kc2 ks1 ks2 : Nat} {a0 : Value} {L0 rest : List Value} (hd : decode Y.2.1 pc = .ok (.invokestatic idx, 3)) (hok : aMd Z 1) (hlk : aLk Y.1.cls idx Z.1) (hstt : Cond.static Z.1 ∈ aTB) (h0 : a0.category = 1) (hle : 1 ≤ Z.2.2.1) (hL : [a0] ++ List.replicate (Z.2.2.1 - 1) .null = L0) (hn : pc + 3 = n) (hd1 : d1 + 1 ≤ d) (hrest : (rest.map fun v => v.category).sum ≤ 8) (hkc : kc1 + kc2 = kc) (hks : ks1 + ks2 = ks)
    (kk : aw l K Z d1 kc1 ks1 0 L0 [] E M (fun v E' M' => aw l K Y d kc2 ks2 n L (aPush v rest) E' M' Q)) : aw l K Y d kc ks pc L (a0 :: rest) E M Q := by
  subst hn hkc hks
  exact aw_scall (As := [a0]) hd hok hlk hstt rfl (fun v hv => by
    rw [List.mem_singleton.mp hv]; exact h0) hle hL hd1 hrest kk
theorem aw_narr {A B B' : aE} {a r ci k N idx : Nat} {F F' : List aF} {i : Int32} (hA : A.length = a) (hd1 : decode Y.2.1 pc = .ok (.newarray .int, 2)) (hd2 : decode Y.2.1 (pc + 2) = .ok (.putfield idx, 3)) (hf : aFp Y.1.cls idx ci k true (.array .int)) (hnm : Y.1.name = "<init>") (hi : ¬ i < 0) (hN : i.toNatClampNeg = N) (hby : N ≤ 100000000) (hsm : a + B.length + 2 < 1000000) (hk : k < F.length) (hr : a + 1 + B.length = r) (hF : F.set k (some (some r)) = F') (hB : B ++ [.inr (.inl N)] = B') (hn : pc + 5 = n) (kk : aw l K Y d kc ks n L st (A ++ .inl (ci, F') :: B') (aClr M r) Q) : aw l K Y d (kc + 1) (ks + N) pc L (.int i :: .ref a :: st) (A ++ .inl (ci, F) :: B) M Q := by
  subst hF hB hn
  have hl : (A ++ .inl (ci, F) :: B).length = r := by rw [List.length_append, List.length_cons, hA]; omega
  refine aw_newa (n := pc + 2) hd1 arrI hi hN hby (by rw [hl]; omega) rfl ?_
  rw [hl, List.append_assoc, List.cons_append]
  refine aw_putF (n := pc + 2 + 3) hd2 hf hnm (ap_a hA) hk (fun _ => rfl) (fun _ => rfl) rfl ?_
  rw [ap_set hA]
  exact kk
theorem c_value {A : aE} {a : Nat} (hA : A.length = a) (hd : 1 ≤ d) (hsm : a + 20 < 1000000) (hQ : ∀ M' : aM, (∀ q, q < a → M' q = M q) → Q none (A ++ [.inl (3, [none, none, none, some (some (a + 1))]), .inr (.inl 16)]) M') : aw l K mX5_init d 1 16 0 [.ref a] [] (A ++ [.inl (3, [none, none, none, some none])]) M Q := by
  refine aw_aload_n (n := 1) dX5_init_0 rfl rfl ?_
  refine aw_oinit (n := 4) dX5_init_1 gX5_3 iobjectInit k_objectInit (by omega) (Nat.le_of_ble_eq_true rfl) rfl ?_
  refine aw_aload_n (n := 5) dX5_init_4 rfl rfl ?_
  refine aw_iconst (n := 6) (v := -1) dX5_init_5 (by decide) rfl ?_
  refine aw_puti (n := 9) dX5_init_6 pX5_9 (ap_a hA) rfl rfl ?_
  refine aw_aload_n (n := 10) dX5_init_9 rfl rfl ?_
  refine aw_iconst (n := 11) (v := 0) dX5_init_10 (by decide) rfl ?_
  refine aw_puti (n := 14) dX5_init_11 pX5_15 (ap_a hA) rfl rfl ?_
  refine aw_aload_n (n := 15) dX5_init_14 rfl rfl ?_
  refine aw_iconst (n := 16) (v := 0) dX5_init_15 (by decide) rfl ?_
  refine aw_puti (n := 19) dX5_init_16 pX5_18 (ap_a hA) rfl rfl ?_
  refine aw_aload_n (n := 20) dX5_init_19 rfl rfl ?_
  refine aw_bipush (n := 22) (v := 16) dX5_init_20 (by decide) rfl ?_
  refine aw_narr (n := 27) (a := a) (r := a + 1) (N := 16) (k := 3) (F' := [none, none, none, some (some (a + 1))]) (B' := [.inr (.inl 16)]) hA dX5_init_22 dX5_init_24 pX5_21 rfl (by decide) (by decide) (by decide) (by show a + 0 + 2 < 1000000; omega) (by show 3 < 4; decide) rfl rfl rfl rfl ?_
  refine aw_vret dX5_init_27 rfl ?_
  exact hQ _ (fun q hq => by rw [aClr_n _ (by omega), up2_ra _ _ (by omega), up2_ra _ _ (by omega), up2_ra _ _ (by omega)])
theorem c_prop {A : aE} {a : Nat} (hA : A.length = a) (hd : 1 ≤ d) (hsm : a + 20 < 1000000) (hQ : ∀ M' : aM, (∀ q, q < a → M' q = M q) → Q none (A ++ [.inl (0, [some (some (a + 1)), none, none, none, none]), .inr (.inl 3)]) M') : aw l K mX1_init d 1 3 0 [.ref a] [] (A ++ [.inl (0, [some none, none, none, none, none])]) M Q := by
  refine aw_aload_n (n := 1) dX1_init_0 rfl rfl ?_
  refine aw_oinit (n := 4) dX1_init_1 gX1_3 iobjectInit k_objectInit (by omega) (Nat.le_of_ble_eq_true rfl) rfl ?_
  refine aw_aload_n (n := 5) dX1_init_4 rfl rfl ?_
  refine aw_iconst (n := 6) (v := 3) dX1_init_5 (by decide) rfl ?_
  refine aw_narr (n := 11) (a := a) (r := a + 1) (N := 3) (k := 0) (F' := [some (some (a + 1)), none, none, none, none]) (B' := [.inr (.inl 3)]) hA dX1_init_6 dX1_init_8 pX1_9 rfl (by decide) (by decide) (by decide) (by show a + 0 + 2 < 1000000; omega) (by show 0 < 5; decide) rfl rfl rfl rfl ?_
  refine aw_aload_n (n := 12) dX1_init_11 rfl rfl ?_
  refine aw_iconst (n := 13) (v := -1) dX1_init_12 (by decide) rfl ?_
  refine aw_puti (n := 16) dX1_init_13 pX1_15 (ap_a hA) rfl rfl ?_
  refine aw_aload_n (n := 17) dX1_init_16 rfl rfl ?_
  refine aw_iconst (n := 18) (v := 0) dX1_init_17 (by decide) rfl ?_
  refine aw_puti (n := 21) dX1_init_18 pX1_19 (ap_a hA) rfl rfl ?_
  refine aw_aload_n (n := 22) dX1_init_21 rfl rfl ?_
  refine aw_iconst (n := 23) (v := -1) dX1_init_22 (by decide) rfl ?_
  refine aw_puti (n := 26) dX1_init_23 pX1_22 (ap_a hA) rfl rfl ?_
  refine aw_aload_n (n := 27) dX1_init_26 rfl rfl ?_
  refine aw_iconst (n := 28) (v := 0) dX1_init_27 (by decide) rfl ?_
  refine aw_puti (n := 31) dX1_init_28 pX1_25 (ap_a hA) rfl rfl ?_
  refine aw_vret dX1_init_31 rfl ?_
  exact hQ _ (fun q hq => by rw [up2_ra _ _ (by omega), up2_ra _ _ (by omega), up2_ra _ _ (by omega), up2_ra _ _ (by omega), aClr_n _ (by omega)])
theorem c_tally {A : aE} {a : Nat} (hA : A.length = a) (hd : 1 ≤ d) (hsm : a + 20 < 1000000) (hQ : ∀ M' : aM, (∀ q, q < a → M' q = M q) → (∀ k, k < 8 → M' a (k + 1) = ta0 k) → (∀ k, M' (a + 1) k = 0) → Q none (A ++ [.inl (1, [some (some (a + 1)), none, none, none, none, none, none, none, none]), .inr (.inl 9)]) M') : aw l K mX3_init d 1 9 0 [.ref a] [] (A ++ [.inl (1, [some none, none, none, none, none, none, none, none, none])]) M Q := by
  refine aw_aload_n (n := 1) dX3_init_0 rfl rfl ?_
  refine aw_oinit (n := 4) dX3_init_1 gX3_3 iobjectInit k_objectInit (by omega) (Nat.le_of_ble_eq_true rfl) rfl ?_
  refine aw_aload_n (n := 5) dX3_init_4 rfl rfl ?_
  refine aw_bipush (n := 7) (v := 9) dX3_init_5 (by decide) rfl ?_
  refine aw_narr (n := 12) (a := a) (r := a + 1) (N := 9) (k := 0) (F' := [some (some (a + 1)), none, none, none, none, none, none, none, none]) (B' := [.inr (.inl 9)]) hA dX3_init_7 dX3_init_9 pX3_9 rfl (by decide) (by decide) (by decide) (by show a + 0 + 2 < 1000000; omega) (by show 0 < 9; decide) rfl rfl rfl rfl ?_
  refine aw_aload_n (n := 13) dX3_init_12 rfl rfl ?_
  refine aw_iconst (n := 14) (v := 0) dX3_init_13 (by decide) rfl ?_
  refine aw_puti (n := 17) dX3_init_14 pX3_15 (ap_a hA) rfl rfl ?_
  refine aw_aload_n (n := 18) dX3_init_17 rfl rfl ?_
  refine aw_iconst (n := 19) (v := 0) dX3_init_18 (by decide) rfl ?_
  refine aw_puti (n := 22) dX3_init_19 pX3_19 (ap_a hA) rfl rfl ?_
  refine aw_aload_n (n := 23) dX3_init_22 rfl rfl ?_
  refine aw_iconst (n := 24) (v := 0) dX3_init_23 (by decide) rfl ?_
  refine aw_puti (n := 27) dX3_init_24 pX3_22 (ap_a hA) rfl rfl ?_
  refine aw_aload_n (n := 28) dX3_init_27 rfl rfl ?_
  refine aw_iconst (n := 29) (v := 0) dX3_init_28 (by decide) rfl ?_
  refine aw_puti (n := 32) dX3_init_29 pX3_25 (ap_a hA) rfl rfl ?_
  refine aw_aload_n (n := 33) dX3_init_32 rfl rfl ?_
  refine aw_iconst (n := 34) (v := -1) dX3_init_33 (by decide) rfl ?_
  refine aw_puti (n := 37) dX3_init_34 pX3_28 (ap_a hA) rfl rfl ?_
  refine aw_aload_n (n := 38) dX3_init_37 rfl rfl ?_
  refine aw_iconst (n := 39) (v := 0) dX3_init_38 (by decide) rfl ?_
  refine aw_puti (n := 42) dX3_init_39 pX3_31 (ap_a hA) rfl rfl ?_
  refine aw_aload_n (n := 43) dX3_init_42 rfl rfl ?_
  refine aw_iconst (n := 44) (v := 0) dX3_init_43 (by decide) rfl ?_
  refine aw_puti (n := 47) dX3_init_44 pX3_34 (ap_a hA) rfl rfl ?_
  refine aw_aload_n (n := 48) dX3_init_47 rfl rfl ?_
  refine aw_iconst (n := 49) (v := 0) dX3_init_48 (by decide) rfl ?_
  refine aw_putz (n := 52) dX3_init_49 pX3_37 (ap_a hA) rfl (Or.inl rfl) rfl ?_
  refine aw_vret dX3_init_52 rfl ?_
  refine hQ _ (fun q hq => ?_) (fun k hk => ?_) (fun k => ?_)
  · rw [up2_ra _ _ (by omega), up2_ra _ _ (by omega), up2_ra _ _ (by omega), up2_ra _ _ (by omega), up2_ra _ _ (by omega), up2_ra _ _ (by omega), up2_ra _ _ (by omega), up2_ra _ _ (by omega), aClr_n _ (by omega)]
  · rcases (show k = 0 ∨ k = 1 ∨ k = 2 ∨ k = 3 ∨ k = 4 ∨ k = 5 ∨ k = 6 ∨ k = 7 by omega) with rfl | rfl | rfl | rfl | rfl | rfl | rfl | rfl <;> simp [up2, ta0]
  · rw [up2_ra _ _ (by omega), up2_ra _ _ (by omega), up2_ra _ _ (by omega), up2_ra _ _ (by omega), up2_ra _ _ (by omega), up2_ra _ _ (by omega), up2_ra _ _ (by omega), up2_ra _ _ (by omega), aClr_s]
theorem c_terms {A : aE} {a : Nat} (hA : A.length = a) (hd : 1 ≤ d) (hsm : a + 20 < 1000000) (hQ : ∀ M' : aM, (∀ q, q < a → M' q = M q) → M' a 5 = 0 → Q none (A ++ [.inl (2, [some (some (a + 1)), some (some (a + 2)), some (some (a + 3)), some (some (a + 4)), some (some (a + 5)), none]), .inr (.inl 60), .inr (.inl 60), .inr (.inl 60), .inr (.inl 60), .inr (.inl 60)]) M') : aw l K mX4_init d 5 300 0 [.ref a] [] (A ++ [.inl (2, [some none, some none, some none, some none, some none, none])]) M Q := by
  refine aw_aload_n (n := 1) dX4_init_0 rfl rfl ?_
  refine aw_oinit (n := 4) dX4_init_1 gX4_3 iobjectInit k_objectInit (by omega) (Nat.le_of_ble_eq_true rfl) rfl ?_
  refine aw_aload_n (n := 5) dX4_init_4 rfl rfl ?_
  refine aw_bipush (n := 7) (v := 60) dX4_init_5 (by decide) rfl ?_
  refine aw_narr (n := 12) (a := a) (r := a + 1) (N := 60) (k := 0) (F' := [some (some (a + 1)), some none, some none, some none, some none, none]) (B' := [.inr (.inl 60)]) hA dX4_init_7 dX4_init_9 pX4_9 rfl (by decide) (by decide) (by decide) (by show a + 0 + 2 < 1000000; omega) (by show 0 < 6; decide) rfl rfl rfl rfl ?_
  refine aw_aload_n (n := 13) dX4_init_12 rfl rfl ?_
  refine aw_bipush (n := 15) (v := 60) dX4_init_13 (by decide) rfl ?_
  refine aw_narr (n := 20) (a := a) (r := a + 2) (N := 60) (k := 1) (F' := [some (some (a + 1)), some (some (a + 2)), some none, some none, some none, none]) (B' := [.inr (.inl 60), .inr (.inl 60)]) hA dX4_init_15 dX4_init_17 pX4_15 rfl (by decide) (by decide) (by decide) (by show a + 1 + 2 < 1000000; omega) (by show 1 < 6; decide) rfl rfl rfl rfl ?_
  refine aw_aload_n (n := 21) dX4_init_20 rfl rfl ?_
  refine aw_bipush (n := 23) (v := 60) dX4_init_21 (by decide) rfl ?_
  refine aw_narr (n := 28) (a := a) (r := a + 3) (N := 60) (k := 2) (F' := [some (some (a + 1)), some (some (a + 2)), some (some (a + 3)), some none, some none, none]) (B' := [.inr (.inl 60), .inr (.inl 60), .inr (.inl 60)]) hA dX4_init_23 dX4_init_25 pX4_18 rfl (by decide) (by decide) (by decide) (by show a + 2 + 2 < 1000000; omega) (by show 2 < 6; decide) rfl rfl rfl rfl ?_
  refine aw_aload_n (n := 29) dX4_init_28 rfl rfl ?_
  refine aw_bipush (n := 31) (v := 60) dX4_init_29 (by decide) rfl ?_
  refine aw_narr (n := 36) (a := a) (r := a + 4) (N := 60) (k := 3) (F' := [some (some (a + 1)), some (some (a + 2)), some (some (a + 3)), some (some (a + 4)), some none, none]) (B' := [.inr (.inl 60), .inr (.inl 60), .inr (.inl 60), .inr (.inl 60)]) hA dX4_init_31 dX4_init_33 pX4_21 rfl (by decide) (by decide) (by decide) (by show a + 3 + 2 < 1000000; omega) (by show 3 < 6; decide) rfl rfl rfl rfl ?_
  refine aw_aload_n (n := 37) dX4_init_36 rfl rfl ?_
  refine aw_bipush (n := 39) (v := 60) dX4_init_37 (by decide) rfl ?_
  refine aw_narr (n := 44) (a := a) (r := a + 5) (N := 60) (k := 4) (F' := [some (some (a + 1)), some (some (a + 2)), some (some (a + 3)), some (some (a + 4)), some (some (a + 5)), none]) (B' := [.inr (.inl 60), .inr (.inl 60), .inr (.inl 60), .inr (.inl 60), .inr (.inl 60)]) hA dX4_init_39 dX4_init_41 pX4_24 rfl (by decide) (by decide) (by decide) (by show a + 4 + 2 < 1000000; omega) (by show 4 < 6; decide) rfl rfl rfl rfl ?_
  refine aw_aload_n (n := 45) dX4_init_44 rfl rfl ?_
  refine aw_iconst (n := 46) (v := 0) dX4_init_45 (by decide) rfl ?_
  refine aw_puti (n := 49) dX4_init_46 pX4_27 (ap_a hA) rfl rfl ?_
  refine aw_vret dX4_init_49 rfl ?_
  refine hQ _ (fun q hq => ?_) (up2_s _ _ _ _)
  rw [up2_ra _ _ (by omega), aClr_n _ (by omega), aClr_n _ (by omega), aClr_n _ (by omega), aClr_n _ (by omega), aClr_n _ (by omega)]
def vals (b : Nat) : Nat → aE
  | 0 => []
  | i + 1 => vals b i ++ [.inl (3, [none, none, none, some (some (b + 2 * i + 1))]), .inr (.inl 16)]
theorem vals_len (b i : Nat) : (vals b i).length = 2 * i := by
  induction i with
  | zero => rfl
  | succ i ih => show (vals b i ++ [_, _]).length = _; rw [List.length_append, ih]; rfl
def rfs (b n i : Nat) : List (Option Nat) := (List.range n).map (fun j => if j < i then some (b + 2 * j) else none)
theorem rfs_len (b n i : Nat) : (rfs b n i).length = n := by simp [rfs]
theorem rfs_at {b n i j : Nat} (h : j < n) : (rfs b n i)[j]? = some (if j < i then some (b + 2 * j) else none) := by simp [rfs, h]
theorem rfs_0 (b n : Nat) : rfs b n 0 = List.replicate n none := by
  apply List.ext_getElem?
  intro j
  by_cases h : j < n
  · rw [rfs_at h, List.getElem?_replicate, if_pos h]; rfl
  · rw [List.getElem?_eq_none_iff.mpr (by rw [rfs_len]; omega), List.getElem?_eq_none_iff.mpr (by rw [List.length_replicate]; omega)]
theorem rfs_set {b n i : Nat} (h : i < n) : (rfs b n i).set i (some (b + 2 * i)) = rfs b n (i + 1) := by
  apply List.ext_getElem?
  intro j
  rw [List.getElem?_set, rfs_len]
  by_cases hj : j < n
  · rw [rfs_at hj, rfs_at hj]
    by_cases hij : i = j
    · subst hij; rw [if_pos rfl, if_pos h, if_pos (by omega)]
    · rw [if_neg hij]
      by_cases h2 : j < i
      · rw [if_pos h2, if_pos (by omega)]
      · rw [if_neg h2, if_neg (by omega)]
  · rw [if_neg (by omega), List.getElem?_eq_none_iff.mpr (by rw [rfs_len]; omega), List.getElem?_eq_none_iff.mpr (by rw [rfs_len]; omega)]
theorem nv_len {A : aE} {a : Nat} {x : aC} (hA : A.length = a) (i : Nat) : (A ++ x :: vals (a + 1) i).length = a + 1 + 2 * i := by
  rw [List.length_append, List.length_cons, vals_len, hA]; omega
theorem nv_step {A : aE} {a n i t : Nat} (hA : A.length = a) (hi : i < n) : (((A ++ .inr (.inr (t, rfs (a + 1) n i)) :: vals (a + 1) i) ++ [.inl (3, [none, none, none, some (some (a + 1 + 2 * i + 1))]), .inr (.inl 16)] : aE)).set a (.inr (.inr (t, (rfs (a + 1) n i).set i (some (a + 1 + 2 * i))))) = A ++ .inr (.inr (t, rfs (a + 1) n (i + 1))) :: vals (a + 1) (i + 1) := by
  rw [List.append_assoc, List.cons_append, ap_set hA, rfs_set hi]
  rfl
theorem c_nvL {A : aE} {a n : Nat} {M0 : aM} (hA : A.length = a) (hd : 2 ≤ d) (hn : n ≤ 100) (hsm : a + 500 < 1000000) (hQ : ∀ M' : aM, (∀ q, q < a → M' q = M0 q) → Q (some (.ref a)) (A ++ .inr (.inr (0, rfs (a + 1) n n)) :: vals (a + 1) n) M') : ∀ (m i : Nat) (M : aM), i + m = n → (∀ q, q < a → M q = M0 q) → aw l K mX7_newValues d (2 * m) (20 * m) 7 [.int (nI n), .ref a, .int (nI i)] [] (A ++ .inr (.inr (0, rfs (a + 1) n i)) :: vals (a + 1) i) M Q := by
  intro m
  induction m with
  | zero =>
    intro i M hi hf
    obtain rfl : i = n := by omega
    refine aw_k (kc' := 0) (ks' := 0) rfl rfl ?_
    refine aw_iload_n (n := 8) dX7_newValues_7 rfl rfl ?_
    refine aw_iload_n (n := 9) dX7_newValues_8 rfl rfl ?_
    refine aw_icmp_ge (tg := 28) (n := 12) dX7_newValues_9 (by decide) rfl (fun c_9 => ?_) (fun c_9 => by exact absurd (nI_le (by omega) (by omega)) c_9)
    refine aw_aload_n (n := 29) dX7_newValues_28 rfl rfl ?_
    refine aw_aret dX7_newValues_29 rfl ?_
    exact hQ M hf
  | succ m ih =>
    intro i M hi hf
    have hin : vp_in (nI i) (rfs (a + 1) n i).length := by rw [rfs_len]; exact vp_in_nI (by omega) (by omega)
    refine aw_k (kc' := 2 * m + 1 + 1) (ks' := 20 * m + 16 + 4) (by omega) (by omega) ?_
    refine aw_iload_n (n := 8) dX7_newValues_7 rfl rfl ?_
    refine aw_iload_n (n := 9) dX7_newValues_8 rfl rfl ?_
    refine aw_icmp_ge (tg := 28) (n := 12) dX7_newValues_9 (by decide) rfl (fun c_9 => by exact absurd ((nI_leI (by omega) (by omega)).mp c_9) (by omega)) (fun c_9 => ?_)
    refine aw_aload_n (n := 13) dX7_newValues_12 rfl rfl ?_
    refine aw_iload_n (n := 14) dX7_newValues_13 rfl rfl ?_
    refine aw_new (n := 17) (N := 4) dX7_newValues_14 wX7_35 (by rw [nv_len hA]; omega) rfl ?_
    rw [nv_len hA]
    refine aw_dup (n := 18) dX7_newValues_17 rfl rfl ?_
    refine aw_c0 (d1 := d - 1) (n := 21) (Z := mX5_init) (L0 := [_]) (kc1 := 1) (kc2 := (2*m)) (ks1 := 16) (ks2 := (20*m)) dX7_newValues_18 kX5_init gX7_37 rfl rfl iyX5_init (Nat.le_of_ble_eq_true rfl) rfl rfl (by omega) (Nat.le_of_ble_eq_true rfl) (by omega) (by omega) (c_value (nv_len hA i) (by omega) (by omega) (fun M1 hf1 => ?_))
    dsimp only [aPush]
    refine aw_aast (n := 22) dX7_newValues_21 (by rw [List.append_assoc]; exact ap_a hA) (by decide) hin (ap_a (nv_len hA i)) rfl rfl rfl ?_
    rw [nI_clamp (by omega), nv_step hA (by omega)]
    refine aw_incp (n := 25) (L' := [_, _, _]) dX7_newValues_22 rfl rfl rfl ?_
    refine aw_goto (n := 7) dX7_newValues_25 (by decide) ?_
    rw [nI_1]; exact ih (i + 1) M1 (by omega) (fun q hq => by rw [hf1 q (by omega), aClr_n _ (by omega)]; exact hf q hq)
theorem c_newV {A : aE} {a n : Nat} (hA : A.length = a) (hd : 2 ≤ d) (hn : n ≤ 100) (hsm : a + 500 < 1000000) (hQ : ∀ M' : aM, (∀ q, q < a → M' q = M q) → Q (some (.ref a)) (A ++ .inr (.inr (0, rfs (a + 1) n n)) :: vals (a + 1) n) M') : aw l K mX7_newValues d (1 + 2 * n) (n + 20 * n) 0 [.int (nI n), .null, .null] [] A M Q := by
  refine aw_k (kc' := 2 * n + 1) (ks' := 20 * n + n) (by omega) (by omega) ?_
  refine aw_iload_n (n := 1) dX7_newValues_0 rfl rfl ?_
  refine aw_anew (n := 4) (t := 0) (N := n) dX7_newValues_1 (by decide) lX7_35 (nI_pos (by omega)) (nI_clamp (by omega)) (by omega) (by rw [hA]; omega) rfl ?_
  rw [← rfs_0 (a + 1), hA]
  refine aw_astore_n (n := 5) (L' := [_, _, _]) dX7_newValues_4 (Nat.le_of_ble_eq_true rfl) rfl rfl ?_
  refine aw_iconst (n := 6) (v := 0) dX7_newValues_5 (by decide) rfl ?_
  refine aw_istore_n (n := 7) (L' := [_, _, _]) dX7_newValues_6 (Nat.le_of_ble_eq_true rfl) rfl rfl ?_
  exact c_nvL hA hd hn hsm hQ n 0 (aClr M a) (by omega) (fun q hq => aClr_n _ (by omega))
end CTOR
