theorem aAd_t (K : aK) (t : Nat) : aAd K (1000000 + t) = K.2.2.2 t := by
  unfold aAd
  rw [if_neg (Nat.not_lt.mpr (Nat.le_add_right _ _)), Nat.add_sub_cancel_left]
section AW2
variable {l : Launch} {K : aK} {Y : aY} {d kc ks pc n : Nat} {L st : List Value} {E : aE} {M : aM} {Q : Option Value → aE → aM → Prop}
theorem aw_iald {a N : Nat} {i : Int32} (hd : decode Y.2.1 pc = .ok (.iaload, 1)) (hE : E[a]? = some (.inr (.inl N))) (hi : vp_in i N) (hn : pc + 1 = n) (kk : aw l K Y d kc ks n L (.int (M a i.toNatClampNeg) :: st) E M Q) : aw l K Y d kc ks pc L (.int i :: .ref a :: st) E M Q := by
  subst hn
  intro p e R s m args below meth c H locs cells slots mc ms ls C hH hS h1 h2 h3 hl
  show W p l e R s m args below meth c H locs cells slots _ (F0 m pc ls (.int i :: .ref (aAd K a) :: st.map (aRv K)))
  rw [aAd_of hE hH]
  exact va_iald C.1 C.2.1 C.2.2.2.2.2.2.2.2.1.1 hH.1 a 0 (aWd_get hE) rfl hi hd (kk p e R s m args below meth c H locs cells slots mc ms ls C hH hS h1 h2 h3 hl)
theorem aw_iast {a N : Nat} {i x : Int32} (hd : decode Y.2.1 pc = .ok (.iastore, 1)) (hE : E[a]? = some (.inr (.inl N))) (hi : vp_in i N) (hn : pc + 1 = n) (kk : aw l K Y d kc ks n L st E (up2 M a i.toNatClampNeg x) Q) : aw l K Y d kc ks pc L (.int x :: .int i :: .ref a :: st) E M Q := by
  subst hn
  intro p e R s m args below meth c H locs cells slots mc ms ls C hH hS h1 h2 h3 hl
  show W p l e R s m args below meth c H locs cells slots _ (F0 m pc ls (.int x :: .int i :: .ref (aAd K a) :: st.map (aRv K)))
  rw [aAd_of hE hH]
  have hset : (aWd K E M).set a (K.2.2.1 + a, .inl (K.2.1 0, N, .inl (upd (M a) i.toNatClampNeg x))) = aWd K E (up2 M a i.toNatClampNeg x) :=
    aWd_set hE (by
      have h : upd (M a) i.toNatClampNeg x = up2 M a i.toNatClampNeg x a := by
        funext j
        unfold upd up2
        by_cases hj : j = i.toNatClampNeg
        · rw [if_pos hj, if_pos ⟨rfl, hj⟩]
        · rw [if_neg hj, if_neg (fun q => hj q.2)]
      rw [h]; rfl) (fun b hb => up2_ra M x hb)
  refine va_iast C.1 C.2.1 C.2.2.2.2.2.2.2.2.1.1 hH.1 (aWd_D K E M) hS a 0 (aWd_get hE) rfl hi hd (fun H1 locs1 hP1 hD1 hS1 => ?_)
  exact kk p e R s m args below meth c H1 locs1 cells slots mc ms ls C ⟨hset ▸ hP1, hH.2⟩ hS1 h1 h2 h3 hl
theorem aw_aald {a t r : Nat} {rs : List (Option Nat)} {i : Int32} (hd : decode Y.2.1 pc = .ok (.aaload, 1)) (hE : E[a]? = some (.inr (.inr (t, rs)))) (ht : t < 2) (hi : vp_in i rs.length) (hr : rs[i.toNatClampNeg]? = some (some r)) (hn : pc + 1 = n) (kk : aw l K Y d kc ks n L (.ref r :: st) E M Q) : aw l K Y d kc ks pc L (.int i :: .ref a :: st) E M Q := by
  subst hn
  intro p e R s m args below meth c H locs cells slots mc ms ls C hH hS h1 h2 h3 hl
  show W p l e R s m args below meth c H locs cells slots _ (F0 m pc ls (.int i :: .ref (aAd K a) :: st.map (aRv K)))
  rw [aAd_of hE hH]
  have hw := aWd_get (K := K) (M := M) hE
  have hkk := kk p e R s m args below meth c H locs cells slots mc ms ls C hH hS h1 h2 h3 hl
  have e0 : (Value.ref r :: st).map (aRv K) = va_rf (((rs[i.toNatClampNeg]?).getD none).map (aAd K)) :: st.map (aRv K) := by rw [hr]; rfl
  rw [e0] at hkk
  rcases (show t = 0 ∨ t = 1 by omega) with rfl | rfl
  · exact va_aldq (C := RX5) C.1 C.2.1 C.2.2.2.2.2.2.2.2.1.1 hH.1 a 1 hw rfl hi hd hkk
  · exact va_aldq (C := RX1) C.1 C.2.1 C.2.2.2.2.2.2.2.2.1.1 hH.1 a 2 hw rfl hi hd hkk
theorem aw_tld {t : Nat} {i : Int32} (hd : decode Y.2.1 pc = .ok (.iaload, 1)) (ht : t < 4) (hi : vp_in i 21) (hn : pc + 1 = n) (kk : aw l K Y d kc ks n L (.int (aTab t i.toNatClampNeg) :: st) E M Q) : aw l K Y d kc ks pc L (.int i :: .ref (1000000 + t) :: st) E M Q := by
  subst hn
  intro p e R s m args below meth c H locs cells slots mc ms ls C hH hS h1 h2 h3 hl
  show W p l e R s m args below meth c H locs cells slots _ (F0 m pc ls (.int i :: .ref (aAd K (1000000 + t)) :: st.map (aRv K)))
  rw [aAd_t]
  exact va_ti C.1 C.2.1 (C.2.2.2.2.2.2.2.2.1.2.2.2.2.1 t ht).2 hS hi rfl hd (kk p e R s m args below meth c H locs cells slots mc ms ls C hH hS h1 h2 h3 hl)
theorem aw_sld {i : Int32} (hd : decode Y.2.1 pc = .ok (.iaload, 1)) (hi : vp_in i (K.2.2.2 5)) (hn : pc + 1 = n) (kk : aw l K Y d kc ks n L (.int (nI (K.2.2.2 (6 + i.toNatClampNeg))) :: st) E M Q) : aw l K Y d kc ks pc L (.int i :: .ref 1000004 :: st) E M Q := by
  subst hn
  intro p e R s m args below meth c H locs cells slots mc ms ls C hH hS h1 h2 h3 hl
  show W p l e R s m args below meth c H locs cells slots _ (F0 m pc ls (.int i :: .ref (aAd K (1000000 + 4)) :: st.map (aRv K)))
  rw [aAd_t]
  have hX := C.2.2.2.2.2.2.2.2.1.2.2.2.2.2.1
  exact va_sld C.1 C.2.1 hX (va_X_lt hX) (fun q => Nat.not_le.mpr C.2.2.2.2.2.2.2.2.1.2.2.2.2.2.2 q) hS hi hd (kk p e R s m args below meth c H locs cells slots mc ms ls C hH hS h1 h2 h3 hl)
theorem aw_slen (hd : decode Y.2.1 pc = .ok (.arraylength, 1)) (hn : pc + 1 = n) (kk : aw l K Y d kc ks n L (.int (nI (K.2.2.2 5)) :: st) E M Q) : aw l K Y d kc ks pc L (.ref 1000004 :: st) E M Q := by
  subst hn
  intro p e R s m args below meth c H locs cells slots mc ms ls C hH hS h1 h2 h3 hl
  show W p l e R s m args below meth c H locs cells slots _ (F0 m pc ls (.ref (aAd K (1000000 + 4)) :: st.map (aRv K)))
  rw [aAd_t]
  have hX := C.2.2.2.2.2.2.2.2.1.2.2.2.2.2.1
  exact va_slen C.1 C.2.1 hX (va_X_lt hX) (fun q => Nat.not_le.mpr C.2.2.2.2.2.2.2.2.1.2.2.2.2.2.2 q) hS hd (kk p e R s m args below meth c H locs cells slots mc ms ls C hH hS h1 h2 h3 hl)
theorem aw_gets {idx t : Nat} (hd : decode Y.2.1 pc = .ok (.getstatic idx, 3)) (ht : t < 4) (hlink : Cond.fieldLink Y.1.cls idx (aSn t).1 (aSn t).2 "[I" ∈ aTB ∨ ∃ host, Cond.fieldLinkNest Y.1.cls idx (aSn t).1 (aSn t).2 "[I" host ∈ aNT) (hn : pc + 3 = n) (kk : aw l K Y d kc ks n L (.ref (1000000 + t) :: st) E M Q) : aw l K Y d kc ks pc L st E M Q := by
  subst hn
  intro p e R s m args below meth c H locs cells slots mc ms ls C hH hS h1 h2 h3 hl
  have hkk := kk p e R s m args below meth c H locs cells slots mc ms ls C hH hS h1 h2 h3 hl
  have e1 : (Value.ref (1000000 + t) :: st).map (aRv K) = .ref (K.2.2.2 t) :: st.map (aRv K) := by
    show Value.ref (aAd K (1000000 + t)) :: _ = _
    rw [aAd_t]
  rw [e1] at hkk
  rcases hlink with hlink | ⟨host, hlink⟩
  · exact va_gets C.1 C.2.1 (C.2.2.2.2.2.2.2.2.1.2.2.2.2.1 t ht).1 hS C.2.2.2.2.2.2.1 (C.2.2.2.2.2.2.2.1 _ hlink) (fun _ h => h) hd hkk
  · exact va_getsN C.1 C.2.1 (C.2.2.2.2.2.2.2.2.1.2.2.2.2.1 t ht).1 hS C.2.2.2.2.2.2.1 (va_Nw.use rfl (C.2.2.2.2.2.2.2.2.1.2.1 _ hlink)) (fun _ h => h) hd hkk
def aCpy (M : aM) (a b sp dp k : Nat) : aM := fun q j => if q = b ∧ dp ≤ j ∧ j < dp + k then M a (sp + (j - dp)) else M q j
theorem aw_copy {idx a b Na Nb : Nat} {sp dp k : Int32} (hd : decode Y.2.1 pc = .ok (.invokestatic idx, 3)) (hlink : Cond.methodLink Y.1.cls idx arraycopyName ∈ aTB) (hnat : Cond.native arraycopyName ∈ aTB) (hstat : Cond.static arraycopyName ∈ aTB) (hini : Cond.initialized "java/lang/System" ∈ aTB) (hEa : E[a]? = some (.inr (.inl Na))) (hEb : E[b]? = some (.inr (.inl Nb)))
    (g1 : ¬ sp < 0) (g2 : ¬ dp < 0) (g3 : ¬ k < 0) (g4 : sp.toNatClampNeg + k.toNatClampNeg ≤ Na) (g5 : dp.toNatClampNeg + k.toNatClampNeg ≤ Nb) (hst : (st.map fun v => v.category).sum ≤ 8) (hdd : 1 ≤ d) (hn : pc + 3 = n) (kk : aw l K Y d kc ks n L st E (aCpy M a b sp.toNatClampNeg dp.toNatClampNeg k.toNatClampNeg) Q) : aw l K Y d kc ks pc L (.int k :: .int dp :: .ref b :: .int sp :: .ref a :: st) E M Q := by
  subst hn
  intro p e R s m args below meth c H locs cells slots mc ms ls C hH hS h1 h2 h3 hl
  show W p l e R s m args below meth c H locs cells slots _ (F0 m pc ls (.int k :: .int dp :: .ref (aAd K b) :: .int sp :: .ref (aAd K a) :: st.map (aRv K)))
  rw [aAd_of hEa hH, aAd_of hEb hH]
  have hset : (aWd K E M).set b (K.2.2.1 + b, .inl (K.2.1 0, Nb, .inl (va_cpy (M a) (M b) sp.toNatClampNeg dp.toNatClampNeg k.toNatClampNeg))) = aWd K E (aCpy M a b sp.toNatClampNeg dp.toNatClampNeg k.toNatClampNeg) :=
    aWd_set hEb (by
      have h : va_cpy (M a) (M b) sp.toNatClampNeg dp.toNatClampNeg k.toNatClampNeg = aCpy M a b sp.toNatClampNeg dp.toNatClampNeg k.toNatClampNeg b := by
        funext j
        unfold va_cpy aCpy
        by_cases hj : dp.toNatClampNeg ≤ j ∧ j < dp.toNatClampNeg + k.toNatClampNeg
        · rw [if_pos hj, if_pos ⟨rfl, hj⟩]
        · rw [if_neg hj, if_neg (fun q => hj q.2)]
      rw [h]; rfl) (fun q hq => by
        funext j
        unfold aCpy
        rw [if_neg (fun z => hq z.1)])
  have hcat : ((st.map (aRv K)).map fun v => v.category) = st.map fun v => v.category := by
    rw [List.map_map]
    exact List.map_congr_left fun v _ => aRv_cat K v
  have hR : 60 * d ≤ R.locals := C.2.2.2.2.2.2.2.2.2.2.1
  refine va_copyi (ty := .int) C.1 C.2.1 (C.2.2.1.trans hl.1.symm) C.2.2.2.2.2.2.1 (C.2.2.2.2.2.2.2.1 _ hlink) (C.2.2.2.2.2.2.2.1 _ hnat) (C.2.2.2.2.2.2.2.1 _ hstat) (C.2.2.2.2.2.2.2.1 _ hini) C.2.2.2.2.2.2.2.2.1.1 hH.1 (aWd_D K E M) hS a b 0 0 (aWd_get hEa) (aWd_get hEb) rfl rfl rfl g1 g2 g3 g4 g5 (fun _ _ => rfl) (Nat.le_trans hdd C.2.2.2.2.2.2.2.2.2.1) ?_ hd (fun H1 locs1 hP1 hD1 hS1 => ?_)
  · rw [hcat]
    have h9 : nativeFrameWords "java/lang/System" "arraycopy" 5 + 11 ≤ 52 := by decide
    omega
  · exact kk p e R s m args below meth c H1 locs1 cells slots mc ms ls C ⟨hset ▸ hP1, hH.2⟩ hS1 h1 h2 h3 hl
/-! calls -/
def aMd (Z : aY) (np : Nat) : Prop := Cond.code Z.1 Z.2.1 Z.2.2.1 Z.2.2.2 ∈ aTB ∧ Cond.initialized Z.1.cls ∈ aTB ∧ plainFor Z.1 = true ∧ (Z.1.cls ≠ "java/lang/invoke/MethodHandle" ∧ Z.1.cls ≠ "java/lang/invoke/VarHandle" ∧ (parseMethodDescriptor Z.1.desc).map (fun d => d.parameters.length) = some np) ∧ Z.2.2.1 ≤ 41
def aLk (own : String) (idx : Nat) (y : MethodName) : Prop := Cond.methodLink own idx y ∈ aTB ∨ ∃ host, Cond.methodLinkNest own idx y host ∈ aNT
def aPush : Option Value → List Value → List Value
  | none, st => st
  | some v, st => v :: st
def aRm (d mc ms : Nat) : Room := { frames := d, cells := mc, slots := ms, locals := 60 * d }
def aPc (K : aK) (E : aE) (M : aM) (As : List Value) : Array Value → State → Prop := va_Pc (As.map (aRv K)) (fun U => aV K U ∧ aH K E M U.heap ∧ U.heap.size = K.2.2.1 + E.length)
theorem lg_sl_1 {vs : List Value} (h : ∀ v ∈ vs, v.category = 1) : (lg_sl vs).length = vs.length := by
  induction vs with
  | nil => rfl
  | cons v vs ih =>
    have h1 : v.category = 1 := h v List.mem_cons_self
    have h2 := ih (fun w hw => h w (List.mem_cons_of_mem _ hw))
    unfold lg_sl at h2 ⊢
    rw [List.flatMap_cons, List.length_append, h2, if_neg (by rw [h1]; decide)]
    simp [Nat.add_comm]
theorem lv_args_1 {vs : List Value} (h : ∀ v ∈ vs, v.category = 1) : ∀ (i j : Nat) (v : Value), vs[j]? = some v → (i + j, v) ∈ lv_args i vs := by
  induction vs with
  | nil => intro i j v hj; simp at hj
  | cons w vs ih =>
    intro i j v hj
    have h1 : w.category = 1 := h w List.mem_cons_self
    unfold lv_args
    rw [if_neg (by rw [h1]; decide)]
    cases j with
    | zero => cases hj; exact List.mem_cons_self
    | succ j =>
      have h2 := ih (fun w hw => h w (List.mem_cons_of_mem _ hw)) (i + 1) j v hj
      rw [show i + (j + 1) = i + 1 + j by omega]
      exact List.mem_cons_of_mem _ h2
theorem aMet_ofW {l : Launch} {y : MethodName} {ws ws' : List Cond} {rm : Room} {Pc : Array Value → State → Prop} {Qc : Array Value → State → Outcome → State → Prop} {mc ms : Nat} {free : Addr → Prop} {cc : ByteArray} {maxL : Nat} {ret : Option FieldType}
    (hy : plainFor y = true) (hw : ws = Cond.code y cc maxL ret :: ws')
    (body : ∀ p e s m args below meth c s₁, BodyLoose p l y (headSpec ws rm) cc maxL ret e s m args below meth c s₁ → c.maxLocals = maxL → Pc args s →
      W p l e (headSpec ws rm).room s m args below meth c s.heap [] 0 0 (MQ below Qc args s mc ms free) (entryFrame m args maxL)) : Met l y ws rm Pc Qc mc ms free := by
  refine MetFree.of_bodySF (code := cc) (maxLocals := maxL) (ret := ret) hy ?_ ?_
  · intro args s m h hn
    obtain ⟨meth, c, g1, g2, g3, g4, g5, g6, -, -⟩ := Cond.code_spec hn (atoms_spec (ws := ws) h _ (by rw [hw]; exact List.mem_cons_self))
    exact ⟨meth, c, g1, g2, g3, g4, g5, g6⟩
  · intro p e s m args below meth c s₁ B hml hP _
    have hh0 : s₁.heap = s.heap := by rw [B.state]; rfl
    obtain ⟨t, a1, o, b1, b2, b3⟩ := body p e s m args below meth c s₁ B hml hP s₁ hh0 (Stand.of_body B)
    exact ⟨t, o, a1, b1, b2, ⟨b3.1, b3.2⟩⟩
theorem aw_met {Z : aY} {np mc ms : Nat} {As L0 : List Value} (hok : aMd Z np) (hc : ∀ v ∈ As, v.category = 1) (hle : As.length ≤ Z.2.2.1) (hL : As ++ List.replicate (Z.2.2.1 - As.length) .null = L0) (h : aw l K Z d mc ms 0 L0 [] E M Q) : Met l Z.1 (Cond.code Z.1 Z.2.1 Z.2.2.1 Z.2.2.2 :: aTB) (aRm d mc ms) (aPc K E M As) (aQ K Q mc) mc ms (aA K) := by
  refine aMet_ofW (cc := Z.2.1) (maxL := Z.2.2.1) (ret := Z.2.2.2) hok.2.2.1 rfl ?_
  intro p e s m args below meth c s₁ B hml hv
  obtain ⟨rfl, hV, hH, hsz⟩ := hv
  have hts := atoms_spec (ws := Cond.code Z.1 Z.2.1 Z.2.2.1 Z.2.2.2 :: aTB) B.pre
  have hc' : ∀ v ∈ As.map (aRv K), v.category = 1 := by
    intro v hv
    obtain ⟨w, hw, rfl⟩ := List.mem_map.mp hv
    rw [aRv_cat]
    exact hc w hw
  have hlen : (lg_sl (As.map (aRv K))).length = As.length := by rw [lg_sl_1 hc', List.length_map]
  have hl := lv_entry (As.map (aRv K)) (n := Z.2.2.1) (by rw [hlen]; exact hle)
  rw [lg_entry_eq]
  generalize (lg_sl (As.map (aRv K)) ++ List.replicate (Z.2.2.1 - (lg_sl (As.map (aRv K))).length) Slot.unset).toArray = ls at hl ⊢
  subst hL
  refine h p e (headSpec (Cond.code Z.1 Z.2.1 Z.2.2.1 Z.2.2.2 :: aTB) (aRm d mc ms)).room s m _ below meth c s.heap [] 0 0 mc ms ls ⟨B.exec, B.bytes, hml, B.returns, B.notSynchronized, (name_of_methodNamed B.named B.method).1, findClass_of_methodNamed B.named, fun w hw => hts w (List.mem_cons_of_mem _ hw), hV, Nat.le_refl _, Nat.le_refl _, Nat.le_refl _, Nat.le_refl _, by rw [hsz]; exact Nat.le_add_right _ _⟩ hH va_S.rf (Nat.zero_add _) (by rw [Nat.zero_add]; exact Nat.le_refl _) (by rw [Nat.add_zero]; exact hsz) ?_
  refine ⟨hl.1, ?_, ⟨hl.2.1, fun w hw => ?_⟩, fun i v hi hv => ?_⟩
  · rw [List.length_append, List.length_replicate]; omega
  · rcases List.mem_append.mp hw with hw | hw
    · exact hc w hw
    · rw [(List.mem_replicate.mp hw).2]; rfl
  · by_cases hi2 : i < As.length
    · rw [List.getElem?_append_left hi2] at hi
      have h5 := lv_args_1 hc' 0 i (aRv K v) (by rw [List.getElem?_map, hi]; rfl)
      rw [Nat.zero_add] at h5
      exact hl.2.2 _ h5
    · rw [List.getElem?_append_right (by omega)] at hi
      exact absurd (List.mem_replicate.mp (List.mem_of_getElem? hi)).2 hv
theorem aH_size {p : Program} {e : Env} {R : Room} {s : State} {m : MethodId} {args : Array Value} {below : List Frame} {meth : Method} {c : Code} {H : Heap} {locs : List Loc} {cells slots : Nat} {Q0 : State → Prop} {g : JFrame} (hb : K.2.2.1 ≤ s.heap.size) (hH : aH K E M H) (hS : va_S (aA K) s.heap H locs) (h3 : s.heap.size + cells = K.2.2.1 + E.length)
    (k : H.size = K.2.2.1 + E.length → W p l e R s m args below meth c H locs cells slots Q0 g) : W p l e R s m args below meth c H locs cells slots Q0 g := by
  intro T hT X
  refine k (Nat.le_antisymm ?_ ?_) T hT X
  · rw [← h3, ← hT]; exact X.heapSize
  · cases hE : E.length with
    | zero => rw [Nat.add_zero]; exact Nat.le_trans hb hS.1
    | succ j =>
      have hj : j < E.length := by omega
      have h1 := (hH.1 j _ (aWd_get (List.getElem?_eq_getElem hj))).lt
      exact h1
end AW2
