def aClr (M : aM) (a : Nat) : aM := fun b j => if b = a then 0 else M b j
theorem aClr_s (M : aM) (a : Nat) : aClr M a a = fun _ => 0 := by funext j; unfold aClr; rw [if_pos rfl]
theorem aClr_n (M : aM) {a b : Nat} (h : b ≠ a) : aClr M a b = M b := by funext j; unfold aClr; rw [if_neg h]
theorem aX_eq {K : aK} {M M' : aM} {a : Nat} (c : aC) (h : M a = M' a) : aX K M a c = aX K M' a c := by
  rcases c with ⟨c, fs⟩ | n | ⟨t, rs⟩
  · unfold aX; simp only [h]
  · unfold aX; simp only [h]
  · rfl
theorem aWd_push {K : aK} {E : aE} {M : aM} {c : aC} {e : va_E} (he : e = aX K (aClr M E.length) E.length c) : aWd K E M ++ [(K.2.2.1 + E.length, e)] = aWd K (E ++ [c]) (aClr M E.length) := by
  apply aWd_ext
  · rw [List.length_append, aWd_len, List.length_append]; rfl
  · intro k c' hk
    by_cases h : k < E.length
    · rw [List.getElem?_append_left h] at hk
      rw [List.getElem?_append_left (by rw [aWd_len]; exact h), aWd_get hk, aX_eq c' (aClr_n M (Nat.ne_of_lt h)).symm]
    · have h1 : k < (E ++ [c]).length := (List.getElem?_eq_some_iff.mp hk).1
      rw [List.length_append] at h1
      have h2 : k = E.length := by simp at h1; omega
      subst h2
      rw [List.getElem?_append_right (Nat.le_refl _), Nat.sub_self] at hk
      cases hk
      rw [List.getElem?_append_right (by rw [aWd_len]; exact Nat.le_refl _), aWd_len, Nat.sub_self, he]
      rfl
theorem aWd_setE {K : aK} {E : aE} {M : aM} {a : Nat} {c c' : aC} {e : va_E} (hE : E[a]? = some c) (he : e = aX K M a c') : (aWd K E M).set a (K.2.2.1 + a, e) = aWd K (E.set a c') M := by
  apply aWd_ext
  · rw [List.length_set, aWd_len, List.length_set]
  · intro k c2 hk
    have hlt : a < E.length := (List.getElem?_eq_some_iff.mp hE).1
    rw [List.getElem?_set] at hk ⊢
    by_cases hka : a = k
    · subst hka
      rw [if_pos rfl, if_pos hlt] at hk
      cases hk
      rw [if_pos rfl, if_pos (by rw [aWd_len]; exact hlt), he]
    · rw [if_neg hka] at hk ⊢
      exact aWd_get hk
section AW4
variable {l : Launch} {K : aK} {Y : aY} {d kc ks pc n : Nat} {L st : List Value} {E : aE} {M : aM} {Q : Option Value → aE → aM → Prop}
/-- a cell that is new has the next number -/
theorem aNew {p : Program} {e : Env} {R : Room} {s : State} {m : MethodId} {args : Array Value} {below : List Frame} {meth : Method} {c : Code} {H1 : Heap} {locs : List Loc} {cells slots q : Nat} {Q0 : State → Prop} {g : JFrame} {x : va_E} (hP : va_P K.1 vwCl (aWd K E M ++ [(q, x)]) H1) (hD : va_D (aA K) (aWd K E M ++ [(q, x)])) (h3 : s.heap.size + cells = K.2.2.1 + E.length)
    (k : q = K.2.2.1 + E.length → W p l e R s m args below meth c H1 locs (cells + 1) slots Q0 g) : W p l e R s m args below meth c H1 locs (cells + 1) slots Q0 g := by
  intro T hT X
  refine k ?_ T hT X
  have hl : (aWd K E M ++ [(q, x)])[E.length]? = some (q, x) := by
    rw [List.getElem?_append_right (by rw [aWd_len]; exact Nat.le_refl _), aWd_len, Nat.sub_self]
    rfl
  have h1 : q < H1.size := (hP _ _ hl).lt
  have h2 : H1.size ≤ s.heap.size + (cells + 1) := by rw [← hT]; exact X.heapSize
  have h4 : K.2.2.1 ≤ q := hD.2 _ _ hl
  by_cases h5 : q < K.2.2.1 + E.length
  · have h6 : q - K.2.2.1 < E.length := by omega
    have h7 : (aWd K E M ++ [(q, x)])[q - K.2.2.1]? = some (K.2.2.1 + (q - K.2.2.1), aX K M (q - K.2.2.1) E[q - K.2.2.1]) := by
      rw [List.getElem?_append_left (by rw [aWd_len]; exact h6)]
      exact aWd_get (List.getElem?_eq_getElem h6)
    have h8 := hD.1 _ _ _ _ hl h7 (by show q = K.2.2.1 + (q - K.2.2.1); omega)
    omega
  · omega
def aNwk (own : String) (idx ci N : Nat) (fs : List aF) : Prop := ∃ (C : String) (T : u_T) (ty : Nat → FieldType), vwCl[ci]? = some (C, T, N) ∧ (∀ w ∈ u_ws C T N, w ∈ aTB) ∧ (∀ k, k < N → parseFieldDescriptor (T k).2.2.1 = some (ty k)) ∧ Cond.classLink own idx C ∈ aTB ∧ Cond.instantiable C N ∈ aTB ∧ Cond.initialized C ∈ aTB ∧ ∀ j, j < N → (fs[j]? = some none ∧ defaultValue (ty j) = .int 0) ∨ (fs[j]? = some (some none) ∧ defaultValue (ty j) = .null)
theorem aw_new {idx ci N : Nat} {fs : List aF} (hd : decode Y.2.1 pc = .ok (.new idx, 3)) (hw : aNwk Y.1.cls idx ci N fs) (hsm : E.length + 1 < 1000000) (hn : pc + 3 = n) (kk : aw l K Y d kc ks n L (.ref E.length :: st) (E ++ [.inl (ci, fs)]) (aClr M E.length) Q) : aw l K Y d (kc + 1) (ks + N) pc L st E M Q := by
  subst hn
  intro p e R s m args below meth c H locs cells slots mc ms ls C hH hS h1 h2 h3 hl
  obtain ⟨C0, T, ty, hc, hin, hty, w1, w2, w3, hdf⟩ := hw
  have hts := C.2.2.2.2.2.2.2.1
  have hb : K.2.2.1 ≤ s.heap.size := C.2.2.2.2.2.2.2.2.2.2.2.2.2
  have hmc : mc ≤ R.cells := C.2.2.2.2.2.2.2.2.2.2.2.1
  have hms : ms ≤ R.slots := C.2.2.2.2.2.2.2.2.2.2.2.2.1
  refine va_new (ci := ci) (fs := fs.mapIdx (fun k o => aFv K (aClr M E.length E.length k) o)) C.1 C.2.1 hts hin ty hty C.2.2.2.2.2.2.1 (hts _ w1) (hts _ w2) (hts _ w3) C.2.2.2.2.2.2.2.2.1.1 hH.1 (aWd_D K E M) hS (fun q hq => Nat.le_trans hb hq) hc (fun j hj => ?_) (by omega) (by omega) hd (fun q H1 hP1 hD1 hS1 => ?_)
  · unfold vp_V
    rw [List.getD_eq_getElem?_getD, List.getElem?_mapIdx]
    rcases hdf j hj with ⟨g1, g2⟩ | ⟨g1, g2⟩
    · rw [g1, g2, aClr_s]; rfl
    · rw [g1, g2]; rfl
  · refine aNew hP1 hD1 h3 (fun hq => ?_)
    subst hq
    have hpu := aWd_push (K := K) (M := M) (E := E) (c := .inl (ci, fs)) (e := .inr (ci, fs.mapIdx (fun k o => aFv K (aClr M E.length E.length k) o))) rfl
    rw [hpu] at hP1
    have hk := kk p e R s m args below meth c H1 locs (cells + 1) (slots + N) mc ms ls C ⟨hP1, by rw [List.length_append]; exact hsm⟩ hS1 (by omega) (by omega) (by rw [List.length_append]; show s.heap.size + (cells + 1) = K.2.2.1 + (E.length + 1); omega) hl
    have e1 : (Value.ref E.length :: st).map (aRv K) = .ref (K.2.2.1 + E.length) :: st.map (aRv K) := by
      show Value.ref (aAd K E.length) :: _ = _
      unfold aAd
      rw [if_pos (by omega)]
    rw [e1] at hk
    exact hk
theorem aw_newa {i : Int32} {N : Nat} (hd : decode Y.2.1 pc = .ok (.newarray .int, 2)) (hac : Cond.arrayClass .int ∈ aTB) (hi : ¬ i < 0) (hN : i.toNatClampNeg = N) (hby : N ≤ 100000000) (hsm : E.length + 1 < 1000000) (hn : pc + 2 = n) (kk : aw l K Y d kc ks n L (.ref E.length :: st) (E ++ [.inr (.inl N)]) (aClr M E.length) Q) : aw l K Y d (kc + 1) (ks + N) pc L (.int i :: st) E M Q := by
  subst hn
  intro p e R s m args below meth c H locs cells slots mc ms ls C hH hS h1 h2 h3 hl
  have hts := C.2.2.2.2.2.2.2.1
  have hb : K.2.2.1 ≤ s.heap.size := C.2.2.2.2.2.2.2.2.2.2.2.2.2
  have hmc : mc ≤ R.cells := C.2.2.2.2.2.2.2.2.2.2.2.1
  have hms : ms ≤ R.slots := C.2.2.2.2.2.2.2.2.2.2.2.2.1
  refine va_newa (atype := .int) (ty := .int) (a0 := (N, .inl (aClr M E.length E.length))) C.1 C.2.1 (hts _ hac) rfl C.2.2.2.2.2.2.2.2.1.1 hH.1 (aWd_D K E M) hS (fun q hq => Nat.le_trans hb hq) (fun cA => by rw [aClr_s]; rfl) hi hN (by show N * 4 ≤ 536870912; omega) (by omega) (by omega) hd (fun q cA H1 hK1 hP1 hD1 hS1 => ?_)
  have hcA : cA = K.2.1 0 := by
    have g1 : va_RA s cA .int := (hK1.2 3 (cA, .int) rfl).2
    have g2 : va_RA s (K.2.1 0) .int := (C.2.2.2.2.2.2.2.2.1.1.2 0 (K.2.1 0, .int) rfl).2
    exact Option.some.inj (g1.symm.trans g2)
  subst hcA
  refine aNew hP1 hD1 h3 (fun hq => ?_)
  subst hq
  have hpu := aWd_push (K := K) (M := M) (E := E) (c := .inr (.inl N)) (e := .inl (K.2.1 0, N, .inl (aClr M E.length E.length))) rfl
  rw [hpu] at hP1
  have hk := kk p e R s m args below meth c H1 locs (cells + 1) (slots + N) mc ms ls C ⟨hP1, by rw [List.length_append]; exact hsm⟩ hS1 (by omega) (by omega) (by rw [List.length_append]; show s.heap.size + (cells + 1) = K.2.2.1 + (E.length + 1); omega) hl
  have e1 : (Value.ref E.length :: st).map (aRv K) = .ref (K.2.2.1 + E.length) :: st.map (aRv K) := by
    show Value.ref (aAd K E.length) :: _ = _
    unfold aAd
    rw [if_pos (by omega)]
  rw [e1] at hk
  exact hk
def aTn (t : Nat) : String := match t with
  | 0 => RX5
  | _ => RX1
theorem aw_anew {i : Int32} {idx t N : Nat} (hd : decode Y.2.1 pc = .ok (.anewarray idx, 3)) (ht : t < 2) (hcl : Cond.classLink Y.1.cls idx (aTn t) ∈ aTB) (hi : ¬ i < 0) (hN : i.toNatClampNeg = N) (hby : N ≤ 100000000) (hsm : E.length + 1 < 1000000) (hn : pc + 3 = n) (kk : aw l K Y d kc ks n L (.ref E.length :: st) (E ++ [.inr (.inr (t, List.replicate N none))]) (aClr M E.length) Q) : aw l K Y d (kc + 1) (ks + N) pc L (.int i :: st) E M Q := by
  subst hn
  intro p e R s m args below meth c H locs cells slots mc ms ls C hH hS h1 h2 h3 hl
  have hts := C.2.2.2.2.2.2.2.1
  have hb : K.2.2.1 ≤ s.heap.size := C.2.2.2.2.2.2.2.2.2.2.2.2.2
  have hmc : mc ≤ R.cells := C.2.2.2.2.2.2.2.2.2.2.2.1
  have hms : ms ≤ R.slots := C.2.2.2.2.2.2.2.2.2.2.2.2.1
  have hAO : va_AO (aTn t) s := by
    rcases (show t = 0 ∨ t = 1 by omega) with rfl | rfl
    · exact C.2.2.2.2.2.2.2.2.1.2.2.1
    · exact C.2.2.2.2.2.2.2.2.1.2.2.2.1
  refine va_newq C.1 C.2.1 C.2.2.2.2.2.2.1 (hts _ hcl) hAO C.2.2.2.2.2.2.2.2.1.1 hH.1 (aWd_D K E M) hS (fun q hq => Nat.le_trans hb hq) hi hN (by omega) (by omega) (by omega) hd (fun q cA H1 hK1 hP1 hD1 hS1 => ?_)
  have hcA : cA = K.2.1 (t + 1) := by
    obtain ⟨-, -, -, -, -, g1⟩ := (hK1.2 3 (cA, .object (aTn t)) rfl).2
    have g2 : s.vm.findClass ("[" ++ (FieldType.object (aTn t)).toString) = some (K.2.1 (t + 1)) := by
      rcases (show t = 0 ∨ t = 1 by omega) with rfl | rfl
      · obtain ⟨-, -, -, -, -, g⟩ := (C.2.2.2.2.2.2.2.2.1.1.2 1 (K.2.1 1, .object RX5) rfl).2
        exact g
      · obtain ⟨-, -, -, -, -, g⟩ := (C.2.2.2.2.2.2.2.2.1.1.2 2 (K.2.1 2, .object RX1) rfl).2
        exact g
    exact Option.some.inj (g1.symm.trans g2)
  subst hcA
  refine aNew hP1 hD1 h3 (fun hq => ?_)
  subst hq
  have hx : (.inl (K.2.1 (t + 1), N, .inr (.inr (.inr (.inr (fun _ => none))))) : va_E) = aX K (aClr M E.length) E.length (.inr (.inr (t, List.replicate N none))) := by
    show _ = (.inl (K.2.1 (t + 1), (List.replicate N (none : Option Nat)).length, .inr (.inr (.inr (.inr (fun (i : Nat) => (((List.replicate N (none : Option Nat))[i]?).getD none).map (aAd K)))))) : va_E)
    have hf : (fun (i : Nat) => (((List.replicate N (none : Option Nat))[i]?).getD none).map (aAd K)) = fun _ => none := by
      funext i
      rw [List.getElem?_replicate]
      by_cases hi : i < N
      · rw [if_pos hi]; rfl
      · rw [if_neg hi]; rfl
    rw [hf, List.length_replicate]
  rw [aWd_push hx] at hP1
  have hk := kk p e R s m args below meth c H1 locs (cells + 1) (slots + N) mc ms ls C ⟨hP1, by rw [List.length_append]; exact hsm⟩ hS1 (by omega) (by omega) (by rw [List.length_append]; show s.heap.size + (cells + 1) = K.2.2.1 + (E.length + 1); omega) hl
  have e1 : (Value.ref E.length :: st).map (aRv K) = .ref (K.2.2.1 + E.length) :: st.map (aRv K) := by
    show Value.ref (aAd K E.length) :: _ = _
    unfold aAd
    rw [if_pos (by omega)]
  rw [e1] at hk
  exact hk
theorem aw_putF {idx ci k a r : Nat} {fs : List aF} {ty : FieldType} (hd : decode Y.2.1 pc = .ok (.putfield idx, 3)) (hf : aFp Y.1.cls idx ci k true ty) (hnm : Y.1.name = "<init>") (hE : E[a]? = some (.inl (ci, fs))) (hk : k < fs.length) (hnr : ∀ q, narrow ty (.ref q) = .ref q) (hft : ∀ q, fits ty (.ref q) = true) (hn : pc + 3 = n) (kk : aw l K Y d kc ks n L st (E.set a (.inl (ci, fs.set k (some (some r))))) M Q) : aw l K Y d kc ks pc L (.ref r :: .ref a :: st) E M Q := by
  subst hn
  intro p e R s m args below meth c H locs cells slots mc ms ls C hH hS h1 h2 h3 hl
  obtain ⟨C0, T, N, ty0, hc, hk2, hin, hty, hnm2, hfin, hds, hlink⟩ := hf
  show W p l e R s m args below meth c H locs cells slots _ (F0 m pc ls (.ref (aAd K r) :: .ref (aAd K a) :: st.map (aRv K)))
  rw [aAd_of hE hH]
  have hw := aWd_get (K := K) (M := M) hE
  have hlen : k < (fs.mapIdx (fun j o => aFv K (M a j) o)).length := by rw [List.length_mapIdx]; exact hk
  have hfs : (fs.mapIdx (fun j o => aFv K (M a j) o)).set k (.ref (aAd K r)) = (fs.set k (some (some r))).mapIdx (fun j o => aFv K (M a j) o) := by
    apply List.ext_getElem?
    intro j
    rw [List.getElem?_set, List.getElem?_mapIdx, List.getElem?_mapIdx, List.length_mapIdx, List.getElem?_set]
    by_cases hjk : k = j
    · rw [if_pos hjk, if_pos hjk]
      by_cases h : k < fs.length
      · rw [if_pos h, if_pos h]; rfl
      · rw [if_neg h, if_neg h]; rfl
    · rw [if_neg hjk, if_neg hjk]
  have hset : (aWd K E M).set a (K.2.2.1 + a, .inr (ci, (fs.mapIdx (fun j o => aFv K (M a j) o)).set k (.ref (aAd K r)))) = aWd K (E.set a (.inl (ci, fs.set k (some (some r))))) M :=
    aWd_setE hE (by rw [hfs]; rfl)
  rcases hlink with ⟨hlink, hown⟩ | ⟨hff, -⟩
  · refine va_putF C.1 C.2.1 C.2.2.2.2.2.2.2.1 hin ty0 hty hnm2 C.2.2.2.2.2.2.1 C.2.2.2.2.2.2.2.2.1.1 hH.1 (aWd_D K E M) hS a hw hc k hk2 (C.2.2.2.2.2.2.2.1 _ hlink) (fun _ h => h) hfin (C.2.2.2.2.2.1.trans hnm) (hown rfl) hds (hnr _) (hft _) hlen hd (fun H1 locs1 hP1 hD1 hS1 => ?_)
    exact kk p e R s m args below meth c H1 locs1 cells slots mc ms ls C ⟨hset ▸ hP1, by rw [List.length_set]; exact hH.2⟩ hS1 h1 h2 (by rw [List.length_set]; exact h3) hl
  · cases hff
theorem aw_aast {a t r ci : Nat} {rs : List (Option Nat)} {fs : List aF} {q : vw_C} {i : Int32} (hd : decode Y.2.1 pc = .ok (.aastore, 1)) (hE : E[a]? = some (.inr (.inr (t, rs)))) (ht : t < 2) (hi : vp_in i rs.length) (hr : E[r]? = some (.inl (ci, fs))) (hcl : vwCl[ci]? = some q) (hq : q.1 = aTn t) (hn : pc + 1 = n) (kk : aw l K Y d kc ks n L st (E.set a (.inr (.inr (t, rs.set i.toNatClampNeg (some r))))) M Q) : aw l K Y d kc ks pc L (.ref r :: .int i :: .ref a :: st) E M Q := by
  subst hn
  intro p e R s m args below meth c H locs cells slots mc ms ls C hH hS h1 h2 h3 hl
  show W p l e R s m args below meth c H locs cells slots _ (F0 m pc ls (.ref (aAd K r) :: .int i :: .ref (aAd K a) :: st.map (aRv K)))
  have hrr := aAd_of hr hH
  rw [aAd_of hE hH, hrr]
  have hw := aWd_get (K := K) (M := M) hE
  have hw2 := aWd_get (K := K) (M := M) hr
  have hset : (aWd K E M).set a (K.2.2.1 + a, .inl (K.2.1 (t + 1), rs.length, .inr (.inr (.inr (.inr (va_up (fun i => ((rs[i]?).getD none).map (aAd K)) i.toNatClampNeg (some (K.2.2.1 + r)))))))) = aWd K (E.set a (.inr (.inr (t, rs.set i.toNatClampNeg (some r))))) M := by
    refine aWd_setE hE ?_
    show _ = (.inl (K.2.1 (t + 1), (rs.set i.toNatClampNeg (some r)).length, .inr (.inr (.inr (.inr (fun j => (((rs.set i.toNatClampNeg (some r))[j]?).getD none).map (aAd K)))))) : va_E)
    have hf : (fun j => (((rs.set i.toNatClampNeg (some r))[j]?).getD none).map (aAd K)) = va_up (fun i => ((rs[i]?).getD none).map (aAd K)) i.toNatClampNeg (some (K.2.2.1 + r)) := by
      funext j
      unfold va_up
      rw [List.getElem?_set]
      by_cases hj : j = i.toNatClampNeg
      · have h9 : i.toNatClampNeg < rs.length := Nat.not_le.mp fun z => hi (Or.inr z)
        rw [if_pos hj.symm, if_pos h9, if_pos hj, ← hrr]
        rfl
      · rw [if_neg (fun z => hj z.symm), if_neg hj]
    rw [hf, List.length_set]
  have hty : (aTy K)[t + 1]? = some (K.2.1 (t + 1), .object q.1) := by
    rw [hq]
    rcases (show t = 0 ∨ t = 1 by omega) with rfl | rfl <;> rfl
  refine va_astq C.1 C.2.1 C.2.2.2.2.2.2.2.2.1.1 hH.1 (aWd_D K E M) hS a (t + 1) r ci hw hty hw2 hcl hi hd (fun H1 locs1 hP1 hD1 hS1 => ?_)
  exact kk p e R s m args below meth c H1 locs1 cells slots mc ms ls C ⟨hset ▸ hP1, by rw [List.length_set]; exact hH.2⟩ hS1 h1 h2 (by rw [List.length_set]; exact h3) hl
theorem aw_oinit {idx a : Nat} (hd : decode Y.2.1 pc = .ok (.invokespecial idx, 3)) (hlink : Cond.methodLink Y.1.cls idx objectInit ∈ aTB) (hinst : Cond.instanceMethod objectInit ∈ aTB) (hcode : Cond.code objectInit ⟨#[0xb1]⟩ 1 none ∈ aTB) (hdd : 1 ≤ d) (hst : (st.map fun v => v.category).sum ≤ 8) (hn : pc + 3 = n) (kk : aw l K Y d kc ks n L st E M Q) : aw l K Y d kc ks pc L (.ref a :: st) E M Q := by
  subst hn
  intro p e R s m args below meth c H locs cells slots mc ms ls C hH hS h1 h2 h3 hl
  have hts := C.2.2.2.2.2.2.2.1
  have hcat : ((st.map (aRv K)).map fun v => v.category) = st.map fun v => v.category := by
    rw [List.map_map]
    exact List.map_congr_left fun v _ => aRv_cat K v
  have hR : 60 * d ≤ R.locals := C.2.2.2.2.2.2.2.2.2.2.1
  have hroom := lv_room (m := m) (pc := pc) (ls := ls) (rest := (Value.ref a :: st).map (aRv K)) (st := st.map (aRv K)) (by rw [hcat]; exact hst)
  exact W.objInit C.1 C.2.1 C.2.2.2.2.2.2.1 (hts _ hlink) (hts _ hinst) (hts _ hcode) rfl (by rw [C.2.2.1]; exact hl.1) rfl hd (Nat.le_trans hdd C.2.2.2.2.2.2.2.2.2.1) (by omega) (kk p e R s m args below meth c H locs cells slots mc ms ls C hH hS h1 h2 h3 hl)
end AW4
