section AW3
variable {l : Launch} {K : aK} {Y : aY} {d kc ks pc n : Nat} {L st : List Value} {E : aE} {M : aM} {Q : Option Value → aE → aM → Prop}
theorem aw_back {p : Program} {e : Env} {R : Room} {s : State} {m : MethodId} {args : Array Value} {below : List Frame} {meth : Method} {c : Code} {H : Heap} {locs : List Loc} {cells slots mc ms kc1 ks1 kc2 ks2 : Nat} {ls : Array Slot} {st0 : List Value} {rest : List Value} {Q' : Option Value → aE → aM → Prop} {a : Array Value}
    (C : aCx K Y d p R s m args meth c mc ms) (hS : va_S (aA K) s.heap H locs) (h1 : cells + (kc1 + kc2) = mc) (h2 : slots + (ks1 + ks2) ≤ ms) (h3 : s.heap.size + cells = K.2.2.1 + E.length) (hsz : H.size = K.2.2.1 + E.length) (hl : aL K ls Y.2.2.1 L)
    (hr : va_Run p l e R s m args below meth c H locs cells slots kc1 ks1 (F0 m pc ls st0) (rest.map (aRv K)) (aQ K Q' kc1 a) (aA K)) (hk : ∀ (v : Option Value) (E' : aE) (M' : aM), Q' v E' M' → aw l K Y d kc2 ks2 (pc + 3) L (aPush v rest) E' M' Q) :
    W p l e R s m args below meth c H locs cells slots (MQ below (aQ K Q mc) args s mc ms (aA K)) (F0 m pc ls st0) := by
  intro T hT X
  obtain ⟨v, st₀, t, T', Lc, h0, X', hL, e1, e2, ⟨⟨v', E', M', hv, hq, hH', hsz'⟩, hz, hkq⟩, go⟩ := hr T hT X
  have hv' : v = v'.map (aRv K) := by injection hv
  subst hv'
  rw [h0] at hz hkq hsz'
  have hkk := hk v' E' M' hq p e R s m args below meth c T'.heap (locs ++ Lc) (cells + kc1) (slots + ks1) mc ms ls C (by rw [e1]; exact hH')
    ⟨Nat.le_trans hS.1 (by rw [e1]; exact hz), fun q g1 g2 => by rw [e1, hkq q (Nat.lt_of_lt_of_le g1 hS.1) g2]; exact hS.2.1 q g1 g2, fun q hq => by
      rcases List.mem_append.mp hq with h | h
      · exact hS.2.2 q h
      · exact hL q h⟩ (by omega) (by omega) (by omega) hl T' rfl X'
  obtain ⟨t2, a1, b1⟩ := hkk
  refine ⟨t2, go t2 ?_, b1⟩
  cases v' with
  | none => exact a1
  | some v' => exact a1
theorem aPc_blind (As : List Value) : FrameBlind (aPc K E M As) := fun a U g mk q => ⟨q.1, aV.same q.2.1 rfl rfl, q.2.2⟩
theorem aPc_in {s U : State} {H : Heap} {locs : List Loc} {As : List Value} (hV : aV K s) (hH : aH K E M H) (hS : va_S (aA K) s.heap H locs) (hsz : H.size = K.2.2.1 + E.length) (hU : U.heap = H) (hW : s.WarmedH U.vm) : aPc K E M As (As.map (aRv K)).toArray U :=
  ⟨rfl, aV.next hV hW (fun q h1 h2 => by rw [hU]; exact hS.2.1 q h1 h2), by rw [hU]; exact hH, by rw [hU]; exact hsz⟩
theorem aw_scall {Z : aY} {idx np d1 kc1 kc2 ks1 ks2 : Nat} {As L0 rest : List Value} (hd : decode Y.2.1 pc = .ok (.invokestatic idx, 3)) (hok : aMd Z np) (hlk : aLk Y.1.cls idx Z.1) (hstt : Cond.static Z.1 ∈ aTB) (hnp : As.length = np) (hc : ∀ v ∈ As, v.category = 1) (hle : As.length ≤ Z.2.2.1) (hL : As ++ List.replicate (Z.2.2.1 - As.length) .null = L0) (hd1 : d1 + 1 ≤ d) (hrest : (rest.map fun v => v.category).sum ≤ 8)
    (kk : aw l K Z d1 kc1 ks1 0 L0 [] E M (fun v E' M' => aw l K Y d kc2 ks2 (pc + 3) L (aPush v rest) E' M' Q)) : aw l K Y d (kc1 + kc2) (ks1 + ks2) pc L (As.reverse ++ rest) E M Q := by
  intro p e R s m args below meth c H locs cells slots mc ms ls C hH hS h1 h2 h3 hl
  refine aH_size C.2.2.2.2.2.2.2.2.2.2.2.2.2 hH hS h3 (fun hsz => ?_)
  have hM := aw_met hok hc hle hL kk
  have hcat : ((rest.map (aRv K)).map fun v => v.category) = rest.map fun v => v.category := by
    rw [List.map_map]
    exact List.map_congr_left fun v _ => aRv_cat K v
  have hfr : d ≤ R.frames := C.2.2.2.2.2.2.2.2.2.1
  have hlo : 60 * d ≤ R.locals := C.2.2.2.2.2.2.2.2.2.2.1
  have hmc : mc ≤ R.cells := C.2.2.2.2.2.2.2.2.2.2.2.1
  have hms : ms ≤ R.slots := C.2.2.2.2.2.2.2.2.2.2.2.2.1
  have hnL : Z.2.2.1 ≤ 41 := hok.2.2.2.2
  have hR : (aRm d1 kc1 ks1).frames + 1 ≤ R.frames ∧ 8 + (Z.2.2.1 + 11) + (aRm d1 kc1 ks1).locals ≤ R.locals := by
    refine ⟨?_, ?_⟩
    · show d1 + 1 ≤ R.frames; omega
    · show 8 + (Z.2.2.1 + 11) + 60 * d1 ≤ R.locals; omega
  have hts := C.2.2.2.2.2.2.2.1
  have hfx : CallFix p m c Y.2.1 Y.2.2.1 s args aTB Y.1.cls := ⟨C.1, C.2.1, C.2.2.1, C.2.2.2.2.2.2.1, hts⟩
  have hstk : (F0 m pc ls ((As.reverse ++ rest).map (aRv K))).stack = (As.map (aRv K)).reverse ++ rest.map (aRv K) := by
    show (As.reverse ++ rest).map (aRv K) = _
    rw [List.map_append, List.map_reverse]
  have hlm : (As.map (aRv K)).length = np := by rw [List.length_map]; exact hnp
  have hcr : ((rest.map (aRv K)).map fun v => v.category).sum ≤ 8 := by rw [hcat]; exact hrest
  have hpre : PreS s H (aPc K E M As) (As.map (aRv K)) := ⟨aPc_blind As, fun U hU hW => aPc_in C.2.2.2.2.2.2.2.2.1 hH hS hsz hU hW⟩
  rcases hlk with hlk | ⟨host, hlk⟩
  · exact aw_back C hS h1 h2 h3 hsz hl (va_runS hfx hM ⟨callB_of np hts (aGood hok.1) rfl rfl rfl (hts _ hok.2.1) (hts _ hlk) hok.2.2.2.1 hR, hts _ hstt⟩ hpre rfl hlm hl.1 hstk (lv_room hcr) hd ⟨by omega, by omega⟩) (fun v E' M' h => h)
  · exact aw_back C hS h1 h2 h3 hsz hl (va_runSN hfx hM ⟨va_cnB np hts (aGood hok.1) rfl rfl rfl (C.2.2.2.2.2.2.2.2.1.2.1 _ hlk) (hts _ hok.2.1) hok.2.2.2.1 hR, hts _ hstt, trivial⟩ hpre rfl hlm hl.1 hstk (lv_room hcr) hd ⟨by omega, by omega⟩) (fun v E' M' h => h)
theorem aw_vcall {Z : aY} {idx np d1 kc1 kc2 ks1 ks2 b ci : Nat} {q : vw_C} {fs : List aF} {As L0 rest : List Value} (hd : decode Y.2.1 pc = .ok (.invokevirtual idx, 3)) (hok : aMd Z np) (hlk : aLk Y.1.cls idx Z.1) (hinst : Cond.instanceMethod Z.1 ∈ aTB) (hsel : Cond.selects Z.1.cls Z.1 Z.1 ∈ aTB) (hcl : vwCl[ci]? = some q) (hq : q.1 = Z.1.cls) (hE : E[b]? = some (.inl (ci, fs))) (hnp : As.length = np) (hc : ∀ v ∈ As, v.category = 1) (hle : As.length + 1 ≤ Z.2.2.1) (hL : .ref b :: As ++ List.replicate (Z.2.2.1 - (As.length + 1)) .null = L0) (hd1 : d1 + 1 ≤ d) (hrest : (rest.map fun v => v.category).sum ≤ 8)
    (kk : aw l K Z d1 kc1 ks1 0 L0 [] E M (fun v E' M' => aw l K Y d kc2 ks2 (pc + 3) L (aPush v rest) E' M' Q)) : aw l K Y d (kc1 + kc2) (ks1 + ks2) pc L (As.reverse ++ .ref b :: rest) E M Q := by
  intro p e R s m args below meth c H locs cells slots mc ms ls C hH hS h1 h2 h3 hl
  refine aH_size C.2.2.2.2.2.2.2.2.2.2.2.2.2 hH hS h3 (fun hsz => ?_)
  have hc2 : ∀ v ∈ Value.ref b :: As, v.category = 1 := fun v hv => (List.mem_cons.mp hv).elim (fun h => by rw [h]; rfl) (hc v)
  have hM := aw_met (As := .ref b :: As) hok hc2 hle hL kk
  have hcat : ((rest.map (aRv K)).map fun v => v.category) = rest.map fun v => v.category := by
    rw [List.map_map]
    exact List.map_congr_left fun v _ => aRv_cat K v
  have hfr : d ≤ R.frames := C.2.2.2.2.2.2.2.2.2.1
  have hlo : 60 * d ≤ R.locals := C.2.2.2.2.2.2.2.2.2.2.1
  have hmc : mc ≤ R.cells := C.2.2.2.2.2.2.2.2.2.2.2.1
  have hms : ms ≤ R.slots := C.2.2.2.2.2.2.2.2.2.2.2.2.1
  have hnL : Z.2.2.1 ≤ 41 := hok.2.2.2.2
  have hR : (aRm d1 kc1 ks1).frames + 1 ≤ R.frames ∧ 8 + (Z.2.2.1 + 11) + (aRm d1 kc1 ks1).locals ≤ R.locals := by
    refine ⟨?_, ?_⟩
    · show d1 + 1 ≤ R.frames; omega
    · show 8 + (Z.2.2.1 + 11) + 60 * d1 ≤ R.locals; omega
  have hts := C.2.2.2.2.2.2.2.1
  have hfx : CallFix p m c Y.2.1 Y.2.2.1 s args aTB Y.1.cls := ⟨C.1, C.2.1, C.2.2.1, C.2.2.2.2.2.2.1, hts⟩
  have hstk : (F0 m pc ls ((As.reverse ++ .ref b :: rest).map (aRv K))).stack = (As.map (aRv K)).reverse ++ .ref (aAd K b) :: rest.map (aRv K) := by
    show (As.reverse ++ .ref b :: rest).map (aRv K) = _
    rw [List.map_append, List.map_reverse]
    rfl
  have hlm : (As.map (aRv K)).length = np := by rw [List.length_map]; exact hnp
  have hcr : ((rest.map (aRv K)).map fun v => v.category).sum ≤ 8 := by rw [hcat]; exact hrest
  have hw := aWd_get (K := K) (M := M) hE
  have hrv : ∃ cell : Cell, H[aAd K b]? = some cell ∧ cell.vm.isStatics = false ∧ s.vm.findClass Z.1.cls = some cell.cls := by
    rw [aAd_of hE hH, ← hq]
    exact va_recv C.2.2.2.2.2.2.2.2.1.1 hH.1 hcl hw
  have hpre : PreV s H Z.1.cls (aAd K b) (aPc K E M (.ref b :: As)) (As.map (aRv K)) := ⟨aPc_blind _, hrv, fun U hU hW => aPc_in (As := .ref b :: As) C.2.2.2.2.2.2.2.2.1 hH hS hsz hU hW⟩
  rcases hlk with hlk | ⟨host, hlk⟩
  · exact aw_back C hS h1 h2 h3 hsz hl (va_runV hfx hM ⟨callB_of np hts (aGood hok.1) rfl rfl rfl (hts _ hok.2.1) (hts _ hlk) hok.2.2.2.1 hR, hts _ hinst, hts _ hsel⟩ hpre rfl hlm hl.1 hstk (lv_room hcr) hd ⟨by omega, by omega⟩) (fun v E' M' h => h)
  · exact aw_back C hS h1 h2 h3 hsz hl (va_runVN hfx hM ⟨va_cnB np hts (aGood hok.1) rfl rfl rfl (C.2.2.2.2.2.2.2.2.1.2.1 _ hlk) (hts _ hok.2.1) hok.2.2.2.1 hR, hts _ hinst, hts _ hsel⟩ hpre rfl hlm hl.1 hstk (lv_room hcr) hd ⟨by omega, by omega⟩) (fun v E' M' h => h)
theorem aw_ccall {Z : aY} {idx np d1 kc1 kc2 ks1 ks2 b : Nat} {As L0 rest : List Value} (hd : decode Y.2.1 pc = .ok (.invokespecial idx, 3)) (hok : aMd Z np) (hlk : aLk Y.1.cls idx Z.1) (hnm : Z.1.name = "<init>") (hrn : Z.2.2.2 = none) (hinst : Cond.instanceMethod Z.1 ∈ aTB) (hnp : As.length = np) (hc : ∀ v ∈ As, v.category = 1) (hle : As.length + 1 ≤ Z.2.2.1) (hL : .ref b :: As ++ List.replicate (Z.2.2.1 - (As.length + 1)) .null = L0) (hd1 : d1 + 1 ≤ d) (hrest : (rest.map fun v => v.category).sum ≤ 8)
    (kk : aw l K Z d1 kc1 ks1 0 L0 [] E M (fun v E' M' => aw l K Y d kc2 ks2 (pc + 3) L (aPush v rest) E' M' Q)) : aw l K Y d (kc1 + kc2) (ks1 + ks2) pc L (As.reverse ++ .ref b :: rest) E M Q := by
  intro p e R s m args below meth c H locs cells slots mc ms ls C hH hS h1 h2 h3 hl
  refine aH_size C.2.2.2.2.2.2.2.2.2.2.2.2.2 hH hS h3 (fun hsz => ?_)
  have hc2 : ∀ v ∈ Value.ref b :: As, v.category = 1 := fun v hv => (List.mem_cons.mp hv).elim (fun h => by rw [h]; rfl) (hc v)
  have hM := aw_met (As := .ref b :: As) hok hc2 hle hL kk
  have hcat : ((rest.map (aRv K)).map fun v => v.category) = rest.map fun v => v.category := by
    rw [List.map_map]
    exact List.map_congr_left fun v _ => aRv_cat K v
  have hfr : d ≤ R.frames := C.2.2.2.2.2.2.2.2.2.1
  have hlo : 60 * d ≤ R.locals := C.2.2.2.2.2.2.2.2.2.2.1
  have hmc : mc ≤ R.cells := C.2.2.2.2.2.2.2.2.2.2.2.1
  have hms : ms ≤ R.slots := C.2.2.2.2.2.2.2.2.2.2.2.2.1
  have hnL : Z.2.2.1 ≤ 41 := hok.2.2.2.2
  have hR : (aRm d1 kc1 ks1).frames + 1 ≤ R.frames ∧ 8 + (Z.2.2.1 + 11) + (aRm d1 kc1 ks1).locals ≤ R.locals := by
    refine ⟨?_, ?_⟩
    · show d1 + 1 ≤ R.frames; omega
    · show 8 + (Z.2.2.1 + 11) + 60 * d1 ≤ R.locals; omega
  have hts := C.2.2.2.2.2.2.2.1
  have hfx : CallFix p m c Y.2.1 Y.2.2.1 s args aTB Y.1.cls := ⟨C.1, C.2.1, C.2.2.1, C.2.2.2.2.2.2.1, hts⟩
  have hstk : (F0 m pc ls ((As.reverse ++ .ref b :: rest).map (aRv K))).stack = (As.map (aRv K)).reverse ++ .ref (aAd K b) :: rest.map (aRv K) := by
    show (As.reverse ++ .ref b :: rest).map (aRv K) = _
    rw [List.map_append, List.map_reverse]
    rfl
  have hlm : (As.map (aRv K)).length = np := by rw [List.length_map]; exact hnp
  have hcr : ((rest.map (aRv K)).map fun v => v.category).sum ≤ 8 := by rw [hcat]; exact hrest
  have hpre : PreS s H (aPc K E M (.ref b :: As)) (.ref (aAd K b) :: As.map (aRv K)) := ⟨aPc_blind _, fun U hU hW => aPc_in (As := .ref b :: As) C.2.2.2.2.2.2.2.2.1 hH hS hsz hU hW⟩
  have hcode : Cond.code Z.1 Z.2.1 Z.2.2.1 none ∈ aTB := hrn ▸ hok.1
  have hM2 : Met l Z.1 (Cond.code Z.1 Z.2.1 Z.2.2.1 none :: aTB) (aRm d1 kc1 ks1) (aPc K E M (.ref b :: As)) (aQ K (fun v E' M' => aw l K Y d kc2 ks2 (pc + 3) L (aPush v rest) E' M' Q) kc1) kc1 ks1 (aA K) := by
    have h9 : Cond.code Z.1 Z.2.1 Z.2.2.1 Z.2.2.2 = Cond.code Z.1 Z.2.1 Z.2.2.1 none := by rw [hrn]
    rw [← h9]
    exact hM
  rcases hlk with hlk | ⟨host, hlk⟩
  · exact aw_back C hS h1 h2 h3 hsz hl (va_runI hfx hM2 ⟨callB_of np hts (aGood hcode) rfl rfl rfl (hts _ hok.2.1) (hts _ hlk) hok.2.2.2.1 hR, hnm, hts _ hinst⟩ hpre rfl hlm hl.1 hstk (lv_room hcr) hd ⟨by omega, by omega⟩) (fun v E' M' h => h)
  · exact aw_back C hS h1 h2 h3 hsz hl (va_runIN hfx hM2 ⟨va_cnB np hts (aGood hcode) rfl rfl rfl (C.2.2.2.2.2.2.2.2.1.2.1 _ hlk) (hts _ hok.2.1) hok.2.2.2.1 hR, hnm, hts _ hinst⟩ hpre rfl hlm hl.1 hstk (lv_room hcr) hd ⟨by omega, by omega⟩) (fun v E' M' h => h)
end AW3
