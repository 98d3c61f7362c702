/-! A flat picture of the machine: cells by number, ints by cell and place; a judgement 'aw' over it, of which every row below is proved out of the kit's rows -/
abbrev aM : Type := Nat → Nat → Int32
abbrev aF : Type := Option (Option Nat)
abbrev aC : Type := (Nat × List aF) ⊕ (Nat ⊕ (Nat × List (Option Nat)))
abbrev aE : Type := List aC
abbrev aK : Type := va_G × (Nat → ClassId) × Nat × (Nat → Nat)
def aAd (K : aK) (a : Nat) : Nat := if a < 1000000 then K.2.2.1 + a else K.2.2.2 (a - 1000000)
def aRv (K : aK) : Value → Value
  | .ref a => .ref (aAd K a)
  | v => v
def aFv (K : aK) (x : Int32) : aF → Value
  | none => .int x
  | some none => .null
  | some (some r) => .ref (aAd K r)
def aX (K : aK) (M : aM) (a : Nat) : aC → va_E
  | .inl (c, fs) => .inr (c, fs.mapIdx (fun k o => aFv K (M a k) o))
  | .inr (.inl n) => .inl (K.2.1 0, n, .inl (M a))
  | .inr (.inr (t, rs)) => .inl (K.2.1 (t + 1), rs.length, .inr (.inr (.inr (.inr (fun i => ((rs[i]?).getD none).map (aAd K))))))
def aWd (K : aK) (E : aE) (M : aM) : va_W := E.mapIdx (fun a c => (K.2.2.1 + a, aX K M a c))
def aA (K : aK) : Nat → Prop := fun q => K.2.2.1 ≤ q
def aH (K : aK) (E : aE) (M : aM) (H : Heap) : Prop := va_P K.1 vwCl (aWd K E M) H ∧ E.length < 1000000
def aTy (K : aK) : List (ClassId × FieldType) := [(K.2.1 0, .int), (K.2.1 1, .object RX5), (K.2.1 2, .object RX1)]
theorem aRv_cat (K : aK) (v : Value) : (aRv K v).category = v.category := by cases v <;> rfl
theorem aWd_get {K : aK} {E : aE} {M : aM} {a : Nat} {c : aC} (h : E[a]? = some c) : (aWd K E M)[a]? = some (K.2.2.1 + a, aX K M a c) := by
  unfold aWd
  rw [List.getElem?_mapIdx, h]
  rfl
theorem aWd_of {K : aK} {E : aE} {M : aM} {k : Nat} {q : Nat × va_E} (h : (aWd K E M)[k]? = some q) : ∃ c, E[k]? = some c ∧ q = (K.2.2.1 + k, aX K M k c) := by
  unfold aWd at h
  rw [List.getElem?_mapIdx] at h
  cases hc : E[k]? with
  | none => rw [hc] at h; cases h
  | some c => rw [hc] at h; exact ⟨c, rfl, (Option.some.inj h).symm⟩
theorem aWd_len (K : aK) (E : aE) (M : aM) : (aWd K E M).length = E.length := by unfold aWd; exact List.length_mapIdx
theorem aWd_D (K : aK) (E : aE) (M : aM) : va_D (aA K) (aWd K E M) := by
  refine ⟨fun i j p q hi hj hpq => ?_, fun k q hk => ?_⟩
  · obtain ⟨c1, -, e1⟩ := aWd_of hi
    obtain ⟨c2, -, e2⟩ := aWd_of hj
    rw [e1, e2] at hpq
    exact Nat.add_left_cancel hpq
  · obtain ⟨c1, -, e1⟩ := aWd_of hk
    rw [e1]
    exact Nat.le_add_right _ _
def up2 (M : aM) (a k : Nat) (x : Int32) : aM := fun b j => if b = a ∧ j = k then x else M b j
theorem up2_s (M : aM) (a k : Nat) (x : Int32) : up2 M a k x a k = x := by unfold up2; rw [if_pos ⟨rfl, rfl⟩]
theorem up2_a (M : aM) {a k b j : Nat} (x : Int32) (h : b ≠ a) : up2 M a k x b j = M b j := by unfold up2; rw [if_neg (fun q => h q.1)]
theorem up2_ra (M : aM) {a k b : Nat} (x : Int32) (h : b ≠ a) : up2 M a k x b = M b := funext fun _ => up2_a M x h
theorem up2_k (M : aM) {a k b j : Nat} (x : Int32) (h : j ≠ k) : up2 M a k x b j = M b j := by unfold up2; rw [if_neg (fun q => h q.2)]
theorem aWd_ext {K : aK} {E : aE} {M : aM} {w : va_W} (hl : w.length = E.length) (h : ∀ (k : Nat) (c : aC), E[k]? = some c → w[k]? = some (K.2.2.1 + k, aX K M k c)) : w = aWd K E M := by
  apply List.ext_getElem?
  intro k
  cases hc : E[k]? with
  | some c => rw [h k c hc, aWd_get hc]
  | none =>
    have h1 : E.length ≤ k := List.getElem?_eq_none_iff.mp hc
    rw [List.getElem?_eq_none_iff.mpr (by rw [hl]; exact h1), List.getElem?_eq_none_iff.mpr (by rw [aWd_len]; exact h1)]
theorem aX_off {K : aK} {M : aM} {a k b : Nat} {x : Int32} (c : aC) (h : b ≠ a) : aX K (up2 M a k x) b c = aX K M b c := by
  rcases c with ⟨c, fs⟩ | n | ⟨t, rs⟩
  · unfold aX; simp only [up2_ra M x h]
  · unfold aX; simp only [up2_ra M x h]
  · rfl
theorem aWd_set {K : aK} {E : aE} {M M' : aM} {a : Nat} {c : aC} {e : va_E} (hE : E[a]? = some c) (he : e = aX K M' a c) (ho : ∀ b, b ≠ a → M' b = M b) : (aWd K E M).set a (K.2.2.1 + a, e) = aWd K E M' := by
  apply aWd_ext
  · rw [List.length_set, aWd_len]
  · intro k c' hk
    have hlt : k < E.length := (List.getElem?_eq_some_iff.mp hk).1
    rw [List.getElem?_set]
    by_cases hka : a = k
    · subst hka
      rw [if_pos rfl, if_pos (by rw [aWd_len]; exact hlt), he]
      rw [hE] at hk
      cases hk
      rfl
    · rw [if_neg hka, aWd_get hk]
      have h1 := ho k (fun q => hka q.symm)
      rcases c' with ⟨c', fs⟩ | n | ⟨t, rs⟩
      · unfold aX; simp only [h1]
      · unfold aX; simp only [h1]
      · rfl
/-! the words -/
def aTB : List Cond := lw_tbl.filter goodWord
def aNest : Cond → Bool
  | .fieldLinkNest .. => true
  | .methodLinkNest .. => true
  | _ => false
def aNT : List Cond := tables_1.filter aNest
theorem aGood {w : Cond} (h : w ∈ aTB) : GoodIn aTB (w :: aTB) := by
  intro x hx
  rcases List.mem_cons.mp hx with rfl | hx
  · exact ⟨h, good_of_word (List.mem_filter.mp h).2⟩
  · exact ⟨hx, good_of_word (List.mem_filter.mp hx).2⟩
theorem aNest_warm {w : Cond} (hw : w ∈ aNT) {s U : State} (hW : s.WarmedH U.vm) (h : va_Nw w s) : va_Nw w U := by
  have h1 := (List.mem_filter.mp hw).2
  cases w <;> first | (simp [aNest] at h1; done) | exact va_Nw.warmF hW h | exact va_Nw.warmM hW h
/-! what the statics hold -/
def aTab (k j : Nat) : Int32 := (([[0, 0, 0, 2, 2, 2, 2, 2, 2, 2, 2, 1, 1, 3, 2, 3, 1, 1, 1, 3, 2], [4, 4, 4, 0, 0, 0, 0, 0, 0, 2, 1, 1, 0, 1, 1, 1, 1, 1, 1, 0, 0], [4, 4, 4, 0, 0, 0, 0, 0, 0, 3, 0, 4, 4, 0, 1, 0, 4, 4, 4, 4, 0], [4, 4, 4, 4, 4, 4, 4, 4, 4, 4, 4, 4, 4, 0, 4, 0, 4, 4, 4, 4, 4]] : List (List Int32)).getD k []).getD j 0
def aSn (k : Nat) : String × String := match k with
  | 0 => (RX4, "PARTS")
  | 1 => (RX6, "NEED_A")
  | 2 => (RX6, "NEED_B")
  | _ => (RX6, "NEED_C")
/-- statics 0 to 3; behind them the law's script: its cell 4, its length 5, its ints from 6 on -/
def aSt (K : aK) (U : State) : Prop := (∀ k, k < 4 → va_Z (aSn k).1 (aSn k).2 "[I" (.ref (K.2.2.2 k)) (aA K) U U.heap ∧ va_T .int (K.2.2.2 k) 21 (fun j => .int (aTab k j)) (aA K) U U.heap) ∧ va_X (K.2.2.2 4) (K.2.2.2 5) (fun j => nI (K.2.2.2 (6 + j))) U U.heap ∧ K.2.2.2 4 < K.2.2.1
theorem va_X_lt {b L : Nat} {xs : Nat → Int32} {U : State} {H : Heap} (h : va_X b L xs U H) : b < H.size := by
  obtain ⟨scr, h1, -⟩ := h
  exact (Array.getElem?_eq_some_iff.mp h1).1
def aV (K : aK) (U : State) : Prop := va_K K.1 vwCl (aTy K) U ∧ (∀ w ∈ aNT, va_Nw w U) ∧ va_AO RX5 U ∧ va_AO RX1 U ∧ aSt K U
theorem aV.next {K : aK} {s U : State} (h : aV K s) (hW : s.WarmedH U.vm) (hk : ∀ q : Nat, q < s.heap.size → ¬ aA K q → U.heap[q]? = s.heap[q]?) : aV K U := by
  obtain ⟨h1, h2, h3, h4, h5⟩ := h
  exact ⟨va_K.moved hW.alike h1, fun w hw => aNest_warm hw hW (h2 w hw), va_AO.moved hW.alike h3, va_AO.moved hW.alike h4, ⟨fun k hk4 => ⟨((h5.1 k hk4).1.moved hW.alike).kept hk, ((h5.1 k hk4).2.moved hW.alike).kept hk⟩, (h5.2.1.moved hW.alike).kept (hk _ (va_X_lt h5.2.1) (fun q => Nat.not_le.mpr h5.2.2 q)), h5.2.2⟩⟩
theorem aV.same {K : aK} {s U : State} (h : aV K s) (hvm : s.vm = U.vm) (hh : U.heap = s.heap) : aV K U := by
  obtain ⟨h1, h2, h3, h4, h5⟩ := h
  have hA : s.vm.Alike U.vm := by rw [← hvm]; exact Vm.Alike.refl s.vm
  refine ⟨va_K.moved hA h1, fun w hw => ?_, va_AO.moved hA h3, va_AO.moved hA h4, ⟨fun k hk4 => ⟨((h5.1 k hk4).1.moved hA).kept (fun q _ _ => by rw [hh]), ((h5.1 k hk4).2.moved hA).kept (fun q _ _ => by rw [hh])⟩, (h5.2.1.moved hA).kept (by rw [hh]), h5.2.2⟩⟩
  have h6 := (List.mem_filter.mp hw).2
  exact va_Nw.same (by cases w <;> first | (simp [aNest] at h6; done) | rfl) hvm (h2 w hw)
