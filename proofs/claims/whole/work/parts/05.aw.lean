abbrev aY : Type := MethodName × ByteArray × Nat × Option FieldType
def aL (K : aK) (ls : Array Slot) (n : Nat) (L : List Value) : Prop := ls.size = n ∧ L.length = n ∧ (lv_wf ls ∧ ∀ w ∈ L, w.category = 1) ∧ ∀ (i : Nat) (v : Value), L[i]? = some v → v ≠ .null → ls[i]? = some (.val (aRv K v))
def aCx (K : aK) (Y : aY) (d : Nat) (p : Program) (R : Room) (s : State) (m : MethodId) (args : Array Value) (meth : Method) (c : Code) (mc ms : Nat) : Prop :=
  p.tables.exec = Jvm.exec ∧ c.code = Y.2.1 ∧ c.maxLocals = Y.2.2.1 ∧ meth.sig.returnType = Y.2.2.2 ∧ meth.locks = false ∧ meth.name = Y.1.name ∧ s.vm.findClass Y.1.cls = some m.cls ∧ (∀ w ∈ aTB, w.before args s = true) ∧ aV K s ∧ d ≤ R.frames ∧ 60 * d ≤ R.locals ∧ mc ≤ R.cells ∧ ms ≤ R.slots ∧ K.2.2.1 ≤ s.heap.size
def aQ (K : aK) (Q : Option Value → aE → aM → Prop) (mc : Nat) : Array Value → State → Outcome → State → Prop := fun _ st o t =>
  (∃ (v : Option Value) (E : aE) (M : aM), o = .returned (v.map (aRv K)) ∧ Q v E M ∧ aH K E M t.heap ∧ st.heap.size + mc = K.2.2.1 + E.length) ∧ va_F (aA K) st t
def aw (l : Launch) (K : aK) (Y : aY) (d kc ks pc : Nat) (L st : List Value) (E : aE) (M : aM) (Q : Option Value → aE → aM → Prop) : Prop :=
  ∀ (p : Program) (e : Env) (R : Room) (s : State) (m : MethodId) (args : Array Value) (below : List Frame) (meth : Method) (c : Code) (H : Heap) (locs : List Loc) (cells slots mc ms : Nat) (ls : Array Slot),
    aCx K Y d p R s m args meth c mc ms → aH K E M H → va_S (aA K) s.heap H locs → cells + kc = mc → slots + ks ≤ ms → s.heap.size + cells = K.2.2.1 + E.length → aL K ls Y.2.2.1 L →
    W p l e R s m args below meth c H locs cells slots (MQ below (aQ K Q mc) args s mc ms (aA K)) (F0 m pc ls (st.map (aRv K)))
theorem aw.mono {l : Launch} {K : aK} {Y : aY} {d kc ks pc : Nat} {L st : List Value} {E : aE} {M : aM} {Q Q' : Option Value → aE → aM → Prop} (h : aw l K Y d kc ks pc L st E M Q) (hq : ∀ v E M, Q v E M → Q' v E M) : aw l K Y d kc ks pc L st E M Q' := by
  intro p e R s m args below meth c H locs cells slots mc ms ls C hH hS h1 h2 h3 hl T hT X
  obtain ⟨t, a, o, b1, b2, b3, b4⟩ := h p e R s m args below meth c H locs cells slots mc ms ls C hH hS h1 h2 h3 hl T hT X
  obtain ⟨⟨v, E', M', c1, c2, c3, c4⟩, c5⟩ := b3
  exact ⟨t, a, o, b1, b2, ⟨⟨v, E', M', c1, hq _ _ _ c2, c3, c4⟩, c5⟩, b4⟩
theorem aL_at {K : aK} {ls : Array Slot} {n : Nat} {L : List Value} (h : aL K ls n L) {i : Nat} {v : Value} (hi : L[i]? = some v) (hv : v ≠ .null) : ls[i]? = some (.val (aRv K v)) := h.2.2.2 i v hi hv
/-- the locals as the kit lists them -/
def aLv (K : aK) (L : List Value) : List (Nat × Value) := (List.range L.length).filterMap (fun i => match L[i]? with
  | some v => if v = .null then none else some (i, aRv K v)
  | none => none)
theorem aLv_has {K : aK} {ls : Array Slot} {n : Nat} {L : List Value} (h : aL K ls n L) : lv_has ls n (aLv K L) := by
  refine ⟨h.1, h.2.2.1.1, fun q hq => ?_⟩
  obtain ⟨i, -, hi⟩ := List.mem_filterMap.mp hq
  cases hL : L[i]? with
  | none => rw [hL] at hi; cases hi
  | some v =>
    rw [hL] at hi
    by_cases hv : v = .null
    · simp [hv] at hi
    · simp only [hv, if_false] at hi
      cases hi
      exact h.2.2.2 i v hL hv
theorem aLv_mem {K : aK} {L : List Value} {i : Nat} {v : Value} (hi : L[i]? = some v) (hv : v ≠ .null) : (i, aRv K v) ∈ aLv K L := by
  unfold aLv
  refine List.mem_filterMap.mpr ⟨i, List.mem_range.mpr (List.getElem?_eq_some_iff.mp hi).1, ?_⟩
  simp [hi, hv]
theorem aL_set {K : aK} {ls ls' : Array Slot} {n i : Nat} {L : List Value} {v : Value} (h : aL K ls n L) (hv : v.category = 1) (h' : lv_has ls' n ((i, aRv K v) :: (aLv K L).filter (fun q => !(q.1 == i) && !(q.1 + 1 == i && q.2.category == 2)))) : aL K ls' n (L.set i v) := by
  have hc := h.2.2.1.2
  refine ⟨h'.1, by rw [List.length_set]; exact h.2.1, ⟨h'.2.1, fun w hw => (List.mem_or_eq_of_mem_set hw).elim (hc w) (fun q => by rw [q]; exact hv)⟩, fun j w hj hw => ?_⟩
  rw [List.getElem?_set] at hj
  by_cases hij : i = j
  · subst hij
    rw [if_pos rfl] at hj
    by_cases hl : i < L.length
    · rw [if_pos hl] at hj
      cases hj
      exact h'.2.2 _ List.mem_cons_self
    · rw [if_neg hl] at hj
      cases hj
  · rw [if_neg hij] at hj
    refine h'.2.2 (j, aRv K w) (List.mem_cons_of_mem _ (List.mem_filter.mpr ⟨aLv_mem hj hw, ?_⟩))
    have h1 : w.category = 1 := hc w (List.mem_of_getElem? hj)
    have h2 : ¬ j = i := fun q => hij q.symm
    simp [h2, aRv_cat, h1]
section AW
variable {l : Launch} {K : aK} {Y : aY} {d kc ks pc n : Nat} {L st : List Value} {E : aE} {M : aM} {Q : Option Value → aE → aM → Prop}
theorem aw_iconst {i : Int} {v : Int32} (hd : decode Y.2.1 pc = .ok (.iconst i, 1)) (hv : Int32.ofInt i = v) (hn : pc + 1 = n) (k : aw l K Y d kc ks n L (.int v :: st) E M Q) : aw l K Y d kc ks pc L st E M Q := by
  subst hn
  intro p e R s m args below meth c H locs cells slots mc ms ls C hH hS h1 h2 h3 hl
  exact lv_iconst C.1 C.2.1 hd hv (k p e R s m args below meth c H locs cells slots mc ms ls C hH hS h1 h2 h3 hl)
theorem aw_bipush {i : Int} {v : Int32} (hd : decode Y.2.1 pc = .ok (.bipush i, 2)) (hv : (Int8.ofInt i).toInt32 = v) (hn : pc + 2 = n) (k : aw l K Y d kc ks n L (.int v :: st) E M Q) : aw l K Y d kc ks pc L st E M Q := by
  subst hn
  intro p e R s m args below meth c H locs cells slots mc ms ls C hH hS h1 h2 h3 hl
  exact lv_bipush C.1 C.2.1 hd hv (k p e R s m args below meth c H locs cells slots mc ms ls C hH hS h1 h2 h3 hl)
theorem aw_sipush {i : Int} {v : Int32} (hd : decode Y.2.1 pc = .ok (.sipush i, 3)) (hv : (Int16.ofInt i).toInt32 = v) (hn : pc + 3 = n) (k : aw l K Y d kc ks n L (.int v :: st) E M Q) : aw l K Y d kc ks pc L st E M Q := by
  subst hn
  intro p e R s m args below meth c H locs cells slots mc ms ls C hH hS h1 h2 h3 hl
  exact lv_sipush C.1 C.2.1 hd hv (k p e R s m args below meth c H locs cells slots mc ms ls C hH hS h1 h2 h3 hl)
theorem aw_ldc {i : Nat} {v : Int32} (hd : decode Y.2.1 pc = .ok (.ldc i, 2)) (hw : Cond.constant Y.1.cls i v ∈ aTB) (hn : pc + 2 = n) (k : aw l K Y d kc ks n L (.int v :: st) E M Q) : aw l K Y d kc ks pc L st E M Q := by
  subst hn
  intro p e R s m args below meth c H locs cells slots mc ms ls C hH hS h1 h2 h3 hl
  exact W.ldc C.1 C.2.1 C.2.2.2.2.2.2.1 (C.2.2.2.2.2.2.2.1 _ hw) rfl hd (k p e R s m args below meth c H locs cells slots mc ms ls C hH hS h1 h2 h3 hl)
theorem aw_iload_n {i : Fin 4} {x : Int32} (hd : decode Y.2.1 pc = .ok (.iload_n i, 1)) (hL : L[(i : Nat)]? = some (.int x)) (hn : pc + 1 = n) (k : aw l K Y d kc ks n L (.int x :: st) E M Q) : aw l K Y d kc ks pc L st E M Q := by
  subst hn
  intro p e R s m args below meth c H locs cells slots mc ms ls C hH hS h1 h2 h3 hl
  exact lv_iload_n C.1 C.2.1 hd rfl (aL_at hl hL (fun h => by cases h)) (k p e R s m args below meth c H locs cells slots mc ms ls C hH hS h1 h2 h3 hl)
theorem aw_iload {i : Nat} {x : Int32} (hd : decode Y.2.1 pc = .ok (.iload i, 2)) (hL : L[i]? = some (.int x)) (hn : pc + 2 = n) (k : aw l K Y d kc ks n L (.int x :: st) E M Q) : aw l K Y d kc ks pc L st E M Q := by
  subst hn
  intro p e R s m args below meth c H locs cells slots mc ms ls C hH hS h1 h2 h3 hl
  exact lv_iload C.1 C.2.1 hd (aL_at hl hL (fun h => by cases h)) (k p e R s m args below meth c H locs cells slots mc ms ls C hH hS h1 h2 h3 hl)
theorem aw_aload_n {i : Fin 4} {x : Nat} (hd : decode Y.2.1 pc = .ok (.aload_n i, 1)) (hL : L[(i : Nat)]? = some (.ref x)) (hn : pc + 1 = n) (k : aw l K Y d kc ks n L (.ref x :: st) E M Q) : aw l K Y d kc ks pc L st E M Q := by
  subst hn
  intro p e R s m args below meth c H locs cells slots mc ms ls C hH hS h1 h2 h3 hl
  exact lv_aload_n C.1 C.2.1 hd rfl (aL_at hl hL (fun h => by cases h)) (k p e R s m args below meth c H locs cells slots mc ms ls C hH hS h1 h2 h3 hl)
theorem aw_aload {i : Nat} {x : Nat} (hd : decode Y.2.1 pc = .ok (.aload i, 2)) (hL : L[i]? = some (.ref x)) (hn : pc + 2 = n) (k : aw l K Y d kc ks n L (.ref x :: st) E M Q) : aw l K Y d kc ks pc L st E M Q := by
  subst hn
  intro p e R s m args below meth c H locs cells slots mc ms ls C hH hS h1 h2 h3 hl
  exact lv_aload C.1 C.2.1 hd (aL_at hl hL (fun h => by cases h)) (k p e R s m args below meth c H locs cells slots mc ms ls C hH hS h1 h2 h3 hl)
theorem aw_istore_n {i : Fin 4} {x : Int32} {L' : List Value} (hd : decode Y.2.1 pc = .ok (.istore_n i, 1)) (hi : (i : Nat) < L.length) (hL : L.set i (.int x) = L') (hn : pc + 1 = n) (k : aw l K Y d kc ks n L' st E M Q) : aw l K Y d kc ks pc L (.int x :: st) E M Q := by
  subst hn; subst hL
  intro p e R s m args below meth c H locs cells slots mc ms ls C hH hS h1 h2 h3 hl
  exact lv_istore_n C.1 C.2.1 hd rfl (aLv_has hl) (by rw [← hl.2.1]; exact hi) rfl (fun ls' h' => k p e R s m args below meth c H locs cells slots mc ms ls' C hH hS h1 h2 h3 (aL_set (v := .int x) hl rfl h'))
theorem aw_istore {i : Nat} {x : Int32} {L' : List Value} (hd : decode Y.2.1 pc = .ok (.istore i, 2)) (hi : i < L.length) (hL : L.set i (.int x) = L') (hn : pc + 2 = n) (k : aw l K Y d kc ks n L' st E M Q) : aw l K Y d kc ks pc L (.int x :: st) E M Q := by
  subst hn; subst hL
  intro p e R s m args below meth c H locs cells slots mc ms ls C hH hS h1 h2 h3 hl
  exact lv_istore C.1 C.2.1 hd (aLv_has hl) (by rw [← hl.2.1]; exact hi) rfl (fun ls' h' => k p e R s m args below meth c H locs cells slots mc ms ls' C hH hS h1 h2 h3 (aL_set (v := .int x) hl rfl h'))
theorem aw_astore_n {i : Fin 4} {x : Nat} {L' : List Value} (hd : decode Y.2.1 pc = .ok (.astore_n i, 1)) (hi : (i : Nat) < L.length) (hL : L.set i (.ref x) = L') (hn : pc + 1 = n) (k : aw l K Y d kc ks n L' st E M Q) : aw l K Y d kc ks pc L (.ref x :: st) E M Q := by
  subst hn; subst hL
  intro p e R s m args below meth c H locs cells slots mc ms ls C hH hS h1 h2 h3 hl
  exact lv_astore_n C.1 C.2.1 hd rfl (aLv_has hl) (by rw [← hl.2.1]; exact hi) rfl (fun ls' h' => k p e R s m args below meth c H locs cells slots mc ms ls' C hH hS h1 h2 h3 (aL_set (v := .ref x) hl rfl h'))
theorem aw_astore {i : Nat} {x : Nat} {L' : List Value} (hd : decode Y.2.1 pc = .ok (.astore i, 2)) (hi : i < L.length) (hL : L.set i (.ref x) = L') (hn : pc + 2 = n) (k : aw l K Y d kc ks n L' st E M Q) : aw l K Y d kc ks pc L (.ref x :: st) E M Q := by
  subst hn; subst hL
  intro p e R s m args below meth c H locs cells slots mc ms ls C hH hS h1 h2 h3 hl
  exact lv_astore C.1 C.2.1 hd (aLv_has hl) (by rw [← hl.2.1]; exact hi) rfl (fun ls' h' => k p e R s m args below meth c H locs cells slots mc ms ls' C hH hS h1 h2 h3 (aL_set (v := .ref x) hl rfl h'))
theorem aw_iinc {i : Nat} {z : Int} {x v : Int32} {L' : List Value} (hd : decode Y.2.1 pc = .ok (.iinc i z, 3)) (hx : L[i]? = some (.int x)) (hv : x + Int32.ofInt z = v) (hL : L.set i (.int v) = L') (hn : pc + 3 = n) (k : aw l K Y d kc ks n L' st E M Q) : aw l K Y d kc ks pc L st E M Q := by
  subst hn; subst hL
  intro p e R s m args below meth c H locs cells slots mc ms ls C hH hS h1 h2 h3 hl
  have hm : (i, Value.int x) ∈ aLv K L := aLv_mem (K := K) hx (fun h => by cases h)
  obtain ⟨j, hj⟩ := List.getElem?_of_mem hm
  exact lv_iinc C.1 C.2.1 hd (aLv_has hl) hj hv (by rw [← hl.2.1]; exact (List.getElem?_eq_some_iff.mp hx).1) rfl (fun ls' h' => k p e R s m args below meth c H locs cells slots mc ms ls' C hH hS h1 h2 h3 (aL_set (v := .int v) hl rfl h'))
theorem aw_dup {v : Value} (hd : decode Y.2.1 pc = .ok (.dup, 1)) (hc : v.category = 1) (hn : pc + 1 = n) (k : aw l K Y d kc ks n L (v :: v :: st) E M Q) : aw l K Y d kc ks pc L (v :: st) E M Q := by
  subst hn
  intro p e R s m args below meth c H locs cells slots mc ms ls C hH hS h1 h2 h3 hl
  exact lv_dup C.1 C.2.1 hd (by rw [aRv_cat]; exact hc) (k p e R s m args below meth c H locs cells slots mc ms ls C hH hS h1 h2 h3 hl)
theorem aw_dup_x1 {v w : Value} (hd : decode Y.2.1 pc = .ok (.dup_x1, 1)) (hc : v.category = 1) (hc2 : w.category = 1) (hn : pc + 1 = n) (k : aw l K Y d kc ks n L (v :: w :: v :: st) E M Q) : aw l K Y d kc ks pc L (v :: w :: st) E M Q := by
  subst hn
  intro p e R s m args below meth c H locs cells slots mc ms ls C hH hS h1 h2 h3 hl
  exact lv_dup_x1 C.1 C.2.1 hd (by rw [aRv_cat]; exact hc) (by rw [aRv_cat]; exact hc2) (k p e R s m args below meth c H locs cells slots mc ms ls C hH hS h1 h2 h3 hl)
theorem aw_dup2 {v w : Value} (hd : decode Y.2.1 pc = .ok (.dup2, 1)) (hc : v.category = 1) (hc2 : w.category = 1) (hn : pc + 1 = n) (k : aw l K Y d kc ks n L (v :: w :: v :: w :: st) E M Q) : aw l K Y d kc ks pc L (v :: w :: st) E M Q := by
  subst hn
  intro p e R s m args below meth c H locs cells slots mc ms ls C hH hS h1 h2 h3 hl
  exact lv_dup2_11 C.1 C.2.1 hd (by rw [aRv_cat]; exact hc) (by rw [aRv_cat]; exact hc2) (k p e R s m args below meth c H locs cells slots mc ms ls C hH hS h1 h2 h3 hl)
theorem aw_iadd {x y : Int32} (hd : decode Y.2.1 pc = .ok (.iadd, 1)) (hn : pc + 1 = n) (k : aw l K Y d kc ks n L (.int (x + y) :: st) E M Q) : aw l K Y d kc ks pc L (.int y :: .int x :: st) E M Q := by
  subst hn
  intro p e R s m args below meth c H locs cells slots mc ms ls C hH hS h1 h2 h3 hl
  exact lv_iadd C.1 C.2.1 hd (k p e R s m args below meth c H locs cells slots mc ms ls C hH hS h1 h2 h3 hl)
theorem aw_isub {x y : Int32} (hd : decode Y.2.1 pc = .ok (.isub, 1)) (hn : pc + 1 = n) (k : aw l K Y d kc ks n L (.int (x - y) :: st) E M Q) : aw l K Y d kc ks pc L (.int y :: .int x :: st) E M Q := by
  subst hn
  intro p e R s m args below meth c H locs cells slots mc ms ls C hH hS h1 h2 h3 hl
  exact lv_isub C.1 C.2.1 hd (k p e R s m args below meth c H locs cells slots mc ms ls C hH hS h1 h2 h3 hl)
theorem aw_imul {x y : Int32} (hd : decode Y.2.1 pc = .ok (.imul, 1)) (hn : pc + 1 = n) (k : aw l K Y d kc ks n L (.int (x * y) :: st) E M Q) : aw l K Y d kc ks pc L (.int y :: .int x :: st) E M Q := by
  subst hn
  intro p e R s m args below meth c H locs cells slots mc ms ls C hH hS h1 h2 h3 hl
  exact lv_imul C.1 C.2.1 hd (k p e R s m args below meth c H locs cells slots mc ms ls C hH hS h1 h2 h3 hl)
theorem aw_iand {x y : Int32} (hd : decode Y.2.1 pc = .ok (.iand, 1)) (hn : pc + 1 = n) (k : aw l K Y d kc ks n L (.int (x &&& y) :: st) E M Q) : aw l K Y d kc ks pc L (.int y :: .int x :: st) E M Q := by
  subst hn
  intro p e R s m args below meth c H locs cells slots mc ms ls C hH hS h1 h2 h3 hl
  exact lv_iand C.1 C.2.1 hd (k p e R s m args below meth c H locs cells slots mc ms ls C hH hS h1 h2 h3 hl)
theorem aw_ixor {x y : Int32} (hd : decode Y.2.1 pc = .ok (.ixor, 1)) (hn : pc + 1 = n) (k : aw l K Y d kc ks n L (.int (x ^^^ y) :: st) E M Q) : aw l K Y d kc ks pc L (.int y :: .int x :: st) E M Q := by
  subst hn
  intro p e R s m args below meth c H locs cells slots mc ms ls C hH hS h1 h2 h3 hl
  exact lv_ixor C.1 C.2.1 hd (k p e R s m args below meth c H locs cells slots mc ms ls C hH hS h1 h2 h3 hl)
def aUshr (x y : Int32) : Int32 := (x.toUInt32 >>> (y.toUInt32 &&& Int32.toUInt32 31)).toInt32
theorem aw_iushr {x y : Int32} (hd : decode Y.2.1 pc = .ok (.iushr, 1)) (hn : pc + 1 = n) (k : aw l K Y d kc ks n L (.int (aUshr x y) :: st) E M Q) : aw l K Y d kc ks pc L (.int y :: .int x :: st) E M Q := by
  subst hn
  intro p e R s m args below meth c H locs cells slots mc ms ls C hH hS h1 h2 h3 hl
  exact lv_iushr C.1 C.2.1 hd rfl (k p e R s m args below meth c H locs cells slots mc ms ls C hH hS h1 h2 h3 hl)
theorem aw_ineg {x : Int32} (hd : decode Y.2.1 pc = .ok (.ineg, 1)) (hn : pc + 1 = n) (k : aw l K Y d kc ks n L (.int (-x) :: st) E M Q) : aw l K Y d kc ks pc L (.int x :: st) E M Q := by
  subst hn
  intro p e R s m args below meth c H locs cells slots mc ms ls C hH hS h1 h2 h3 hl
  exact lv_ineg C.1 C.2.1 hd (k p e R s m args below meth c H locs cells slots mc ms ls C hH hS h1 h2 h3 hl)
theorem aw_idiv {x y : Int32} (hd : decode Y.2.1 pc = .ok (.idiv, 1)) (hy : ¬ y = 0) (hn : pc + 1 = n) (k : aw l K Y d kc ks n L (.int (x / y) :: st) E M Q) : aw l K Y d kc ks pc L (.int y :: .int x :: st) E M Q := by
  subst hn
  intro p e R s m args below meth c H locs cells slots mc ms ls C hH hS h1 h2 h3 hl
  exact lv_idiv C.1 C.2.1 hd hy (k p e R s m args below meth c H locs cells slots mc ms ls C hH hS h1 h2 h3 hl)
theorem aw_irem {x y : Int32} (hd : decode Y.2.1 pc = .ok (.irem, 1)) (hy : ¬ y = 0) (hn : pc + 1 = n) (k : aw l K Y d kc ks n L (.int (x - x / y * y) :: st) E M Q) : aw l K Y d kc ks pc L (.int y :: .int x :: st) E M Q := by
  subst hn
  intro p e R s m args below meth c H locs cells slots mc ms ls C hH hS h1 h2 h3 hl
  exact lv_irem C.1 C.2.1 hd hy (k p e R s m args below meth c H locs cells slots mc ms ls C hH hS h1 h2 h3 hl)
theorem aw_goto {off : Int} (hd : decode Y.2.1 pc = .ok (.goto off, 3)) (hn : (pc : Int) + off = (n : Int)) (k : aw l K Y d kc ks n L st E M Q) : aw l K Y d kc ks pc L st E M Q := by
  intro p e R s m args below meth c H locs cells slots mc ms ls C hH hS h1 h2 h3 hl
  exact lv_goto C.1 C.2.1 hd hn (k p e R s m args below meth c H locs cells slots mc ms ls C hH hS h1 h2 h3 hl)
theorem aw_if_eq {x : Int32} {off : Int} {tg : Nat} (hd : decode Y.2.1 pc = .ok (.ifCond .eq off, 3)) (ht : (pc : Int) + off = (tg : Int)) (hn : pc + 3 = n) (kt : x = 0 → aw l K Y d kc ks tg L st E M Q) (kf : ¬ x = 0 → aw l K Y d kc ks n L st E M Q) : aw l K Y d kc ks pc L (.int x :: st) E M Q := by
  subst hn
  intro p e R s m args below meth c H locs cells slots mc ms ls C hH hS h1 h2 h3 hl
  exact lv_if_eq C.1 C.2.1 hd ht (fun h => kt h p e R s m args below meth c H locs cells slots mc ms ls C hH hS h1 h2 h3 hl) (fun h => kf h p e R s m args below meth c H locs cells slots mc ms ls C hH hS h1 h2 h3 hl)
theorem aw_icmp_eq {x y : Int32} {off : Int} {tg : Nat} (hd : decode Y.2.1 pc = .ok (.if_icmp .eq off, 3)) (ht : (pc : Int) + off = (tg : Int)) (hn : pc + 3 = n) (kt : x = y → aw l K Y d kc ks tg L st E M Q) (kf : ¬ x = y → aw l K Y d kc ks n L st E M Q) : aw l K Y d kc ks pc L (.int y :: .int x :: st) E M Q := by
  subst hn
  intro p e R s m args below meth c H locs cells slots mc ms ls C hH hS h1 h2 h3 hl
  exact lv_icmp_eq C.1 C.2.1 hd ht (fun h => kt h p e R s m args below meth c H locs cells slots mc ms ls C hH hS h1 h2 h3 hl) (fun h => kf h p e R s m args below meth c H locs cells slots mc ms ls C hH hS h1 h2 h3 hl)
theorem aw_if_ne {x : Int32} {off : Int} {tg : Nat} (hd : decode Y.2.1 pc = .ok (.ifCond .ne off, 3)) (ht : (pc : Int) + off = (tg : Int)) (hn : pc + 3 = n) (kt : ¬ x = 0 → aw l K Y d kc ks tg L st E M Q) (kf : x = 0 → aw l K Y d kc ks n L st E M Q) : aw l K Y d kc ks pc L (.int x :: st) E M Q := by
  subst hn
  intro p e R s m args below meth c H locs cells slots mc ms ls C hH hS h1 h2 h3 hl
  exact lv_if_ne C.1 C.2.1 hd ht (fun h => kt h p e R s m args below meth c H locs cells slots mc ms ls C hH hS h1 h2 h3 hl) (fun h => kf h p e R s m args below meth c H locs cells slots mc ms ls C hH hS h1 h2 h3 hl)
theorem aw_icmp_ne {x y : Int32} {off : Int} {tg : Nat} (hd : decode Y.2.1 pc = .ok (.if_icmp .ne off, 3)) (ht : (pc : Int) + off = (tg : Int)) (hn : pc + 3 = n) (kt : ¬ x = y → aw l K Y d kc ks tg L st E M Q) (kf : x = y → aw l K Y d kc ks n L st E M Q) : aw l K Y d kc ks pc L (.int y :: .int x :: st) E M Q := by
  subst hn
  intro p e R s m args below meth c H locs cells slots mc ms ls C hH hS h1 h2 h3 hl
  exact lv_icmp_ne C.1 C.2.1 hd ht (fun h => kt h p e R s m args below meth c H locs cells slots mc ms ls C hH hS h1 h2 h3 hl) (fun h => kf h p e R s m args below meth c H locs cells slots mc ms ls C hH hS h1 h2 h3 hl)
theorem aw_if_lt {x : Int32} {off : Int} {tg : Nat} (hd : decode Y.2.1 pc = .ok (.ifCond .lt off, 3)) (ht : (pc : Int) + off = (tg : Int)) (hn : pc + 3 = n) (kt : x < 0 → aw l K Y d kc ks tg L st E M Q) (kf : ¬ x < 0 → aw l K Y d kc ks n L st E M Q) : aw l K Y d kc ks pc L (.int x :: st) E M Q := by
  subst hn
  intro p e R s m args below meth c H locs cells slots mc ms ls C hH hS h1 h2 h3 hl
  exact lv_if_lt C.1 C.2.1 hd ht (fun h => kt h p e R s m args below meth c H locs cells slots mc ms ls C hH hS h1 h2 h3 hl) (fun h => kf h p e R s m args below meth c H locs cells slots mc ms ls C hH hS h1 h2 h3 hl)
theorem aw_icmp_lt {x y : Int32} {off : Int} {tg : Nat} (hd : decode Y.2.1 pc = .ok (.if_icmp .lt off, 3)) (ht : (pc : Int) + off = (tg : Int)) (hn : pc + 3 = n) (kt : x < y → aw l K Y d kc ks tg L st E M Q) (kf : ¬ x < y → aw l K Y d kc ks n L st E M Q) : aw l K Y d kc ks pc L (.int y :: .int x :: st) E M Q := by
  subst hn
  intro p e R s m args below meth c H locs cells slots mc ms ls C hH hS h1 h2 h3 hl
  exact lv_icmp_lt C.1 C.2.1 hd ht (fun h => kt h p e R s m args below meth c H locs cells slots mc ms ls C hH hS h1 h2 h3 hl) (fun h => kf h p e R s m args below meth c H locs cells slots mc ms ls C hH hS h1 h2 h3 hl)
theorem aw_if_ge {x : Int32} {off : Int} {tg : Nat} (hd : decode Y.2.1 pc = .ok (.ifCond .ge off, 3)) (ht : (pc : Int) + off = (tg : Int)) (hn : pc + 3 = n) (kt : 0 ≤ x → aw l K Y d kc ks tg L st E M Q) (kf : ¬ 0 ≤ x → aw l K Y d kc ks n L st E M Q) : aw l K Y d kc ks pc L (.int x :: st) E M Q := by
  subst hn
  intro p e R s m args below meth c H locs cells slots mc ms ls C hH hS h1 h2 h3 hl
  exact lv_if_ge C.1 C.2.1 hd ht (fun h => kt h p e R s m args below meth c H locs cells slots mc ms ls C hH hS h1 h2 h3 hl) (fun h => kf h p e R s m args below meth c H locs cells slots mc ms ls C hH hS h1 h2 h3 hl)
theorem aw_icmp_ge {x y : Int32} {off : Int} {tg : Nat} (hd : decode Y.2.1 pc = .ok (.if_icmp .ge off, 3)) (ht : (pc : Int) + off = (tg : Int)) (hn : pc + 3 = n) (kt : y ≤ x → aw l K Y d kc ks tg L st E M Q) (kf : ¬ y ≤ x → aw l K Y d kc ks n L st E M Q) : aw l K Y d kc ks pc L (.int y :: .int x :: st) E M Q := by
  subst hn
  intro p e R s m args below meth c H locs cells slots mc ms ls C hH hS h1 h2 h3 hl
  exact lv_icmp_ge C.1 C.2.1 hd ht (fun h => kt h p e R s m args below meth c H locs cells slots mc ms ls C hH hS h1 h2 h3 hl) (fun h => kf h p e R s m args below meth c H locs cells slots mc ms ls C hH hS h1 h2 h3 hl)
theorem aw_if_gt {x : Int32} {off : Int} {tg : Nat} (hd : decode Y.2.1 pc = .ok (.ifCond .gt off, 3)) (ht : (pc : Int) + off = (tg : Int)) (hn : pc + 3 = n) (kt : 0 < x → aw l K Y d kc ks tg L st E M Q) (kf : ¬ 0 < x → aw l K Y d kc ks n L st E M Q) : aw l K Y d kc ks pc L (.int x :: st) E M Q := by
  subst hn
  intro p e R s m args below meth c H locs cells slots mc ms ls C hH hS h1 h2 h3 hl
  exact lv_if_gt C.1 C.2.1 hd ht (fun h => kt h p e R s m args below meth c H locs cells slots mc ms ls C hH hS h1 h2 h3 hl) (fun h => kf h p e R s m args below meth c H locs cells slots mc ms ls C hH hS h1 h2 h3 hl)
theorem aw_icmp_gt {x y : Int32} {off : Int} {tg : Nat} (hd : decode Y.2.1 pc = .ok (.if_icmp .gt off, 3)) (ht : (pc : Int) + off = (tg : Int)) (hn : pc + 3 = n) (kt : y < x → aw l K Y d kc ks tg L st E M Q) (kf : ¬ y < x → aw l K Y d kc ks n L st E M Q) : aw l K Y d kc ks pc L (.int y :: .int x :: st) E M Q := by
  subst hn
  intro p e R s m args below meth c H locs cells slots mc ms ls C hH hS h1 h2 h3 hl
  exact lv_icmp_gt C.1 C.2.1 hd ht (fun h => kt h p e R s m args below meth c H locs cells slots mc ms ls C hH hS h1 h2 h3 hl) (fun h => kf h p e R s m args below meth c H locs cells slots mc ms ls C hH hS h1 h2 h3 hl)
theorem aw_if_le {x : Int32} {off : Int} {tg : Nat} (hd : decode Y.2.1 pc = .ok (.ifCond .le off, 3)) (ht : (pc : Int) + off = (tg : Int)) (hn : pc + 3 = n) (kt : x ≤ 0 → aw l K Y d kc ks tg L st E M Q) (kf : ¬ x ≤ 0 → aw l K Y d kc ks n L st E M Q) : aw l K Y d kc ks pc L (.int x :: st) E M Q := by
  subst hn
  intro p e R s m args below meth c H locs cells slots mc ms ls C hH hS h1 h2 h3 hl
  exact lv_if_le C.1 C.2.1 hd ht (fun h => kt h p e R s m args below meth c H locs cells slots mc ms ls C hH hS h1 h2 h3 hl) (fun h => kf h p e R s m args below meth c H locs cells slots mc ms ls C hH hS h1 h2 h3 hl)
theorem aw_icmp_le {x y : Int32} {off : Int} {tg : Nat} (hd : decode Y.2.1 pc = .ok (.if_icmp .le off, 3)) (ht : (pc : Int) + off = (tg : Int)) (hn : pc + 3 = n) (kt : x ≤ y → aw l K Y d kc ks tg L st E M Q) (kf : ¬ x ≤ y → aw l K Y d kc ks n L st E M Q) : aw l K Y d kc ks pc L (.int y :: .int x :: st) E M Q := by
  subst hn
  intro p e R s m args below meth c H locs cells slots mc ms ls C hH hS h1 h2 h3 hl
  exact lv_icmp_le C.1 C.2.1 hd ht (fun h => kt h p e R s m args below meth c H locs cells slots mc ms ls C hH hS h1 h2 h3 hl) (fun h => kf h p e R s m args below meth c H locs cells slots mc ms ls C hH hS h1 h2 h3 hl)
theorem aw_tswIn {x : Int32} {dflt lo hi : Int} {offs : Array Int} {len : Nat} {off : Int} (hd : decode Y.2.1 pc = .ok (.tableswitch dflt lo hi offs, len)) (g1 : ¬ x.toInt < lo) (g2 : ¬ hi < x.toInt) (ho : offs[(x.toInt - lo).toNat]? = some off) (ht : (pc : Int) + off = (n : Int)) (k : aw l K Y d kc ks n L st E M Q) : aw l K Y d kc ks pc L (.int x :: st) E M Q := by
  intro p e R s m args below meth c H locs cells slots mc ms ls C hH hS h1 h2 h3 hl
  exact lv_tableIn C.1 C.2.1 hd g1 g2 ho ht (k p e R s m args below meth c H locs cells slots mc ms ls C hH hS h1 h2 h3 hl)
theorem aw_tswOut {x : Int32} {dflt lo hi : Int} {offs : Array Int} {len : Nat} (hd : decode Y.2.1 pc = .ok (.tableswitch dflt lo hi offs, len)) (g : x.toInt < lo ∨ hi < x.toInt) (ht : (pc : Int) + dflt = (n : Int)) (k : aw l K Y d kc ks n L st E M Q) : aw l K Y d kc ks pc L (.int x :: st) E M Q := by
  intro p e R s m args below meth c H locs cells slots mc ms ls C hH hS h1 h2 h3 hl
  exact lv_tableOut C.1 C.2.1 hd g ht (k p e R s m args below meth c H locs cells slots mc ms ls C hH hS h1 h2 h3 hl)
theorem aw_lsw {x : Int32} {dflt : Int} {ps : Array (Int × Int)} {len : Nat} {off : Int} (hd : decode Y.2.1 pc = .ok (.lookupswitch dflt ps, len)) (hp : (ps.toList.zip (ps.toList.drop 1)).all (fun (a, next) => a.1 < next.1) = true) (ho : Op.lookupswitch.offset ps.toList dflt x.toInt = off) (ht : (pc : Int) + off = (n : Int)) (k : aw l K Y d kc ks n L st E M Q) : aw l K Y d kc ks pc L (.int x :: st) E M Q := by
  intro p e R s m args below meth c H locs cells slots mc ms ls C hH hS h1 h2 h3 hl
  exact lv_lookup C.1 C.2.1 hd hp ho ht (k p e R s m args below meth c H locs cells slots mc ms ls C hH hS h1 h2 h3 hl)
theorem aw_iret {v : Int32} (hd : decode Y.2.1 pc = .ok (.ireturn, 1)) (hr : Y.2.2.2 = some .int) (k : Q (some (.int v)) E M) : aw l K Y d 0 ks pc L [.int v] E M Q := by
  intro p e R s m args below meth c H locs cells slots mc ms ls C hH hS h1 h2 h3 hl
  have e1 : cells = mc := h1
  subst e1
  refine W.widen (k := cells) (n := ms) (Nat.le_refl _) (Nat.le_trans (Nat.le_add_right _ _) h2) ?_
  exact W.iret C.1 C.2.1 (C.2.2.2.1.trans hr) (fun t ht hW => ⟨⟨some (.int v), E, M, rfl, k, by rw [ht]; exact hH, h3⟩, hS.F ht⟩) hS.2.2 hd (hlocks := C.2.2.2.2.1)
theorem aw_zret {v : Int32} (hd : decode Y.2.1 pc = .ok (.ireturn, 1)) (hr : Y.2.2.2 = some .boolean) (hv : v = 0 ∨ v = 1) (k : Q (some (.int v)) E M) : aw l K Y d 0 ks pc L [.int v] E M Q := by
  intro p e R s m args below meth c H locs cells slots mc ms ls C hH hS h1 h2 h3 hl
  have e1 : cells = mc := h1
  subst e1
  refine W.widen (k := cells) (n := ms) (Nat.le_refl _) (Nat.le_trans (Nat.le_add_right _ _) h2) ?_
  exact W.zret C.1 C.2.1 (C.2.2.2.1.trans hr) (by rcases hv with rfl | rfl <;> decide) (fun t ht hW => ⟨⟨some (.int v), E, M, rfl, k, by rw [ht]; exact hH, h3⟩, hS.F ht⟩) hS.2.2 hd (hlocks := C.2.2.2.2.1)
theorem aw_vret (hd : decode Y.2.1 pc = .ok (.return_, 1)) (hr : Y.2.2.2 = none) (k : Q none E M) : aw l K Y d 0 ks pc L [] E M Q := by
  intro p e R s m args below meth c H locs cells slots mc ms ls C hH hS h1 h2 h3 hl
  have e1 : cells = mc := h1
  subst e1
  refine W.widen (k := cells) (n := ms) (Nat.le_refl _) (Nat.le_trans (Nat.le_add_right _ _) h2) ?_
  exact W.vret C.1 C.2.1 (C.2.2.2.1.trans hr) (fun t ht hW => ⟨⟨none, E, M, rfl, k, by rw [ht]; exact hH, h3⟩, hS.F ht⟩) hS.2.2 hd (hlocks := C.2.2.2.2.1)
theorem aw_aret {r : Nat} {rt : FieldType} (hd : decode Y.2.1 pc = .ok (.areturn, 1)) (hr : Y.2.2.2 = some (.array rt)) (k : Q (some (.ref r)) E M) : aw l K Y d 0 ks pc L [.ref r] E M Q := by
  intro p e R s m args below meth c H locs cells slots mc ms ls C hH hS h1 h2 h3 hl
  have e1 : cells = mc := h1
  subst e1
  refine W.widen (k := cells) (n := ms) (Nat.le_refl _) (Nat.le_trans (Nat.le_add_right _ _) h2) ?_
  exact W.aret C.1 C.2.1 (C.2.2.2.1.trans hr) (Or.inr ⟨_, rfl⟩) (Or.inr ⟨_, rfl⟩) (fun t ht hW => ⟨⟨some (.ref r), E, M, rfl, k, by rw [ht]; exact hH, h3⟩, hS.F ht⟩) hS.2.2 hd (hlocks := C.2.2.2.2.1)
def aFd (own : String) (idx ci k : Nat) : Prop := ∃ (C : String) (T : u_T) (N : Nat), vwCl[ci]? = some (C, T, N) ∧ k < N ∧ (∀ w ∈ u_ws C T N, w ∈ aTB) ∧ (Cond.fieldLink own idx (T k).1 (T k).2.1 (T k).2.2.1 ∈ aTB ∨ ∃ host, Cond.fieldLinkNest own idx (T k).1 (T k).2.1 (T k).2.2.1 host ∈ aNT)
def aFp (own : String) (idx ci k : Nat) (fin : Bool) (ty : FieldType) : Prop := ∃ (C : String) (T : u_T) (N : Nat) (ty0 : Nat → FieldType), vwCl[ci]? = some (C, T, N) ∧ k < N ∧ (∀ w ∈ u_ws C T N, w ∈ aTB) ∧ (∀ k, k < N → parseFieldDescriptor (T k).2.2.1 = some (ty0 k)) ∧ (∀ a, a < N → ∀ b, b < N → a ≠ b → (T a).2.1 ≠ (T b).2.1) ∧ (T k).2.2.2 = fin ∧ parseFieldDescriptor (T k).2.2.1 = some ty ∧ ((Cond.fieldLink own idx (T k).1 (T k).2.1 (T k).2.2.1 ∈ aTB ∧ (fin = true → (T k).1 = own)) ∨ (fin = false ∧ ∃ host, Cond.fieldLinkNest own idx (T k).1 (T k).2.1 (T k).2.2.1 host ∈ aNT))
theorem aAd_of {K : aK} {E : aE} {M : aM} {H : Heap} {a : Nat} {c : aC} (h : E[a]? = some c) (hH : aH K E M H) : aAd K a = K.2.2.1 + a := by
  unfold aAd
  rw [if_pos (Nat.lt_trans (List.getElem?_eq_some_iff.mp h).1 hH.2)]
theorem aw_get {idx ci k a : Nat} {fs : List aF} {o : aF} {v : Value} (hd : decode Y.2.1 pc = .ok (.getfield idx, 3)) (hf : aFd Y.1.cls idx ci k) (hE : E[a]? = some (.inl (ci, fs))) (hk : fs[k]? = some o) (hv : aFv K (M a k) o = aRv K v) (hn : pc + 3 = n) (kk : aw l K Y d kc ks n L (v :: st) E M Q) : aw l K Y d kc ks pc L (.ref a :: st) E M Q := by
  subst hn
  intro p e R s m args below meth c H locs cells slots mc ms ls C hH hS h1 h2 h3 hl
  obtain ⟨C0, T, N, hc, hk2, hin, hlink⟩ := hf
  show W p l e R s m args below meth c H locs cells slots _ (F0 m pc ls (.ref (aAd K a) :: st.map (aRv K)))
  rw [aAd_of hE hH]
  have hw := aWd_get (K := K) (M := M) hE
  have hv2 : (fs.mapIdx (fun k o => aFv K (M a k) o))[k]? = some (aRv K v) := by rw [List.getElem?_mapIdx, hk]; exact congrArg some hv
  rcases hlink with hlink | ⟨host, hlink⟩
  · exact va_get C.1 C.2.1 C.2.2.2.2.2.2.2.1 hin C.2.2.2.2.2.2.1 C.2.2.2.2.2.2.2.2.1.1 hH.1 a hw hc k hk2 (C.2.2.2.2.2.2.2.1 _ hlink) (fun _ h => h) hv2 hd (kk p e R s m args below meth c H locs cells slots mc ms ls C hH hS h1 h2 h3 hl)
  · exact va_getN C.1 C.2.1 C.2.2.2.2.2.2.2.1 hin C.2.2.2.2.2.2.1 C.2.2.2.2.2.2.2.2.1.1 hH.1 a hw hc k hk2 (va_Nw.use rfl (C.2.2.2.2.2.2.2.2.1.2.1 _ hlink)) (fun _ h => h) hv2 hd (kk p e R s m args below meth c H locs cells slots mc ms ls C hH hS h1 h2 h3 hl)
theorem aw_geti {idx ci k a : Nat} {fs : List aF} (hd : decode Y.2.1 pc = .ok (.getfield idx, 3)) (hf : aFd Y.1.cls idx ci k) (hE : E[a]? = some (.inl (ci, fs))) (hk : fs[k]? = some none) (hn : pc + 3 = n) (kk : aw l K Y d kc ks n L (.int (M a k) :: st) E M Q) : aw l K Y d kc ks pc L (.ref a :: st) E M Q := aw_get (v := .int (M a k)) hd hf hE hk rfl hn kk
theorem aw_getr {idx ci k a r : Nat} {fs : List aF} (hd : decode Y.2.1 pc = .ok (.getfield idx, 3)) (hf : aFd Y.1.cls idx ci k) (hE : E[a]? = some (.inl (ci, fs))) (hk : fs[k]? = some (some (some r))) (hn : pc + 3 = n) (kk : aw l K Y d kc ks n L (.ref r :: st) E M Q) : aw l K Y d kc ks pc L (.ref a :: st) E M Q := aw_get (v := .ref r) hd hf hE hk rfl hn kk
theorem aFs_set {K : aK} {M : aM} {a k : Nat} {x : Int32} {fs : List aF} (hk : fs[k]? = some none) : (fs.mapIdx (fun j o => aFv K (M a j) o)).set k (.int x) = fs.mapIdx (fun j o => aFv K (up2 M a k x a j) o) := by
  apply List.ext_getElem?
  intro j
  rw [List.getElem?_set, List.getElem?_mapIdx, List.getElem?_mapIdx, List.length_mapIdx]
  by_cases hjk : k = j
  · subst hjk
    rw [if_pos rfl, if_pos (List.getElem?_eq_some_iff.mp hk).1, hk]
    show _ = some (Value.int (up2 M a k x a k))
    rw [up2_s]
  · rw [if_neg hjk]
    cases hj : fs[j]? with
    | none => rfl
    | some o =>
      show some (aFv K (M a j) o) = some (aFv K (up2 M a k x a j) o)
      rw [up2_k M x (fun q => hjk q.symm)]
theorem aw_put {idx ci k a : Nat} {fs : List aF} {x : Int32} {ty : FieldType} (hd : decode Y.2.1 pc = .ok (.putfield idx, 3)) (hf : aFp Y.1.cls idx ci k false ty) (hE : E[a]? = some (.inl (ci, fs))) (hk : fs[k]? = some none) (hnr : narrow ty (.int x) = .int x) (hft : fits ty (.int x) = true) (hn : pc + 3 = n) (kk : aw l K Y d kc ks n L st E (up2 M a k x) Q) : aw l K Y d kc ks pc L (.int x :: .ref a :: st) E M Q := by
  subst hn
  intro p e R s m args below meth c H locs cells slots mc ms ls C hH hS h1 h2 h3 hl
  obtain ⟨C0, T, N, ty0, hc, hk2, hin, hty, hnm, hfin, hds, hlink⟩ := hf
  show W p l e R s m args below meth c H locs cells slots _ (F0 m pc ls (.int x :: .ref (aAd K a) :: st.map (aRv K)))
  rw [aAd_of hE hH]
  have hw := aWd_get (K := K) (M := M) hE
  have hlen : k < (fs.mapIdx (fun j o => aFv K (M a j) o)).length := by rw [List.length_mapIdx]; exact (List.getElem?_eq_some_iff.mp hk).1
  have hset : (aWd K E M).set a (K.2.2.1 + a, .inr (ci, (fs.mapIdx (fun j o => aFv K (M a j) o)).set k (.int x))) = aWd K E (up2 M a k x) :=
    aWd_set hE (by rw [aFs_set hk]; rfl) (fun b hb => up2_ra M x hb)
  rcases hlink with ⟨hlink, -⟩ | ⟨-, host, hlink⟩
  · refine va_put C.1 C.2.1 C.2.2.2.2.2.2.2.1 hin ty0 hty hnm C.2.2.2.2.2.2.1 C.2.2.2.2.2.2.2.2.1.1 hH.1 (aWd_D K E M) hS a hw hc k hk2 (C.2.2.2.2.2.2.2.1 _ hlink) (fun _ h => h) hfin hds hnr hft hlen hd (fun H1 locs1 hP1 hD1 hS1 => ?_)
    exact kk p e R s m args below meth c H1 locs1 cells slots mc ms ls C ⟨hset ▸ hP1, hH.2⟩ hS1 h1 h2 h3 hl
  · refine va_putN C.1 C.2.1 C.2.2.2.2.2.2.2.1 hin ty0 hty hnm C.2.2.2.2.2.2.1 C.2.2.2.2.2.2.2.2.1.1 hH.1 (aWd_D K E M) hS a hw hc k hk2 (va_Nw.use rfl (C.2.2.2.2.2.2.2.2.1.2.1 _ hlink)) (fun _ h => h) hfin hds hnr hft hlen hd (fun H1 locs1 hP1 hD1 hS1 => ?_)
    exact kk p e R s m args below meth c H1 locs1 cells slots mc ms ls C ⟨hset ▸ hP1, hH.2⟩ hS1 h1 h2 h3 hl
theorem aw_puti {idx ci k a : Nat} {fs : List aF} {x : Int32} (hd : decode Y.2.1 pc = .ok (.putfield idx, 3)) (hf : aFp Y.1.cls idx ci k false .int) (hE : E[a]? = some (.inl (ci, fs))) (hk : fs[k]? = some none) (hn : pc + 3 = n) (kk : aw l K Y d kc ks n L st E (up2 M a k x) Q) : aw l K Y d kc ks pc L (.int x :: .ref a :: st) E M Q := aw_put hd hf hE hk rfl rfl hn kk
theorem aw_putz {idx ci k a : Nat} {fs : List aF} {x : Int32} (hd : decode Y.2.1 pc = .ok (.putfield idx, 3)) (hf : aFp Y.1.cls idx ci k false .boolean) (hE : E[a]? = some (.inl (ci, fs))) (hk : fs[k]? = some none) (hx : x = 0 ∨ x = 1) (hn : pc + 3 = n) (kk : aw l K Y d kc ks n L st E (up2 M a k x) Q) : aw l K Y d kc ks pc L (.int x :: .ref a :: st) E M Q := aw_put hd hf hE hk (by rcases hx with rfl | rfl <;> decide) (by rcases hx with rfl | rfl <;> decide) hn kk
end AW
