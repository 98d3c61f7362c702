/-! the start: what the Statement gives, as the machine's picture wants it -/
def stT : List Cond := flatC (Jvm.Cond.and given_1 narrow_1)
set_option maxRecDepth 100000 in
theorem st_el : ∀ k, k < 4 → ∀ j, j < 21 → Cond.eq (.elem (.static (aSn k).1 (aSn k).2 "[I") (.int (Int32.ofNat j))) (.int (aTab k j)) ∈ stT := by decide +kernel
set_option maxRecDepth 100000 in
theorem st_len : ∀ k, k < 4 → Cond.eq (.length (.static (aSn k).1 (aSn k).2 "[I")) (.int (Int32.ofNat 21)) ∈ stT := by decide +kernel
set_option maxRecDepth 100000 in
theorem st_arr : ∀ k, k < 4 → Cond.arrayOf (.static (aSn k).1 (aSn k).2 "[I") .int ∈ stT := by decide +kernel
set_option maxRecDepth 100000 in
theorem st_lay : ∀ k, k < 4 → Cond.laysStatic (aSn k).1 (aSn k).2 "[I" ∈ lw_tbl := by decide +kernel
set_option maxRecDepth 100000 in
theorem st_ini : ∀ k, k < 4 → Cond.initialized (aSn k).1 ∈ lw_tbl := by decide +kernel
set_option maxRecDepth 100000 in
theorem st_in0 : Cond.instantiable RX1 5 ∈ lw_tbl := by decide +kernel
set_option maxRecDepth 100000 in
theorem st_in1 : Cond.instantiable RX3 9 ∈ lw_tbl := by decide +kernel
set_option maxRecDepth 100000 in
theorem st_in2 : Cond.instantiable RX4 6 ∈ lw_tbl := by decide +kernel
set_option maxRecDepth 100000 in
theorem st_in3 : Cond.instantiable RX5 4 ∈ lw_tbl := by decide +kernel
set_option maxRecDepth 100000 in
theorem st_in4 : Cond.instantiable RX6 5 ∈ lw_tbl := by decide +kernel
set_option maxRecDepth 100000 in
theorem st_in5 : Cond.instantiable RX7 9 ∈ lw_tbl := by decide +kernel
set_option maxRecDepth 100000 in
theorem st_in6 : Cond.instantiable RX8 45 ∈ lw_tbl := by decide +kernel
set_option maxRecDepth 100000 in
theorem st_ai : Cond.arrayClass .int ∈ lw_tbl := by decide +kernel
set_option maxRecDepth 100000 in
theorem st_a5 : Cond.arrayOver (.object RX5) ∈ lw_tbl := by decide +kernel
set_option maxRecDepth 100000 in
theorem st_a1 : Cond.arrayOver (.object RX1) ∈ lw_tbl := by decide +kernel
theorem nI_enc (x : Int32) : ∃ n, nI n = x := ⟨x.toBitVec.toNat, by
  show Int32.ofNat x.toBitVec.toNat = x
  rw [← Int32.toBitVec_inj, Int32.toBitVec_ofNat', BitVec.ofNat_toNat, BitVec.setWidth_eq]⟩
theorem start_K {s : State} {b L : Nat} {xs : Nat → Int32} (hts : ∀ w ∈ lw_tbl, w.before #[Value.ref b] s = true) (hX : va_X b L xs s s.heap) (hbl : b < s.heap.size) (hgv : (Jvm.Cond.and given_1 narrow_1).before #[Value.ref b] s = true) : ∃ K : aK, K.2.2.1 = s.heap.size ∧ K.2.2.2 4 = b ∧ K.2.2.2 5 = L ∧ aV K s := by
  have hst : ∀ w ∈ stT, w.before #[Value.ref b] s = true := flat_of_before _ hgv
  have htB : ∀ w ∈ aTB, w.before #[Value.ref b] s = true := fun w hw => hts w (List.mem_filter.mp hw).1
  have hAn : ∀ a : Nat, a < s.heap.size → ¬ (fun q : Nat => s.heap.size ≤ q) a := fun a h => Nat.not_le.mpr h
  obtain ⟨c0, i0, k0⟩ := u_known (C := RX1) (T := TX1) (N := 5) (n := 5) htB uX1 (hts _ st_in0)
  obtain ⟨c1, i1, k1⟩ := u_known (C := RX3) (T := TX3) (N := 9) (n := 9) htB uX3 (hts _ st_in1)
  obtain ⟨c2, i2, k2⟩ := u_known (C := RX4) (T := TX4) (N := 6) (n := 6) htB uX4 (hts _ st_in2)
  obtain ⟨c3, i3, k3⟩ := u_known (C := RX5) (T := TX5) (N := 4) (n := 4) htB uX5 (hts _ st_in3)
  obtain ⟨c4, i4, k4⟩ := u_known (C := RX6) (T := TX6) (N := 5) (n := 5) htB uX6 (hts _ st_in4)
  obtain ⟨c5, i5, k5⟩ := u_known (C := RX7) (T := TX7) (N := 9) (n := 9) htB uX7 (hts _ st_in5)
  obtain ⟨c6, i6, k6⟩ := u_known (C := RX8) (T := TX8) (N := 45) (n := 45) htB uX8 (hts _ st_in6)
  obtain ⟨a0, x0, m0, p0, p1, p2⟩ := Cond.arrayClass_spec (hts _ st_ai)
  obtain ⟨m1, a1, x1, q1, q2, q3, q4, q5⟩ := Cond.arrayOver_spec (hts _ st_a5)
  obtain ⟨m2, a2, x2, r1, r2, r3, r4, r5⟩ := Cond.arrayOver_spec (hts _ st_a1)
  have hT : ∀ k, ∃ t : Nat, k < 4 → (Term.static (aSn k).1 (aSn k).2 "[I").eval #[Value.ref b] s none [] s = some (.ref t) ∧ va_T .int t 21 (fun j => .int (aTab k j)) (fun q : Nat => s.heap.size ≤ q) s s.heap := by
    intro k
    by_cases hk : k < 4
    · obtain ⟨t, h1, h2⟩ := va_Tof (N := 21) (f := fun j => .int (aTab k j)) (A := fun q : Nat => s.heap.size ≤ q) (by decide) (hst _ (st_arr k hk)) (va_eqt (hst _ (st_len k hk))) (fun j hj => va_eqt (hst _ (st_el k hk j hj))) hAn
      exact ⟨t, fun _ => ⟨h1, h2⟩⟩
    · exact ⟨0, fun h => absurd h hk⟩
  obtain ⟨tt, htt⟩ : ∃ tt : Nat → Nat, ∀ k, k < 4 → (Term.static (aSn k).1 (aSn k).2 "[I").eval #[Value.ref b] s none [] s = some (.ref (tt k)) ∧ va_T .int (tt k) 21 (fun j => .int (aTab k j)) (fun q : Nat => s.heap.size ≤ q) s s.heap := ⟨fun k => Classical.choose (hT k), fun k => Classical.choose_spec (hT k)⟩
  obtain ⟨en, hen⟩ : ∃ en : Nat → Nat, ∀ j, nI (en j) = xs j := ⟨fun j => Classical.choose (nI_enc (xs j)), fun j => Classical.choose_spec (nI_enc (xs j))⟩
  refine ⟨((fun k => if k = 0 then c0 else if k = 1 then c1 else if k = 2 then c2 else if k = 3 then c3 else if k = 4 then c4 else if k = 5 then c5 else c6, fun k => if k = 0 then i0 else if k = 1 then i1 else if k = 2 then i2 else if k = 3 then i3 else if k = 4 then i4 else if k = 5 then i5 else i6), fun k => if k = 0 then a0 else if k = 1 then a1 else a2, s.heap.size, fun k => if k < 4 then tt k else if k = 4 then b else if k = 5 then L else en (k - 6)), rfl, rfl, rfl, ⟨⟨?_, ?_⟩, ?_, ?_, ?_, ?_, ?_, ?_⟩⟩
  · intro k q hq
    match k, hq with
    | 0, hq => cases hq; exact k0
    | 1, hq => cases hq; exact k1
    | 2, hq => cases hq; exact k2
    | 3, hq => cases hq; exact k3
    | 4, hq => cases hq; exact k4
    | 5, hq => cases hq; exact k5
    | 6, hq => cases hq; exact k6
    | k + 7, hq => simp at hq
  · intro k q hq
    match k, hq with
    | 0, hq => cases hq; exact ⟨fun n z => ⟨fun k h => (by cases h), x0, p1, m0, p2⟩, p0⟩
    | 1, hq => cases hq; exact ⟨fun n z => ⟨fun k h => (by cases h), x1, q3, m1, q4⟩, ⟨x1, m1, q3, q4, q1, q5⟩⟩
    | 2, hq => cases hq; exact ⟨fun n z => ⟨fun k h => (by cases h), x2, r3, m2, r4⟩, ⟨x2, m2, r3, r4, r1, r5⟩⟩
    | k + 3, hq => simp [aTy] at hq
  · intro w hw
    obtain ⟨h5, h6⟩ := List.mem_filter.mp hw
    have h7 : w.before #[Value.ref b] s = true := hts w (List.mem_append_right _ h5)
    exact va_Nw.of (by cases w <;> first | (simp [aNest] at h6; done) | rfl) h7
  · exact va_AO.of (hts _ st_a5)
  · exact va_AO.of (hts _ st_a1)
  · intro k hk
    have e : (if k < 4 then tt k else if k = 4 then b else if k = 5 then L else en (k - 6)) = tt k := if_pos hk
    show va_Z (aSn k).1 (aSn k).2 "[I" (.ref (if k < 4 then tt k else if k = 4 then b else if k = 5 then L else en (k - 6))) (fun q : Nat => s.heap.size ≤ q) s s.heap ∧ va_T .int (if k < 4 then tt k else if k = 4 then b else if k = 5 then L else en (k - 6)) 21 (fun j => .int (aTab k j)) (fun q : Nat => s.heap.size ≤ q) s s.heap
    rw [e]
    exact ⟨va_Zof (hts _ (st_lay k hk)) (hts _ (st_ini k hk)) (htt k hk).1 hAn, (htt k hk).2⟩
  · show va_X b L (fun j => nI (if 6 + j < 4 then tt (6 + j) else if 6 + j = 4 then b else if 6 + j = 5 then L else en (6 + j - 6))) s s.heap
    have e : (fun j => nI (if 6 + j < 4 then tt (6 + j) else if 6 + j = 4 then b else if 6 + j = 5 then L else en (6 + j - 6))) = xs := by
      funext j
      rw [if_neg (by omega), if_neg (by omega), if_neg (by omega), show 6 + j - 6 = j by omega]
      exact hen j
    rw [e]
    exact hX
  · exact hbl
theorem end_F {s t : State} {o : Outcome} {Lc : List Loc} {k n k' n' : Nat} (h : FrameEnd s o t Lc k n) (hL : ∀ q ∈ Lc, s.heap.size ≤ q.base) (hk : k ≤ k') (hn : n ≤ n') : Framed s o t [] k' n' := by
  obtain ⟨h1, h2, h3⟩ := h
  obtain ⟨g1, g2, g3, g4, g5, g6⟩ := h3
  refine ⟨h1, h2, g1, g2, Nat.le_trans g3 (Nat.add_le_add_left hk _), g4, Nat.le_trans g5 hn, fun a c hc => ?_⟩
  obtain ⟨c', f1, f2, f3, f4⟩ := g6 a c hc
  have ha : a < s.heap.size := (Array.getElem?_eq_some_iff.mp hc).1
  exact ⟨c', f1, f2, f3, fun i _ => f4 i (fun q => absurd (hL _ q) (Nat.not_le.mpr ha))⟩
/-- YOUR PART: from the entry, for every script of at most 4096 ints, the law comes to its end with true -/
theorem whole_start {p : Program} {e : Env} {s : State} {m : MethodId} {below : List Frame} {meth : Method} {c : Code} (l : Launch) {b L : Nat} {xs : Nat → Int32} (hL : L ≤ 4096) (C0 : lw_At p s m meth c b L xs) : W p l e room_1 s m #[Value.ref b] below meth c s.heap [] 0 0 (lw_Z below #[Value.ref b] s) (entryFrame m ([Value.ref b] : List Value).toArray 4) := by
  obtain ⟨hx, hb, hr, hml, hown, hts, hX, hbl, hlocks, hgv⟩ := id C0
  obtain ⟨K, hK1, hK4, hK5, hV⟩ := start_K hts hX hbl hgv
  have hA := law_all (l := l) (K := K) (d := 200) (nm := meth.name) (M := fun _ _ => 0) (Q := fun v _ _ => v = some (.int 1)) (by decide) (by rw [hK5]; exact hL) (fun _ => rfl)
  have hl := lv_entry ([.ref b]) (n := 4) (Nat.le_of_ble_eq_true rfl)
  rw [lg_entry_eq]
  generalize (lg_sl ([.ref b]) ++ List.replicate (4 - (lg_sl ([.ref b])).length) Slot.unset).toArray = ls at hl ⊢
  have hl : lv_has ls 4 [(0, .ref b)] := hl
  have hw := hA p e room_1 s m #[Value.ref b] below meth c s.heap [] 0 0 190 4061 ls
    ⟨hx, hb, hml, hr, hlocks, rfl, hown, fun w hw => hts w (List.mem_filter.mp hw).1, hV, by decide, by decide, by decide, by decide, by rw [hK1]; exact Nat.le_refl _⟩
    ⟨fun k q h => by simp [aWd] at h, by decide⟩ va_S.rf rfl (by decide) (by rw [hK1]; rfl)
    ⟨hl.1, rfl, ⟨hl.2.1, fun w hw => by simp at hw; rcases hw with rfl | rfl <;> rfl⟩, fun i v hi hv => by
      match i, hi with
      | 0, hi =>
        cases hi
        show ls[0]? = some (.val (.ref (aAd K (1000000 + 4))))
        rw [aAd_t, hK4]
        exact lv_at hl 0 rfl
      | 1, hi => cases hi; exact absurd rfl hv
      | 2, hi => cases hi; exact absurd rfl hv
      | 3, hi => cases hi; exact absurd rfl hv
      | i + 4, hi => simp at hi⟩
  intro T hT X
  obtain ⟨t, z1, o, b1, b2, ⟨⟨v, E', M', y1, y2, -, -⟩, -⟩, Lc, hF, hfree⟩ := hw T hT X
  subst y2
  exact ⟨t, z1, o, b1, b2, y1, end_F hF (fun q hq => by have := hfree q hq; unfold aA at this; rw [hK1] at this; exact this) (by decide) (by decide)⟩
