/-! a value: nothing, a whole, a row -/
abbrev vV : Type := Option (Int32 ⊕ List Int32)
def vAt (M : aM) (a : Nat) : vV → Prop
  | none => M a 0 = -1 ∧ M a 2 = 0
  | some (.inl x) => M a 0 = 0 ∧ M a 1 = x ∧ M a 2 = 0
  | some (.inr r) => M a 0 = 1 ∧ r.length ≤ 16 ∧ M a 2 = nI r.length ∧ ∀ k, k < r.length → M (a + 1) k = r.getD k 0
def same (M M' : aM) (S : Nat → Prop) : Prop := ∀ b, ¬ S b → M' b = M b
theorem vAt_same {M M' : aM} {a : Nat} {v : vV} (h : vAt M a v) (h1 : M' a = M a) (h2 : M' (a + 1) = M (a + 1)) : vAt M' a v := by
  unfold vAt at *
  rcases v with _ | x | r
  · simpa only [h1] using h
  · simpa only [h1] using h
  · simpa only [h1, h2] using h
section VAL
variable {l : Launch} {K : aK} {d : Nat} {M : aM} {Q : Option Value → aE → aM → Prop}
theorem t_setNothing {a : Nat} (hva : iV a) (hQ : ∀ M', vAt M' a none → (∀ b, b ≠ a → M' b = M b) → Q none EE M') : aw l K mX5_setNothing d 0 0 0 [.ref a] [] EE M Q := by
  obtain ⟨hva, hvb⟩ := hva
  refine aw_aload_n (n := 1) dX5_setNothing_0 rfl rfl ?_
  refine aw_iconst (n := 2) (v := -1) dX5_setNothing_1 (by decide) rfl ?_
  refine aw_puti (n := 5) dX5_setNothing_2 pX5_9 (by assumption) rfl rfl ?_
  refine aw_aload_n (n := 6) dX5_setNothing_5 rfl rfl ?_
  refine aw_iconst (n := 7) (v := 0) dX5_setNothing_6 (by decide) rfl ?_
  refine aw_puti (n := 10) dX5_setNothing_7 pX5_18 (by assumption) rfl rfl ?_
  refine aw_vret dX5_setNothing_10 rfl ?_
  refine hQ _ ⟨?_, ?_⟩ (fun b hb => ?_)
  · simp [up2]
  · simp [up2]
  · funext j; simp [up2, hb]
theorem t_setWhole {a : Nat} {x : Int32} (hva : iV a) (hQ : ∀ M', vAt M' a (some (.inl x)) → (∀ b, b ≠ a → M' b = M b) → Q none EE M') : aw l K mX5_setWhole d 0 0 0 [.ref a, .int x] [] EE M Q := by
  obtain ⟨hva, hvb⟩ := hva
  refine aw_aload_n (n := 1) dX5_setWhole_0 rfl rfl ?_
  refine aw_iconst (n := 2) (v := 0) dX5_setWhole_1 (by decide) rfl ?_
  refine aw_puti (n := 5) dX5_setWhole_2 pX5_9 (by assumption) rfl rfl ?_
  refine aw_aload_n (n := 6) dX5_setWhole_5 rfl rfl ?_
  refine aw_iload_n (n := 7) dX5_setWhole_6 rfl rfl ?_
  refine aw_puti (n := 10) dX5_setWhole_7 pX5_15 (by assumption) rfl rfl ?_
  refine aw_aload_n (n := 11) dX5_setWhole_10 rfl rfl ?_
  refine aw_iconst (n := 12) (v := 0) dX5_setWhole_11 (by decide) rfl ?_
  refine aw_puti (n := 15) dX5_setWhole_12 pX5_18 (by assumption) rfl rfl ?_
  refine aw_vret dX5_setWhole_15 rfl ?_
  refine hQ _ ⟨?_, ?_, ?_⟩ (fun b hb => ?_)
  · simp [up2]
  · simp [up2]
  · simp [up2]
  · funext j; simp [up2, hb]
theorem t_setRow {a : Nat} {x : Int32} (hva : iV a) (hQ : ∀ M', M' a 0 = 1 → M' a 2 = x → (∀ b, b ≠ a → M' b = M b) → Q none EE M') : aw l K mX5_setRow d 0 0 0 [.ref a, .int x] [] EE M Q := by
  obtain ⟨hva, hvb⟩ := hva
  refine aw_aload_n (n := 1) dX5_setRow_0 rfl rfl ?_
  refine aw_iconst (n := 2) (v := 1) dX5_setRow_1 (by decide) rfl ?_
  refine aw_puti (n := 5) dX5_setRow_2 pX5_9 (by assumption) rfl rfl ?_
  refine aw_aload_n (n := 6) dX5_setRow_5 rfl rfl ?_
  refine aw_iload_n (n := 7) dX5_setRow_6 rfl rfl ?_
  refine aw_puti (n := 10) dX5_setRow_7 pX5_18 (by assumption) rfl rfl ?_
  refine aw_vret dX5_setRow_10 rfl ?_
  refine hQ _ ?_ ?_ (fun b hb => ?_)
  · simp [up2]
  · simp [up2]
  · funext j; simp [up2, hb]
end VAL
