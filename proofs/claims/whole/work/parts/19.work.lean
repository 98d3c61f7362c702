def cT (cnt : Nat) (T : tm) (M : aM) : Prop := ∀ t, t < cnt → M 3 t = T 0 t ∧ M 4 t = T 1 t ∧ M 5 t = T 2 t ∧ M 6 t = T 3 t ∧ M 7 t = T 4 t
def cI (inp : Nat → vV) (M : aM) : Prop := ∀ i, i < 3 → vAt M (9 + 2 * i) (inp i)
/-- only the steps and the values from a place on have changed -/
def fW (p : Nat) (M M' : aM) : Prop := (∀ q, q ≠ 1 → (q < 16 + 2 * p ∨ 136 ≤ q) → M' q = M q) ∧ ∀ j, j ≠ 3 → M' 1 j = M 1 j
theorem fW_trans {p q : Nat} {M M1 M2 : aM} (h1 : fW p M M1) (h2 : fW q M1 M2) (h : p ≤ q) : fW p M M2 :=
  ⟨fun x g1 g2 => (h2.1 x g1 (by omega)).trans (h1.1 x g1 g2), fun j hj => (h2.2 j hj).trans (h1.2 j hj)⟩
theorem fW_T {p cnt : Nat} {T : tm} {M M' : aM} (h : fW p M M') (hT : cT cnt T M) : cT cnt T M' := by
  intro t ht
  rw [h.1 3 (by omega) (by omega), h.1 4 (by omega) (by omega), h.1 5 (by omega) (by omega), h.1 6 (by omega) (by omega), h.1 7 (by omega) (by omega)]
  exact hT t ht
theorem fW_I {p : Nat} {inp : Nat → vV} {M M' : aM} (h : fW p M M') (hI : cI inp M) : cI inp M' := fun i hi => vAt_same (hI i hi) (h.1 _ (by omega) (by omega)) (h.1 _ (by omega) (by omega))
theorem fW_V {p j : Nat} {v : vV} {M M' : aM} (h : fW p M M') (hj : j < p) (hp : p ≤ 60) (hv : vAt M (16 + 2 * j) v) : vAt M' (16 + 2 * j) v := vAt_same hv (h.1 _ (by omega) (by omega)) (h.1 _ (by omega) (by omega))
theorem op_code {w : Nat} {n : Int32} {inp : Nat → vV} {a b c : vV} {k : Nat} (hw : w ≤ 18) (h : op w n inp a b c = .inl k) : 1 ≤ k ∧ k ≤ 7 := by
  have hW : ∀ (v : vV) (f : Int32 → Nat ⊕ vV), (∀ x, f x = .inl k → 1 ≤ k ∧ k ≤ 7) → bW v f = .inl k → 1 ≤ k ∧ k ≤ 7 := by
    intro v f hf h
    rcases v with _ | x | r
    · cases h; decide
    · exact hf x h
    · cases h; decide
  have hR : ∀ (v : vV) (f : List Int32 → Nat ⊕ vV), (∀ x, f x = .inl k → 1 ≤ k ∧ k ≤ 7) → bR v f = .inl k → 1 ≤ k ∧ k ≤ 7 := by
    intro v f hf h
    rcases v with _ | x | r
    · cases h; decide
    · cases h; decide
    · exact hf r h
  have ht : ∀ b, tru b = .inl k → 1 ≤ k ∧ k ≤ 7 := fun b h => by cases h
  have hI : ∀ v : vV, (Sum.inr v : Nat ⊕ vV) = .inl k → 1 ≤ k ∧ k ≤ 7 := fun v h => by cases h
  have hE : ∀ m : Nat, 1 ≤ m ∧ m ≤ 7 → (Sum.inl m : Nat ⊕ vV) = .inl k → 1 ≤ k ∧ k ≤ 7 := fun m hm h => by cases h; exact hm
  have hif : ∀ (c : Prop) [Decidable c] (x y : Nat ⊕ vV), (x = .inl k → 1 ≤ k ∧ k ≤ 7) → (y = .inl k → 1 ≤ k ∧ k ≤ 7) → (if c then x else y) = .inl k → 1 ≤ k ∧ k ≤ 7 := by
    intro c _ x y hx hy h
    by_cases hc : c
    · rw [if_pos hc] at h; exact hx h
    · rw [if_neg hc] at h; exact hy h
  rcases (show w = 0 ∨ w = 1 ∨ w = 2 ∨ w = 3 ∨ w = 4 ∨ w = 5 ∨ w = 6 ∨ w = 7 ∨ w = 8 ∨ w = 9 ∨ w = 10 ∨ w = 11 ∨ w = 12 ∨ w = 13 ∨ w = 14 ∨ w = 15 ∨ w = 16 ∨ w = 17 ∨ w = 18 by omega) with rfl | rfl | rfl | rfl | rfl | rfl | rfl | rfl | rfl | rfl | rfl | rfl | rfl | rfl | rfl | rfl | rfl | rfl | rfl
  · exact hI _ h
  · exact hI _ h
  · exact hI _ h
  · exact hW _ _ (fun x hx => hW _ _ (fun y hy => hI _ hy) hx) h
  · exact hW _ _ (fun x hx => hW _ _ (fun y hy => hI _ hy) hx) h
  · exact hW _ _ (fun x hx => hW _ _ (fun y hy => hI _ hy) hx) h
  · exact hW _ _ (fun x hx => hW _ _ (fun y hy => hif _ _ _ (hE 5 (by decide)) (hI _) hy) hx) h
  · exact hW _ _ (fun x hx => hW _ _ (fun y hy => hif _ _ _ (hE 5 (by decide)) (hI _) hy) hx) h
  · exact hW _ _ (fun x hx => hW _ _ (fun y hy => ht _ hy) hx) h
  · rcases a with _ | x | r <;> rcases b with _ | y | s <;> first | exact hE 1 (by decide) h | exact hE 4 (by decide) h | exact ht _ h
  · exact hR _ _ (fun x hx => hW _ _ (fun y hy => hif _ _ _ (hE 2 (by decide)) (hI _) hy) hx) h
  · exact hR _ _ (fun x hx => hI _ hx) h
  · exact hW _ _ (fun x hx => hif _ _ _ (hE 3 (by decide)) (hif _ _ _ (hE 6 (by decide)) (hI _)) hx) h
  · exact hR _ _ (fun x hx => hW _ _ (fun y hy => hW _ _ (fun z hz => hif _ _ _ (hE 2 (by decide)) (hI _) hz) hy) hx) h
  · exact hR _ _ (fun x hx => hR _ _ (fun y hy => hif _ _ _ (hE 6 (by decide)) (hI _) hy) hx) h
  · exact hR _ _ (fun x hx => hW _ _ (fun y hy => hW _ _ (fun z hz => hif _ _ _ (hE 3 (by decide)) (hif _ _ _ (hE 6 (by decide)) (hif _ _ _ (hE 2 (by decide)) (hI _))) hz) hy) hx) h
  · exact hR _ _ (fun x hx => hI _ hx) h
  · exact hR _ _ (fun x hx => hI _ hx) h
  · exact hR _ _ (fun x hx => hI _ hx) h
theorem ng_lt {k : Nat} (h : 1 ≤ k ∧ k ≤ 7) : ¬ 0 ≤ -(nI k) := by
  obtain ⟨h1, h2⟩ := h
  rcases (show k = 1 ∨ k = 2 ∨ k = 3 ∨ k = 4 ∨ k = 5 ∨ k = 6 ∨ k = 7 by omega) with rfl | rfl | rfl | rfl | rfl | rfl | rfl <;> decide
section WORK
variable {l : Launch} {K : aK} {d : Nat} {M : aM} {Q : Option Value → aE → aM → Prop}
theorem t_asWholeN {x : Int32} (hx : ¬ 0 ≤ x) (hQ : Q (some (.int x)) EE M) : aw l K mX6_asWhole d 0 0 0 [.ref 1, .int x, .null] [] EE M Q := by
  have e1 := E_1
  have e15 := E_15r
  refine aw_iload_n (n := 1) dX6_asWhole_0 rfl rfl ?_
  refine aw_if_ge (tg := 6) (n := 4) dX6_asWhole_1 (by decide) rfl (fun c_1 => by exact absurd c_1 hx) (fun c_1 => ?_)
  refine aw_iload_n (n := 5) dX6_asWhole_4 rfl rfl ?_
  refine aw_iret dX6_asWhole_5 rfl ?_
  exact hQ
theorem t_asWhole {p : Nat} {v : vV} (hd : 1 ≤ d) (hp : p < 60) (hv : vAt M (16 + 2 * p) v) (h1 : lk 0 v ≠ 0 → Q (some (.int (-(nI (lk 0 v))))) EE M) (h2 : ∀ x, v = some (.inl x) → Q (some (.int (nI p))) EE M) : aw l K mX6_asWhole d 0 0 0 [.ref 1, .int (nI p), .null] [] EE M Q := by
  have e1 := E_1
  have e15 := E_15r
  have hin : vp_in (nI p) rSt.length := vp_in_nI (by exact hp) (by decide)
  have hpp : (nI p).toNatClampNeg = p := nI_clamp (by omega)
  have hr : rSt[(nI p).toNatClampNeg]? = some (some (16 + 2 * p)) := by rw [hpp]; exact rSt_at p hp
  have l1 := lk_lt 0 v
  refine aw_iload_n (n := 1) dX6_asWhole_0 rfl rfl ?_
  refine aw_if_ge (tg := 6) (n := 4) dX6_asWhole_1 (by decide) rfl (fun c_1 => ?_) (fun c_1 => by exact absurd (nI_pos' (by omega)) c_1)
  refine aw_aload_n (n := 7) dX6_asWhole_6 rfl rfl ?_
  refine aw_getr (n := 10) dX6_asWhole_7 fX6_26 (by assumption) rfl rfl ?_
  refine aw_iload_n (n := 11) dX6_asWhole_10 rfl rfl ?_
  refine aw_aald (n := 12) dX6_asWhole_11 (by assumption) (by decide) (by assumption) (by assumption) rfl ?_
  refine aw_iconst (n := 13) (v := 0) dX6_asWhole_12 (by decide) rfl ?_
  refine aw_s2 (d1 := d - 1) (n := 16) (Z := mX6_lookAt) (L0 := [_, _]) dX6_asWhole_13 kX6_lookAt gX6_62 syX6_lookAt rfl rfl (Nat.le_of_ble_eq_true rfl) rfl rfl (by omega) (Nat.le_of_ble_eq_true rfl) (t_lookAt (need := 0) (by decide) (by decide) (iV_st p hp) (fun _ => hv) ?_)
  dsimp only [aPush]
  refine aw_istore_n (n := 17) (L' := [_, _, _]) dX6_asWhole_16 (Nat.le_of_ble_eq_true rfl) rfl rfl ?_
  refine aw_iload_n (n := 18) dX6_asWhole_17 rfl rfl ?_
  refine aw_if_eq (tg := 26) (n := 21) dX6_asWhole_18 (by decide) rfl (fun c_18 => ?_) (fun c_18 => ?_)
  · refine aw_iload_n (n := 27) dX6_asWhole_26 rfl rfl ?_
    refine aw_iret dX6_asWhole_27 rfl ?_
    first
      | (refine h1 (fun q => c_18 (by rw [q]; rfl)))
      | (have h0 := (i4 l1 (by decide : 0 < 5)).mp c_18
         rcases v with _ | x | r
         · exact absurd h0 (by decide)
         · exact h2 x rfl
         · exact absurd h0 (by simp [lk, lk0]))
  · refine aw_iload_n (n := 22) dX6_asWhole_21 rfl rfl ?_
    refine aw_ineg (n := 23) dX6_asWhole_22 rfl ?_
    refine aw_goto (n := 27) dX6_asWhole_23 (by decide) ?_
    refine aw_iret dX6_asWhole_27 rfl ?_
    first
      | (refine h1 (fun q => c_18 (by rw [q]; rfl)))
      | (have h0 := (i4 l1 (by decide : 0 < 5)).mp c_18
         rcases v with _ | x | r
         · exact absurd h0 (by decide)
         · exact h2 x rfl
         · exact absurd h0 (by simp [lk, lk0]))
/-- the end of the work of a term that is no choice -/
theorem t_tail {own pa pb pc t w : Nat} {va vb vc : vV} {n : Int32} {inp : Nat → vV} {x4 x8 : Value} (hd : 6 ≤ d) (hw : w ≤ 18) (ht : t < 60) (hM : M 3 t = nI w) (hN : M 7 t = n) (hn0 : w = 0 → isNo n 3) (hinp : cI inp M) (ho : own < 60) (ha : pa < 60) (hb : pb < 60) (hc : pc < 60)
    (hva : nA w ≠ 4 → vAt M (16 + 2 * pa) va ∧ own < pa) (hvb : nB w ≠ 4 → vAt M (16 + 2 * pb) vb ∧ own < pb) (hvc : nC w ≠ 4 → vAt M (16 + 2 * pc) vc ∧ own < pc)
    (h1 : ∀ k, op w n inp va vb vc = .inl k → Q (some (.int (-(nI k)))) EE M) (h2 : ∀ v M', op w n inp va vb vc = .inr v → vAt M' (16 + 2 * own) v → (∀ q, q ≠ 16 + 2 * own → q ≠ 16 + 2 * own + 1 → M' q = M q) → Q (some (.int (nI own))) EE M') : aw l K mX6_work d 0 0 167 [.ref 1, .int (nI t), .int (nI own), .int (nI w), x4, .int (nI pa), .int (nI pb), .int (nI pc), x8] [] EE M Q := by
  have e1 := E_1
  have e15 := E_15r
  have hino : vp_in (nI own) rSt.length := vp_in_nI (by exact ho) (by decide)
  have hina : vp_in (nI pa) rSt.length := vp_in_nI (by exact ha) (by decide)
  have hinb : vp_in (nI pb) rSt.length := vp_in_nI (by exact hb) (by decide)
  have hinc : vp_in (nI pc) rSt.length := vp_in_nI (by exact hc) (by decide)
  have hro : rSt[(nI own).toNatClampNeg]? = some (some (16 + 2 * own)) := by rw [nI_clamp (by omega)]; exact rSt_at own ho
  have hra : rSt[(nI pa).toNatClampNeg]? = some (some (16 + 2 * pa)) := by rw [nI_clamp (by omega)]; exact rSt_at pa ha
  have hrb : rSt[(nI pb).toNatClampNeg]? = some (some (16 + 2 * pb)) := by rw [nI_clamp (by omega)]; exact rSt_at pb hb
  have hrc : rSt[(nI pc).toNatClampNeg]? = some (some (16 + 2 * pc)) := by rw [nI_clamp (by omega)]; exact rSt_at pc hc
  have l0 : ∀ p q r : Nat, p < 5 → q < 5 → r < 5 → (if p ≠ 0 then p else if q ≠ 0 then q else r) < 5 := by
    intro p q r h1 h2 h3
    split
    · exact h1
    split
    · exact h2
    · exact h3
  have l1 : lkA w va vb vc < 5 := l0 _ _ _ (lk_lt _ _) (lk_lt _ _) (lk_lt _ _)
  refine aw_iload_n (n := 168) dX6_work_167 rfl rfl ?_
  refine aw_aload_n (n := 169) dX6_work_168 rfl rfl ?_
  refine aw_getr (n := 172) dX6_work_169 fX6_26 (by assumption) rfl rfl ?_
  refine aw_iload (n := 174) dX6_work_172 rfl rfl ?_
  refine aw_aald (n := 175) dX6_work_174 (by assumption) (by decide) (by assumption) (by assumption) rfl ?_
  refine aw_aload_n (n := 176) dX6_work_175 rfl rfl ?_
  refine aw_getr (n := 179) dX6_work_176 fX6_26 (by assumption) rfl rfl ?_
  refine aw_iload (n := 181) dX6_work_179 rfl rfl ?_
  refine aw_aald (n := 182) dX6_work_181 (by assumption) (by decide) (by assumption) (by assumption) rfl ?_
  refine aw_aload_n (n := 183) dX6_work_182 rfl rfl ?_
  refine aw_getr (n := 186) dX6_work_183 fX6_26 (by assumption) rfl rfl ?_
  refine aw_iload (n := 188) dX6_work_186 rfl rfl ?_
  refine aw_aald (n := 189) dX6_work_188 (by assumption) (by decide) (by assumption) (by assumption) rfl ?_
  refine aw_s4 (d1 := d - 1) (n := 192) (Z := mX6_lookAtAll) (L0 := [_, _, _, _, .null]) dX6_work_189 kX6_lookAtAll gX6_86 syX6_lookAtAll rfl rfl rfl rfl (Nat.le_of_ble_eq_true rfl) rfl rfl (by omega) (Nat.le_of_ble_eq_true rfl) (t_lookAll (by omega) (by omega) (iV_st pa ha) (iV_st pb hb) (iV_st pc hc) (fun h => (hva h).1) (fun h => (hvb h).1) (fun h => (hvc h).1) ?_)
  dsimp only [aPush]
  refine aw_istore (n := 194) (L' := [_, _, _, _, _, _, _, _, _]) dX6_work_192 (Nat.le_of_ble_eq_true rfl) rfl rfl ?_
  refine aw_iload (n := 196) dX6_work_194 rfl rfl ?_
  refine aw_if_ne (tg := 233) (n := 199) dX6_work_196 (by decide) rfl (fun c_196 => ?_) (fun c_196 => ?_)
  · refine aw_iload (n := 235) dX6_work_233 rfl rfl ?_
    refine aw_if_eq (tg := 244) (n := 238) dX6_work_235 (by decide) rfl (fun c_235 => ?_) (fun c_235 => ?_)
    · refine aw_iload_n (n := 245) dX6_work_244 rfl rfl ?_
      refine aw_iret dX6_work_245 rfl ?_
      first
        | exact absurd c_235 c_196
        | exact h1 _ (op_lk hw n inp va vb vc rfl (fun q => c_196 (by rw [q]; rfl)))
        | exact absurd c_235 (nI_ne0 (op_code hw hk).1 (by have := (op_code hw hk).2; omega))
        | exact h1 _ hk
        | exact h2 _ _ hv h5 h6
        | exact absurd rfl c_235
    · refine aw_iload (n := 240) dX6_work_238 rfl rfl ?_
      refine aw_ineg (n := 241) dX6_work_240 rfl ?_
      refine aw_goto (n := 245) dX6_work_241 (by decide) ?_
      refine aw_iret dX6_work_245 rfl ?_
      first
        | exact absurd c_235 c_196
        | exact h1 _ (op_lk hw n inp va vb vc rfl (fun q => c_196 (by rw [q]; rfl)))
        | exact absurd c_235 (nI_ne0 (op_code hw hk).1 (by have := (op_code hw hk).2; omega))
        | exact h1 _ hk
        | exact h2 _ _ hv h5 h6
        | exact absurd rfl c_235
  · refine aw_aload_n (n := 200) dX6_work_199 rfl rfl ?_
    refine aw_iload_n (n := 201) dX6_work_200 rfl rfl ?_
    refine aw_aload_n (n := 202) dX6_work_201 rfl rfl ?_
    refine aw_getr (n := 205) dX6_work_202 fX6_26 (by assumption) rfl rfl ?_
    refine aw_iload_n (n := 206) dX6_work_205 rfl rfl ?_
    refine aw_aald (n := 207) dX6_work_206 (by assumption) (by decide) (by assumption) (by assumption) rfl ?_
    refine aw_aload_n (n := 208) dX6_work_207 rfl rfl ?_
    refine aw_getr (n := 211) dX6_work_208 fX6_26 (by assumption) rfl rfl ?_
    refine aw_iload (n := 213) dX6_work_211 rfl rfl ?_
    refine aw_aald (n := 214) dX6_work_213 (by assumption) (by decide) (by assumption) (by assumption) rfl ?_
    refine aw_aload_n (n := 215) dX6_work_214 rfl rfl ?_
    refine aw_getr (n := 218) dX6_work_215 fX6_26 (by assumption) rfl rfl ?_
    refine aw_iload (n := 220) dX6_work_218 rfl rfl ?_
    refine aw_aald (n := 221) dX6_work_220 (by assumption) (by decide) (by assumption) (by assumption) rfl ?_
    refine aw_aload_n (n := 222) dX6_work_221 rfl rfl ?_
    refine aw_getr (n := 225) dX6_work_222 fX6_26 (by assumption) rfl rfl ?_
    refine aw_iload (n := 227) dX6_work_225 rfl rfl ?_
    refine aw_aald (n := 228) dX6_work_227 (by assumption) (by decide) (by assumption) (by assumption) rfl ?_
    refine aw_v5 (d1 := d - 1) (n := 231) (Z := mX6_comeTo) (ci := 4) (L0 := [_, _, _, _, _, _, .null]) dX6_work_228 kX6_comeTo gX6_90 iyX6_comeTo eyX6_comeTo rfl rfl (by assumption) rfl rfl rfl rfl rfl (Nat.le_of_ble_eq_true rfl) rfl rfl (by omega) (Nat.le_of_ble_eq_true rfl) (t_comeTo (n := n) (inp := inp) (va := va) (vb := vb) (vc := vc) (by omega) hw ht hM hN hn0 hinp (iV_st own ho) (fun i hi => by omega) (iV_st pa ha) (iV_st pb hb) (iV_st pc hc) (fun h => ⟨(hva h).1, by have := (hva h).2; omega⟩) (fun h => ⟨(hvb h).1, by have := (hvb h).2; omega⟩) (fun h => ⟨(hvc h).1, by have := (hvc h).2; omega⟩) ((i4 l1 (by decide : 0 < 5)).mp c_196) (fun k hk => ?_) (fun v hv M' h5 h6 => ?_))
    · dsimp only [aPush]
      refine aw_istore (n := 233) (L' := [_, _, _, _, _, _, _, _, _]) dX6_work_231 (Nat.le_of_ble_eq_true rfl) rfl rfl ?_
      refine aw_iload (n := 235) dX6_work_233 rfl rfl ?_
      refine aw_if_eq (tg := 244) (n := 238) dX6_work_235 (by decide) rfl (fun c_235 => ?_) (fun c_235 => ?_)
      · refine aw_iload_n (n := 245) dX6_work_244 rfl rfl ?_
        refine aw_iret dX6_work_245 rfl ?_
        first
          | exact absurd c_235 c_196
          | exact h1 _ (op_lk hw n inp va vb vc rfl (fun q => c_196 (by rw [q]; rfl)))
          | exact absurd c_235 (nI_ne0 (op_code hw hk).1 (by have := (op_code hw hk).2; omega))
          | exact h1 _ hk
          | exact h2 _ _ hv h5 h6
          | exact absurd rfl c_235
      · refine aw_iload (n := 240) dX6_work_238 rfl rfl ?_
        refine aw_ineg (n := 241) dX6_work_240 rfl ?_
        refine aw_goto (n := 245) dX6_work_241 (by decide) ?_
        refine aw_iret dX6_work_245 rfl ?_
        first
          | exact absurd c_235 c_196
          | exact h1 _ (op_lk hw n inp va vb vc rfl (fun q => c_196 (by rw [q]; rfl)))
          | exact absurd c_235 (nI_ne0 (op_code hw hk).1 (by have := (op_code hw hk).2; omega))
          | exact h1 _ hk
          | exact h2 _ _ hv h5 h6
          | exact absurd rfl c_235
    · dsimp only [aPush]
      refine aw_istore (n := 233) (L' := [_, _, _, _, _, _, _, _, _]) dX6_work_231 (Nat.le_of_ble_eq_true rfl) rfl rfl ?_
      refine aw_iload (n := 235) dX6_work_233 rfl rfl ?_
      refine aw_if_eq (tg := 244) (n := 238) dX6_work_235 (by decide) rfl (fun c_235 => ?_) (fun c_235 => ?_)
      · refine aw_iload_n (n := 245) dX6_work_244 rfl rfl ?_
        refine aw_iret dX6_work_245 rfl ?_
        first
          | exact absurd c_235 c_196
          | exact h1 _ (op_lk hw n inp va vb vc rfl (fun q => c_196 (by rw [q]; rfl)))
          | exact absurd c_235 (nI_ne0 (op_code hw hk).1 (by have := (op_code hw hk).2; omega))
          | exact h1 _ hk
          | exact h2 _ _ hv h5 h6
          | exact absurd rfl c_235
      · refine aw_iload (n := 240) dX6_work_238 rfl rfl ?_
        refine aw_ineg (n := 241) dX6_work_240 rfl ?_
        refine aw_goto (n := 245) dX6_work_241 (by decide) ?_
        refine aw_iret dX6_work_245 rfl ?_
        first
          | exact absurd c_235 c_196
          | exact h1 _ (op_lk hw n inp va vb vc rfl (fun q => c_196 (by rw [q]; rfl)))
          | exact absurd c_235 (nI_ne0 (op_code hw hk).1 (by have := (op_code hw hk).2; omega))
          | exact h1 _ hk
          | exact h2 _ _ hv h5 h6
          | exact absurd rfl c_235
theorem ev_p0 {T : tm} {inp : Nat → vV} {n r t w : Nat} (hw : T 0 t = nI w) (hl : w ≤ 18) (hp : pts w = 0) : ev T inp (n + 1) (r + 1) t = (r, op w (T 4 t) inp none none none) := by
  have hc : (T 0 t).toNatClampNeg = w := by rw [hw]; exact nI_clamp (by omega)
  rw [ev, hc, if_neg (by omega), if_neg (by omega), if_pos hp]
theorem ev_p1 {T : tm} {inp : Nat → vV} {n r t w a : Nat} (hw : T 0 t = nI w) (hl : w ≤ 18) (hp : pts w = 1) (ha : T 1 t = nI a) (ha6 : a < 60) : ev T inp (n + 1) (r + 1) t = eB (ev T inp n r a) fun r1 v => (r1, op w (T 4 t) inp v none none) := by
  have hc : (T 0 t).toNatClampNeg = w := by rw [hw]; exact nI_clamp (by omega)
  have hca : (T 1 t).toNatClampNeg = a := by rw [ha]; exact nI_clamp (by omega)
  rw [ev, hc, hca, if_neg (by omega), if_neg (by omega), if_neg (by omega)]
  congr 1
  funext r1 v
  rw [if_pos hp]
theorem ev_p2 {T : tm} {inp : Nat → vV} {n r t w a b : Nat} (hw : T 0 t = nI w) (hl : w ≤ 18) (hp : pts w = 2) (ha : T 1 t = nI a) (ha6 : a < 60) (hb : T 2 t = nI b) (hb6 : b < 60) : ev T inp (n + 1) (r + 1) t = eB (ev T inp n r a) fun r1 v => eB (ev T inp n r1 b) fun r2 u => (r2, op w (T 4 t) inp v u none) := by
  have hc : (T 0 t).toNatClampNeg = w := by rw [hw]; exact nI_clamp (by omega)
  have hca : (T 1 t).toNatClampNeg = a := by rw [ha]; exact nI_clamp (by omega)
  have hcb : (T 2 t).toNatClampNeg = b := by rw [hb]; exact nI_clamp (by omega)
  rw [ev, hc, hca, hcb, if_neg (by omega), if_neg (by omega), if_neg (by omega)]
  congr 1
  funext r1 v
  rw [if_neg (by omega)]
  congr 1
  funext r2 u
  rw [if_pos hp]
theorem ev_p3 {T : tm} {inp : Nat → vV} {n r t w a b c : Nat} (hw : T 0 t = nI w) (hl : w ≤ 18) (hp : pts w = 3) (ha : T 1 t = nI a) (ha6 : a < 60) (hb : T 2 t = nI b) (hb6 : b < 60) (hc : T 3 t = nI c) (hc6 : c < 60) : ev T inp (n + 1) (r + 1) t = eB (ev T inp n r a) fun r1 v => eB (ev T inp n r1 b) fun r2 u => eB (ev T inp n r2 c) fun r3 z => (r3, op w (T 4 t) inp v u z) := by
  have hcw : (T 0 t).toNatClampNeg = w := by rw [hw]; exact nI_clamp (by omega)
  have hca : (T 1 t).toNatClampNeg = a := by rw [ha]; exact nI_clamp (by omega)
  have hcb : (T 2 t).toNatClampNeg = b := by rw [hb]; exact nI_clamp (by omega)
  have hcc : (T 3 t).toNatClampNeg = c := by rw [hc]; exact nI_clamp (by omega)
  rw [ev, hcw, hca, hcb, hcc, if_neg (by omega), if_neg (by omega), if_neg (by omega)]
  congr 1
  funext r1 v
  rw [if_neg (by omega)]
  congr 1
  funext r2 u
  rw [if_neg (by omega)]
theorem ev_19 {T : tm} {inp : Nat → vV} {n r t a b c : Nat} (hw : T 0 t = nI 19) (ha : T 1 t = nI a) (ha6 : a < 60) (hb : T 2 t = nI b) (hb6 : b < 60) (hc : T 3 t = nI c) (hc6 : c < 60) : ev T inp (n + 1) (r + 1) t = eB (ev T inp n r a) fun r1 v => eW r1 v fun x => if x = 0 then ev T inp n r1 c else ev T inp n r1 b := by
  have hcw : (T 0 t).toNatClampNeg = 19 := by rw [hw]; exact nI_clamp (by omega)
  have hca : (T 1 t).toNatClampNeg = a := by rw [ha]; exact nI_clamp (by omega)
  have hcb : (T 2 t).toNatClampNeg = b := by rw [hb]; exact nI_clamp (by omega)
  have hcc : (T 3 t).toNatClampNeg = c := by rw [hc]; exact nI_clamp (by omega)
  rw [ev, hcw, hca, hcb, hcc, if_pos rfl]
theorem ev_20 {T : tm} {inp : Nat → vV} {n r t a b : Nat} (hw : T 0 t = nI 20) (ha : T 1 t = nI a) (ha6 : a < 60) (hb : T 2 t = nI b) (hb6 : b < 60) : ev T inp (n + 1) (r + 1) t = eB (ev T inp n r a) fun r1 v => eW r1 v fun x => if x = 0 then (r1, .inr (some (.inl 0))) else eB (ev T inp n r1 b) fun r2 v2 => eW r2 v2 fun y => (r2, .inr (some (.inl (if y = 0 then 0 else 1)))) := by
  have hcw : (T 0 t).toNatClampNeg = 20 := by rw [hw]; exact nI_clamp (by omega)
  have hca : (T 1 t).toNatClampNeg = a := by rw [ha]; exact nI_clamp (by omega)
  have hcb : (T 2 t).toNatClampNeg = b := by rw [hb]; exact nI_clamp (by omega)
  rw [ev, hcw, hca, hcb, if_neg (by decide), if_pos rfl]
end WORK
