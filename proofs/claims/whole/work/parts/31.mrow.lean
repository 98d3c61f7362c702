theorem up2_up2 (M : aM) (a k : Nat) (x y : Int32) : up2 (up2 M a k x) a k y = up2 M a k y := by
  funext b j; unfold up2; split <;> rfl
theorem up2_id {M : aM} {a k : Nat} {x : Int32} (h : M a k = x) : up2 M a k x = M := by
  funext b j; unfold up2
  by_cases hb : b = a ∧ j = k
  · rw [if_pos hb, hb.1, hb.2, h]
  · rw [if_neg hb]
theorem up2_self (M : aM) (a k : Nat) : up2 M a k (M a k) = M := up2_id rfl
section MROW
variable {l : Launch} {K : aK} {d : Nat} {M : aM} {Q : Option Value → aE → aM → Prop}
/-- the last loop: the order goes to the store -/
theorem m_fill3 {mk sz : Nat} {M0 : aM} {G : Nat → Int32} {x1 x2 x3 x4 x5 x6 x8 x10 x11 x12 : Value} (hmk : mk < 60) (hs : sz ≤ 16) (hf : fE mk M0 M) (h17 : M 164 17 = 1) (h18 : M 164 18 = nI sz) (h19 : M 164 19 = nI (3 + mk)) (h20 : M 164 20 = 0) (h22 : M 164 22 = nI (mk + 1)) (hG : ∀ k, k < sz → M 179 k = G k) (hQ : eQ mk M0 (.inr (some (.inr (lR sz G)))) Q) : aw l K mX8_rowOf d 0 0 316 [.ref 164, x1, x2, x3, x4, x5, x6, .int (nI sz), x8, .int (nI (16 * (3 + mk))), x10, x11, x12] [] EE M Q := by
  have e164 := E_164
  have e178 := E_178
  have e179 := E_179
  have loop : ∀ m k Mk, m + k = sz → (∀ q, q ≠ 178 → Mk q = M q) → (∀ j, j < 16 * (3 + mk) → Mk 178 j = M 178 j) → (∀ j, j < k → Mk 178 (16 * (3 + mk) + j) = G j) → aw l K mX8_rowOf d 0 0 319 [.ref 164, x1, x2, x3, x4, x5, x6, .int (nI sz), x8, .int (nI (16 * (3 + mk))), .int (nI k), x11, x12] [] EE Mk Q := by
    intro m
    induction m with
    | zero =>
      intro k Mk hk h1 h2 h3
      refine aw_iload (n := 321) dX8_rowOf_319 rfl rfl ?_
      refine aw_iload (n := 323) dX8_rowOf_321 rfl rfl ?_
      refine aw_icmp_ge (tg := 349) (n := 326) dX8_rowOf_323 (by decide) rfl (fun c_323 => ?_) (fun c_323 => by exact absurd (nI_le (by omega) (by omega)) c_323)
      refine aw_vret dX8_rowOf_349 rfl ?_
      refine hQ.2 _ (mk + 1) Mk rfl ?_ ?_ (by omega) (by omega) ?_ ?_
      · rw [h1 164 (by decide)]; exact h20
      · rw [h1 164 (by decide)]; exact h22
      · unfold rV
        rw [h1 164 (by decide)]
        refine ⟨h17, by rw [len_lR]; exact hs, by rw [len_lR]; exact h18, 3 + mk, by omega, h19, fun j hj => ?_⟩
        rw [len_lR] at hj
        rw [getD_lR _ _ _ hj]; exact h3 j (by omega)
      · exact ⟨fun q a b c => by rw [h1 q b]; exact hf.1 q a b c, fun j a b c e g => by rw [h1 164 (by decide)]; exact hf.2.1 j a b c e g, fun j hj => by rw [h2 j hj]; exact hf.2.2 j hj⟩
    | succ m ih =>
      intro k Mk hk h1 h2 h3
      have hin : vp_in (nI k) 16 := vp_in_nI (by omega) (by decide)
      have hin2 : vp_in (nI (16 * (3 + mk) + k)) 1024 := vp_in_nI (by omega) (by decide)
      have hkk : (nI k).toNatClampNeg = k := nI_clamp (by omega)
      have hk2 : (nI (16 * (3 + mk) + k)).toNatClampNeg = 16 * (3 + mk) + k := nI_clamp (by omega)
      refine aw_iload (n := 321) dX8_rowOf_319 rfl rfl ?_
      refine aw_iload (n := 323) dX8_rowOf_321 rfl rfl ?_
      refine aw_icmp_ge (tg := 349) (n := 326) dX8_rowOf_323 (by decide) rfl (fun c_323 => by exact absurd c_323 (nI_ge (by omega) (by omega))) (fun c_323 => ?_)
      refine aw_aload_n (n := 327) dX8_rowOf_326 rfl rfl ?_
      refine aw_getr (n := 330) dX8_rowOf_327 fX8_49 E_164 rfl rfl ?_
      refine aw_iload (n := 332) dX8_rowOf_330 rfl rfl ?_
      refine aw_iload (n := 334) dX8_rowOf_332 rfl rfl ?_
      refine aw_iadd (n := 335) dX8_rowOf_334 rfl ?_
      rw [nI_add]
      refine aw_aload_n (n := 336) dX8_rowOf_335 rfl rfl ?_
      refine aw_getr (n := 339) dX8_rowOf_336 fX8_52 E_164 rfl rfl ?_
      refine aw_iload (n := 341) dX8_rowOf_339 rfl rfl ?_
      refine aw_iald (n := 342) dX8_rowOf_341 E_179 (by assumption) rfl ?_
      refine aw_iast (n := 343) dX8_rowOf_342 E_178 (by assumption) rfl ?_
      refine aw_incp (n := 346) (L' := [_, _, _, _, _, _, _, _, _, _, _, _, _]) dX8_rowOf_343 rfl rfl rfl ?_
      refine aw_goto (n := 319) dX8_rowOf_346 (by decide) ?_
      rw [hkk, hk2, nI_1, h1 179 (by decide), hG k (by omega)]
      refine ih (k + 1) _ (by omega) (fun q hq => by rw [up2_ra _ _ hq]; exact h1 q hq) (fun j hj => by rw [up2_k _ _ (by omega)]; exact h2 j hj) (fun j hj => ?_)
      by_cases hjk : j = k
      · subst hjk; rw [up2_s]
      · rw [up2_k _ _ (by omega)]; exact h3 j (by omega)
  refine aw_iconst (n := 317) (v := 0) dX8_rowOf_316 (by decide) rfl ?_
  refine aw_istore (n := 319) (L' := [_, _, _, _, _, _, _, _, _, _, _, _, _]) dX8_rowOf_317 (Nat.le_of_ble_eq_true rfl) rfl rfl ?_
  exact loop sz 0 M (by omega) (fun _ _ => rfl) (fun _ _ => rfl) (fun j hj => by omega)
/-- the first loop, by the stretch that makes one int -/
theorem m_fill1 {w sz : Nat} {M1 : aM} {F : Nat → Int32} {x2 x3 x4 x5 x6 x8 x9 x12 : Value} (hs : sz ≤ 16) (seg : ∀ k Mk x11, k < sz → (∀ q, q ≠ 179 → Mk q = M1 q) → aw l K mX8_rowOf d 0 0 214 [.ref 164, .int (nI w), x2, x3, x4, x5, x6, .int (nI sz), x8, x9, .int (nI k), x11, x12] [.int (F k)] EE Mk Q → aw l K mX8_rowOf d 0 0 80 [.ref 164, .int (nI w), x2, x3, x4, x5, x6, .int (nI sz), x8, x9, .int (nI k), x11, x12] [] EE Mk Q)
    (fin : ∀ Mk x10 x11, (∀ q, q ≠ 179 → Mk q = M1 q) → (∀ k, k < sz → Mk 179 k = F k) → aw l K mX8_rowOf d 0 0 231 [.ref 164, .int (nI w), x2, x3, x4, x5, x6, .int (nI sz), x8, x9, x10, x11, x12] [] EE Mk Q) {x10 x11 : Value} : aw l K mX8_rowOf d 0 0 70 [.ref 164, .int (nI w), x2, x3, x4, x5, x6, .int (nI sz), x8, x9, x10, x11, x12] [] EE M1 Q := by
  have e164 := E_164
  have e179 := E_179
  have loop : ∀ m k Mk x11, m + k = sz → (∀ q, q ≠ 179 → Mk q = M1 q) → (∀ j, j < k → Mk 179 j = F j) → aw l K mX8_rowOf d 0 0 73 [.ref 164, .int (nI w), x2, x3, x4, x5, x6, .int (nI sz), x8, x9, .int (nI k), x11, x12] [] EE Mk Q := by
    intro m
    induction m with
    | zero =>
      intro k Mk x11 hk h1 h2
      refine aw_iload (n := 75) dX8_rowOf_73 rfl rfl ?_
      refine aw_iload (n := 77) dX8_rowOf_75 rfl rfl ?_
      refine aw_icmp_ge (tg := 231) (n := 80) dX8_rowOf_77 (by decide) rfl (fun c_77 => ?_) (fun c_77 => by exact absurd (nI_le (by omega) (by omega)) c_77)
      exact fin Mk _ _ h1 (fun j hj => h2 j (by omega))
    | succ m ih =>
      intro k Mk x11 hk h1 h2
      have hin : vp_in (nI k) 16 := vp_in_nI (by omega) (by decide)
      have hkk : (nI k).toNatClampNeg = k := nI_clamp (by omega)
      refine aw_iload (n := 75) dX8_rowOf_73 rfl rfl ?_
      refine aw_iload (n := 77) dX8_rowOf_75 rfl rfl ?_
      refine aw_icmp_ge (tg := 231) (n := 80) dX8_rowOf_77 (by decide) rfl (fun c_77 => by exact absurd c_77 (nI_ge (by omega) (by omega))) (fun c_77 => ?_)
      refine seg k Mk x11 (by omega) h1 ?_
      refine aw_istore (n := 216) (L' := [_, _, _, _, _, _, _, _, _, _, _, _, _]) dX8_rowOf_214 (Nat.le_of_ble_eq_true rfl) rfl rfl ?_
      refine aw_aload_n (n := 217) dX8_rowOf_216 rfl rfl ?_
      refine aw_getr (n := 220) dX8_rowOf_217 fX8_52 E_164 rfl rfl ?_
      refine aw_iload (n := 222) dX8_rowOf_220 rfl rfl ?_
      refine aw_iload (n := 224) dX8_rowOf_222 rfl rfl ?_
      refine aw_iast (n := 225) dX8_rowOf_224 E_179 (by assumption) rfl ?_
      refine aw_incp (n := 228) (L' := [_, _, _, _, _, _, _, _, _, _, _, _, _]) dX8_rowOf_225 rfl rfl rfl ?_
      refine aw_goto (n := 73) dX8_rowOf_228 (by decide) ?_
      rw [hkk, nI_1]
      refine ih (k + 1) _ _ (by omega) (fun q hq => by rw [up2_ra _ _ hq]; exact h1 q hq) (fun j hj => ?_)
      by_cases hjk : j = k
      · subst hjk; rw [up2_s]
      · rw [up2_k _ _ hjk]; exact h2 j (by omega)
  refine aw_iconst (n := 71) (v := 0) dX8_rowOf_70 (by decide) rfl ?_
  refine aw_istore (n := 73) (L' := [_, _, _, _, _, _, _, _, _, _, _, _, _]) dX8_rowOf_71 (Nat.le_of_ble_eq_true rfl) rfl rfl ?_
  exact loop sz 0 M1 _ (by omega) (fun _ _ => rfl) (fun j hj => by omega)
theorem m_sort {sz : Nat} {M1 : aM} {f0 : Nat → Int32} {x2 x3 x4 x5 x6 x8 x9 : Value} (hs : sz ≤ 16)
    (fin : ∀ Mk x10 x11 x12, (∀ q, q ≠ 179 → Mk q = M1 q) → (∀ k, k < sz → Mk 179 k = srt f0 (sz - 1) k) → aw l K mX8_rowOf d 0 0 316 [.ref 164, .int (nI 16), x2, x3, x4, x5, x6, .int (nI sz), x8, x9, x10, x11, x12] [] EE Mk Q) {Mi : aM} (hi1 : ∀ q, q ≠ 179 → Mi q = M1 q) (hi2 : ∀ k, k < sz → Mi 179 k = f0 k) {x10 x11 x12 : Value} : aw l K mX8_rowOf d 0 0 231 [.ref 164, .int (nI 16), x2, x3, x4, x5, x6, .int (nI sz), x8, x9, x10, x11, x12] [] EE Mi Q := by
  have e164 := E_164
  have e179 := E_179
  have inner : ∀ p f Mk (e : Nat) (x : Int32), p < sz → (∀ q, q ≠ 179 → Mk q = M1 q) → (∀ j, j < sz → Mk 179 j = f j) → (∀ M' x12, (∀ q, q ≠ 179 → M' q = M1 q) → (∀ j, j < sz → M' 179 j = sh f x p j) → aw l K mX8_rowOf d 0 0 234 [.ref 164, .int (nI 16), x2, x3, x4, x5, x6, .int (nI sz), x8, x9, .int (nI (e + 1)), .int x, x12] [] EE M' Q) → aw l K mX8_rowOf d 0 0 260 [.ref 164, .int (nI 16), x2, x3, x4, x5, x6, .int (nI sz), x8, x9, .int (nI e), .int x, .int (nI p)] [] EE Mk Q := by
    intro p
    induction p with
    | zero =>
      intro f Mk e x hp hf h5 hk
      have hin : vp_in (nI 0) 16 := vp_in_nI (by decide) (by decide)
      have h00 : (nI 0).toNatClampNeg = 0 := by decide
      refine aw_iload (n := 262) dX8_rowOf_260 rfl rfl ?_
      refine aw_if_le (tg := 301) (n := 265) dX8_rowOf_262 (by decide) rfl (fun c_262 => ?_) (fun c_262 => by exact absurd (by decide) c_262)
      refine aw_aload_n (n := 302) dX8_rowOf_301 rfl rfl ?_
      refine aw_getr (n := 305) dX8_rowOf_302 fX8_52 E_164 rfl rfl ?_
      refine aw_iload (n := 307) dX8_rowOf_305 rfl rfl ?_
      refine aw_iload (n := 309) dX8_rowOf_307 rfl rfl ?_
      refine aw_iast (n := 310) dX8_rowOf_309 E_179 (by assumption) rfl ?_
      refine aw_incp (n := 313) (L' := [_, _, _, _, _, _, _, _, _, _, _, _, _]) dX8_rowOf_310 rfl rfl rfl ?_
      refine aw_goto (n := 234) dX8_rowOf_313 (by decide) ?_
      rw [nI_1, h00]
      refine hk _ _ (fun q q2 => by rw [up2_ra _ _ q2]; exact hf q q2) (fun j hj => ?_)
      show up2 Mk 179 0 x 179 j = if j = 0 then x else f j
      by_cases hj0 : j = 0
      · subst hj0; rw [up2_s, if_pos rfl]
      · rw [up2_k _ _ hj0, if_neg hj0]; exact h5 j hj
    | succ p ih =>
      intro f Mk e x hp hf h5 hk
      have hin : vp_in (nI (p + 1)) 16 := vp_in_nI (by omega) (by decide)
      have hin2 : vp_in (nI (p + 1) - 1) 16 := by rw [nI_pred]; exact vp_in_nI (by omega) (by decide)
      have hpp : (nI (p + 1)).toNatClampNeg = p + 1 := nI_clamp (by omega)
      have hp1 : (nI (p + 1) - 1).toNatClampNeg = p := by rw [nI_pred]; exact nI_clamp (by omega)
      refine aw_iload (n := 262) dX8_rowOf_260 rfl rfl ?_
      refine aw_if_le (tg := 301) (n := 265) dX8_rowOf_262 (by decide) rfl (fun c_262 => by exact absurd c_262 (nI_nle (by omega) (by omega))) (fun c_262 => ?_)
      refine aw_aload_n (n := 266) dX8_rowOf_265 rfl rfl ?_
      refine aw_getr (n := 269) dX8_rowOf_266 fX8_52 E_164 rfl rfl ?_
      refine aw_iload (n := 271) dX8_rowOf_269 rfl rfl ?_
      refine aw_iconst (n := 272) (v := 1) dX8_rowOf_271 (by decide) rfl ?_
      refine aw_isub (n := 273) dX8_rowOf_272 rfl ?_
      refine aw_iald (n := 274) dX8_rowOf_273 E_179 (by assumption) rfl ?_
      rw [hp1, h5 p (by omega)]
      refine aw_iload (n := 276) dX8_rowOf_274 rfl rfl ?_
      refine aw_icmp_le (tg := 301) (n := 279) dX8_rowOf_276 (by decide) rfl (fun c_276 => ?_) (fun c_276 => ?_)
      · refine aw_aload_n (n := 302) dX8_rowOf_301 rfl rfl ?_
        refine aw_getr (n := 305) dX8_rowOf_302 fX8_52 E_164 rfl rfl ?_
        refine aw_iload (n := 307) dX8_rowOf_305 rfl rfl ?_
        refine aw_iload (n := 309) dX8_rowOf_307 rfl rfl ?_
        refine aw_iast (n := 310) dX8_rowOf_309 E_179 (by assumption) rfl ?_
        refine aw_incp (n := 313) (L' := [_, _, _, _, _, _, _, _, _, _, _, _, _]) dX8_rowOf_310 rfl rfl rfl ?_
        refine aw_goto (n := 234) dX8_rowOf_313 (by decide) ?_
        rw [nI_1, hpp]
        have hnx : ¬ x < f p := i_nlt.mpr c_276
        refine hk _ _ (fun q q2 => by rw [up2_ra _ _ q2]; exact hf q q2) (fun j hj => ?_)
        rw [show sh f x (p + 1) = fun j => if j = p + 1 then x else f j from if_neg hnx]
        by_cases hj0 : j = p + 1
        · subst hj0; rw [up2_s]; exact (if_pos rfl).symm
        · rw [up2_k _ _ hj0]; exact (h5 j hj).trans (if_neg hj0).symm
      · refine aw_aload_n (n := 280) dX8_rowOf_279 rfl rfl ?_
        refine aw_getr (n := 283) dX8_rowOf_280 fX8_52 E_164 rfl rfl ?_
        refine aw_iload (n := 285) dX8_rowOf_283 rfl rfl ?_
        refine aw_aload_n (n := 286) dX8_rowOf_285 rfl rfl ?_
        refine aw_getr (n := 289) dX8_rowOf_286 fX8_52 E_164 rfl rfl ?_
        refine aw_iload (n := 291) dX8_rowOf_289 rfl rfl ?_
        refine aw_iconst (n := 292) (v := 1) dX8_rowOf_291 (by decide) rfl ?_
        refine aw_isub (n := 293) dX8_rowOf_292 rfl ?_
        refine aw_iald (n := 294) dX8_rowOf_293 E_179 (by assumption) rfl ?_
        refine aw_iast (n := 295) dX8_rowOf_294 E_179 (by assumption) rfl ?_
        refine aw_incm (n := 298) (L' := [_, _, _, _, _, _, _, _, _, _, _, _, _]) dX8_rowOf_295 rfl rfl rfl ?_
        refine aw_goto (n := 260) dX8_rowOf_298 (by decide) ?_
        rw [hpp, hp1, pk_m1]
        have hx : x < f p := i_nle.mp c_276
        refine ih (fun j => if j = p + 1 then f p else f j) _ e x (by omega) (fun q q2 => by rw [up2_ra _ _ q2]; exact hf q q2) (fun j hj => ?_) (fun M' x12 kf k5 => hk M' x12 kf (fun j hj => ?_))
        · by_cases hj0 : j = p + 1
          · subst hj0; rw [up2_s, if_pos rfl, h5 p (by omega)]
          · rw [up2_k _ _ hj0, if_neg hj0]; exact h5 j hj
        · rw [show sh f x (p + 1) = sh (fun j => if j = p + 1 then f p else f j) x p from if_pos hx]
          exact k5 j hj
  have loop : ∀ m k Mk x11 x12, m + k + 1 = sz ∨ (m = 0 ∧ k = 0 ∧ sz = 0) → (∀ q, q ≠ 179 → Mk q = M1 q) → (∀ j, j < sz → Mk 179 j = srt f0 k j) → aw l K mX8_rowOf d 0 0 234 [.ref 164, .int (nI 16), x2, x3, x4, x5, x6, .int (nI sz), x8, x9, .int (nI (k + 1)), x11, x12] [] EE Mk Q := by
    intro m
    induction m with
    | zero =>
      intro k Mk x11 x12 hk hf h5
      refine aw_iload_n (n := 235) dX8_rowOf_234 rfl rfl ?_
      refine aw_bipush (n := 237) (v := 16) dX8_rowOf_235 (by decide) rfl ?_
      refine aw_icmp_ne (tg := 316) (n := 240) dX8_rowOf_237 (by decide) rfl (fun c_237 => by exact absurd rfl c_237) (fun c_237 => ?_)
      refine aw_iload (n := 242) dX8_rowOf_240 rfl rfl ?_
      refine aw_iload (n := 244) dX8_rowOf_242 rfl rfl ?_
      refine aw_icmp_ge (tg := 316) (n := 247) dX8_rowOf_244 (by decide) rfl (fun c_244 => ?_) (fun c_244 => by exact absurd (nI_le (by omega) (by omega)) c_244)
      exact fin Mk _ _ _ hf (fun j hj => by rw [show sz - 1 = k by omega]; exact h5 j hj)
    | succ m ih =>
      intro k Mk x11 x12 hk hf h5
      have hkl : k + 1 < sz := by omega
      have hin : vp_in (nI (k + 1)) 16 := vp_in_nI (by omega) (by decide)
      have hkk : (nI (k + 1)).toNatClampNeg = k + 1 := nI_clamp (by omega)
      refine aw_iload_n (n := 235) dX8_rowOf_234 rfl rfl ?_
      refine aw_bipush (n := 237) (v := 16) dX8_rowOf_235 (by decide) rfl ?_
      refine aw_icmp_ne (tg := 316) (n := 240) dX8_rowOf_237 (by decide) rfl (fun c_237 => by exact absurd rfl c_237) (fun c_237 => ?_)
      refine aw_iload (n := 242) dX8_rowOf_240 rfl rfl ?_
      refine aw_iload (n := 244) dX8_rowOf_242 rfl rfl ?_
      refine aw_icmp_ge (tg := 316) (n := 247) dX8_rowOf_244 (by decide) rfl (fun c_244 => by exact absurd c_244 (nI_ge (by omega) (by omega))) (fun c_244 => ?_)
      refine aw_aload_n (n := 248) dX8_rowOf_247 rfl rfl ?_
      refine aw_getr (n := 251) dX8_rowOf_248 fX8_52 E_164 rfl rfl ?_
      refine aw_iload (n := 253) dX8_rowOf_251 rfl rfl ?_
      refine aw_iald (n := 254) dX8_rowOf_253 E_179 (by assumption) rfl ?_
      refine aw_istore (n := 256) (L' := [_, _, _, _, _, _, _, _, _, _, _, _, _]) dX8_rowOf_254 (Nat.le_of_ble_eq_true rfl) rfl rfl ?_
      refine aw_iload (n := 258) dX8_rowOf_256 rfl rfl ?_
      refine aw_istore (n := 260) (L' := [_, _, _, _, _, _, _, _, _, _, _, _, _]) dX8_rowOf_258 (Nat.le_of_ble_eq_true rfl) rfl rfl ?_
      rw [hkk, h5 _ hkl]
      refine inner (k + 1) (srt f0 k) Mk (k + 1) _ hkl hf h5 (fun M' x12 kf k5 => ?_)
      exact ih (k + 1) M' _ _ (by omega) kf k5
  refine aw_iconst (n := 232) (v := 1) dX8_rowOf_231 (by decide) rfl ?_
  refine aw_istore (n := 234) (L' := [_, _, _, _, _, _, _, _, _, _, _, _, _]) dX8_rowOf_232 (Nat.le_of_ble_eq_true rfl) rfl rfl ?_
  exact loop (sz - 1) 0 Mi _ _ (by omega) hi1 hi2
end MROW
