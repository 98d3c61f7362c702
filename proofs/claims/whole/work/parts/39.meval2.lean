section MEVAL2
variable {l : Launch} {K : aK} {cnt : Nat} {T : tm} {inp : Nat → vV}
theorem m_finW {n h r0 r mk0 mk t d ph w : Nat} {M0 M : aM} {Q : Option Value → aE → aM → Prop} {x1 x2 x3 x4 x5 : Value} {va vb vc : vV} (hcnt : cnt ≤ 60) (hd : 9 ≤ d) (hw : w ≤ 18) (ht : t < cnt) (hwT : T 0 t = nI w) (hp4 : w = 0 → isNo (T 4 t) 3) (hS : fS cnt T inp h r mk t (pts w) M) (hH : fH h mk0 M0 M) (hm : mk0 ≤ mk) (hph : 1 ≤ h → M0 174 (h - 1) = nI ph ∧ 1 ≤ ph ∧ ph ≤ 3)
    (ha : 1 ≤ pts w → gV M mk (3 * h) va) (hb : 2 ≤ pts w → gV M mk (3 * h + 1) vb) (hc : 3 ≤ pts w → gV M mk (3 * h + 2) vc) (na : pts w < 1 → va = none) (nb : pts w < 2 → vb = none) (nc : pts w < 3 → vc = none)
    (hev : ev T inp n r0 t = (r, op w (T 4 t) inp va vb vc))
    (k1 : ∀ k r' M' x2 x3 x4 x5, ev T inp n r0 t = (r', .inl k) → 1 ≤ k ∧ k ≤ 7 → M' 164 20 = nI k → wS r' M' → fG M0 M' → aw l K mX8_work d 0 0 15 [.ref 164, x1, x2, x3, x4, x5] [] EE M' Q)
    (k2 : ∀ v r' mk' M' x2 x3 x4 x5, ev T inp n r0 t = (r', .inr v) → lsM h r' mk' M' → mk0 ≤ mk' → fM h (3 * (h - 1) + ph - 1) mk0 M0 M' → rV M' mk' v → (1 ≤ h → M' 175 (3 * (h - 1) + ph - 1) = M' 164 17 ∧ M' 176 (3 * (h - 1) + ph - 1) = M' 164 18 ∧ M' 177 (3 * (h - 1) + ph - 1) = M' 164 19) → aw l K mX8_work d 0 0 15 [.ref 164, x1, x2, x3, x4, x5] [] EE M' Q) :
    aw l K mX8_work d 0 0 15 [.ref 164, x1, x2, x3, x4, x5] [] EE M Q := by
  have hS' := hS
  obtain ⟨⟨l15, l20, l9, l22, l60, lmk, lh⟩, hp, hq, hcT, hcI⟩ := hS'
  obtain ⟨q5, q6, q7, q8, q9⟩ := hcT t ht
  have hp3 : pts w ≤ 3 := by have := ptsLe w (by omega); omega
  exact m_fin (cnt := cnt) hd hS hH hm hph hev (fun k => op_code hw) (fun Q' hq' => m_nextE (by omega) hw (by omega) (by omega) (q5.trans hwT) hq (Nat.le_refl _) hp3 hq') (fun Q' hq' => m_end (by omega) hw (by omega) (by omega) (by omega) l20 l22 hcI (q5.trans hwT) q9 hp4 ha hb hc na nb nc hq') k1 k2
theorem m_eval (hcnt : cnt ≤ 60) (hT : wfT cnt T) : ∀ n, mE l K cnt T inp n := by
  intro n
  induction n with
  | zero => intro h r t mk ph d M Q x1 x2 x3 x4 x5 hr; omega
  | succ n ih =>
    intro h r t mk ph d M Q x1 x2 x3 x4 x5 hr ht hd hS hph k1 k2
    obtain ⟨w, hw20, hwT, hpA, hpB, hpC, hp4⟩ := hT t ht
    have nP : ∀ {r mk i : Nat} {M : aM} {j : Nat}, w ≤ 18 → fS cnt T inp h r mk t i M → i < pts w → i < 3 → T (1 + i) t = nI j → ∀ Q' : Option Value → aE → aM → Prop, Q' (some (.int (nI j))) EE M → aw l K mX8_nextPart (d - 1) 0 0 0 [.ref 164, .int (nI t), .int (nI h), .null, .null] [] EE M Q' := by
      intro r mk i M j hw18 hS hi hi3 hj Q' hq'
      obtain ⟨⟨l15, l20, l9, l22, l60, lmk, lh⟩, hp, hq, hcT, hcI⟩ := hS
      obtain ⟨q5, q6, q7, q8, q9⟩ := hcT t ht
      refine m_nextP (by omega) hw18 (by omega) (by omega) (q5.trans hwT) hq hi hi3 ?_
      rw [show M (166 + i) t = nI j from ?_]
      · exact hq'
      · rcases (show i = 0 ∨ i = 1 ∨ i = 2 by omega) with rfl | rfl | rfl
        · exact q6.trans hj
        · exact q7.trans hj
        · exact q8.trans hj
    by_cases hw18 : w ≤ 18
    · rcases (show pts w = 0 ∨ pts w = 1 ∨ pts w = 2 ∨ pts w = 3 from ptsLe w hw20) with hp | hp | hp | hp
      · refine m_finW (va := none) (vb := none) (vc := none) hcnt hd hw18 ht hwT hp4 (by rw [hp]; exact hS) (fH_refl h mk M) (Nat.le_refl _) hph (fun q => by omega) (fun q => by omega) (fun q => by omega) (fun _ => rfl) (fun _ => rfl) (fun _ => rfl) (ev_p0 hwT hw18 hp) k1 k2
      · obtain ⟨ja, hja, hjA⟩ := hpA (by omega)
        refine m_step ih hcnt hd (by omega) (by decide : 0 < 3) (by omega : ja < cnt) hS (nP hw18 hS (by omega) (by omega) hjA) (fun k r1 M1 y2 y3 y4 y5 hev1 hk h20 hw hg => k1 k r1 M1 _ _ _ _ (by rw [ev_p1 hwT hw18 hp hjA (by omega), hev1]; rfl) hk h20 hw hg) (fun v1 r1 mk1 M1 y2 y3 y4 y5 hev1 hl1 hS1 hm1 hH1 gv1 gs1 => ?_)
        refine m_finW (va := v1) (vb := none) (vc := none) hcnt hd hw18 ht hwT hp4 (by rw [hp]; exact hS1) hH1 (by omega) hph (fun _ => gv1) (fun q => by omega) (fun q => by omega) (fun q => by omega) (fun _ => rfl) (fun _ => rfl) (by rw [ev_p1 hwT hw18 hp hjA (by omega), hev1]; rfl) k1 k2
      · obtain ⟨ja, hja, hjA⟩ := hpA (by omega)
        obtain ⟨jb, hjb, hjB⟩ := hpB (by omega)
        refine m_step ih hcnt hd (by omega) (by decide : 0 < 3) (by omega : ja < cnt) hS (nP hw18 hS (by omega) (by omega) hjA) (fun k r1 M1 y2 y3 y4 y5 hev1 hk h20 hw hg => k1 k r1 M1 _ _ _ _ (by rw [ev_p2 hwT hw18 hp hjA (by omega) hjB (by omega), hev1]; rfl) hk h20 hw hg) (fun v1 r1 mk1 M1 y2 y3 y4 y5 hev1 hl1 hS1 hm1 hH1 gv1 gs1 => ?_)
        refine m_step ih hcnt hd (by omega) (by decide : 1 < 3) (by omega : jb < cnt) hS1 (nP hw18 hS1 (by omega) (by omega) hjB) (fun k r2 M2 y2 y3 y4 y5 hev2 hk h20 hw hg => k1 k r2 M2 _ _ _ _ (by rw [ev_p2 hwT hw18 hp hjA (by omega) hjB (by omega), hev1]; show eB (ev T inp n r1 jb) _ = _; rw [hev2]; rfl) hk h20 hw (fG_trans hH1.1 hg)) (fun v2 r2 mk2 M2 y2 y3 y4 y5 hev2 hl2 hS2 hm2 hH2' gv2 gs2 => ?_)
        have hH2 := fH_trans hH1 hH2' (by omega)
        have gv1_2 := gV_mono gv1 hm2 hH2'.2.2.2 (gs2 0 (by omega))
        refine m_finW (va := v1) (vb := v2) (vc := none) hcnt hd hw18 ht hwT hp4 (by rw [hp]; exact hS2) hH2 (by omega) hph (fun _ => gv1_2) (fun _ => gv2) (fun q => by omega) (fun q => by omega) (fun q => by omega) (fun _ => rfl) (by rw [ev_p2 hwT hw18 hp hjA (by omega) hjB (by omega), hev1]; show eB (ev T inp n r1 jb) _ = _; rw [hev2]; rfl) k1 k2
      · obtain ⟨ja, hja, hjA⟩ := hpA (by omega)
        obtain ⟨jb, hjb, hjB⟩ := hpB (by omega)
        obtain ⟨jc, hjc, hjC⟩ := hpC (by omega)
        refine m_step ih hcnt hd (by omega) (by decide : 0 < 3) (by omega : ja < cnt) hS (nP hw18 hS (by omega) (by omega) hjA) (fun k r1 M1 y2 y3 y4 y5 hev1 hk h20 hw hg => k1 k r1 M1 _ _ _ _ (by rw [ev_p3 hwT hw18 hp hjA (by omega) hjB (by omega) hjC (by omega), hev1]; rfl) hk h20 hw hg) (fun v1 r1 mk1 M1 y2 y3 y4 y5 hev1 hl1 hS1 hm1 hH1 gv1 gs1 => ?_)
        refine m_step ih hcnt hd (by omega) (by decide : 1 < 3) (by omega : jb < cnt) hS1 (nP hw18 hS1 (by omega) (by omega) hjB) (fun k r2 M2 y2 y3 y4 y5 hev2 hk h20 hw hg => k1 k r2 M2 _ _ _ _ (by rw [ev_p3 hwT hw18 hp hjA (by omega) hjB (by omega) hjC (by omega), hev1]; show eB (ev T inp n r1 jb) _ = _; rw [hev2]; rfl) hk h20 hw (fG_trans hH1.1 hg)) (fun v2 r2 mk2 M2 y2 y3 y4 y5 hev2 hl2 hS2 hm2 hH2' gv2 gs2 => ?_)
        have hH2 := fH_trans hH1 hH2' (by omega)
        have gv1_2 := gV_mono gv1 hm2 hH2'.2.2.2 (gs2 0 (by omega))
        refine m_step ih hcnt hd (by omega) (by decide : 2 < 3) (by omega : jc < cnt) hS2 (nP hw18 hS2 (by omega) (by omega) hjC) (fun k r3 M3 y2 y3 y4 y5 hev3 hk h20 hw hg => k1 k r3 M3 _ _ _ _ (by rw [ev_p3 hwT hw18 hp hjA (by omega) hjB (by omega) hjC (by omega), hev1]; show eB (ev T inp n r1 jb) _ = _; rw [hev2]; show eB (ev T inp n r2 jc) _ = _; rw [hev3]; rfl) hk h20 hw (fG_trans hH2.1 hg)) (fun v3 r3 mk3 M3 y2 y3 y4 y5 hev3 hl3 hS3 hm3 hH3' gv3 gs3 => ?_)
        have hH3 := fH_trans hH2 hH3' (by omega)
        have gv1_3 := gV_mono gv1_2 hm3 hH3'.2.2.2 (gs3 0 (by omega))
        have gv2_3 := gV_mono gv2 hm3 hH3'.2.2.2 (gs3 1 (by omega))
        refine m_finW (va := v1) (vb := v2) (vc := v3) hcnt hd hw18 ht hwT hp4 (by rw [hp]; exact hS3) hH3 (by omega) hph (fun _ => gv1_3) (fun _ => gv2_3) (fun _ => gv3) (fun q => by omega) (fun q => by omega) (fun q => by omega) (by rw [ev_p3 hwT hw18 hp hjA (by omega) hjB (by omega) hjC (by omega), hev1]; show eB (ev T inp n r1 jb) _ = _; rw [hev2]; show eB (ev T inp n r2 jc) _ = _; rw [hev3]; rfl) k1 k2
    · have hw2 : w = 19 ∨ w = 20 := by omega
      have hpt := ptsN9 w hw20 (by omega)
      obtain ⟨ja, hja, hjA⟩ := hpA (by omega)
      obtain ⟨jb, hjb, hjB⟩ := hpB (by omega)
      have n0 : ∀ Q' : Option Value → aE → aM → Prop, Q' (some (.int (nI ja))) EE M → aw l K mX8_nextPart (d - 1) 0 0 0 [.ref 164, .int (nI t), .int (nI h), .null, .null] [] EE M Q' := by
        intro Q' hq'
        obtain ⟨⟨l15, l20, l9, l22, l60, lmk, lh⟩, hp, hq, hcT, hcI⟩ := hS
        obtain ⟨q5, q6, q7, q8, q9⟩ := hcT t ht
        refine m_nextC0 (by omega) hw2 (by omega) (by omega) (q5.trans hwT) hq ?_
        rw [q6.trans hjA]; exact hq'
      have hr1 : ∃ f : Nat → Int32 → rE, (∀ n', n' = n → ev T inp (n' + 1) (r + 1) t = eB (ev T inp n r ja) fun r1 v => eW r1 v (f r1)) ∧ (w = 20 → ∀ r1 x, f r1 x = if x = 0 then (r1, .inr (some (.inl 0))) else eB (ev T inp n r1 jb) fun r2 v2 => eW r2 v2 fun y => (r2, .inr (some (.inl (if y = 0 then 0 else 1))))) ∧ (w = 19 → ∀ jc, jc < 60 → T 3 t = nI jc → ∀ r1 x, f r1 x = if x = 0 then ev T inp n r1 jc else ev T inp n r1 jb) := by
        rcases hw2 with rfl | rfl
        · obtain ⟨jc, hjc, hjC⟩ := hpC (by rw [hpt.2 rfl]; exact Nat.le_refl _)
          refine ⟨fun r1 x => if x = 0 then ev T inp n r1 jc else ev T inp n r1 jb, fun n' e => by subst e; exact ev_19 hwT hjA (by omega) hjB (by omega) hjC (by omega), fun q => by omega, fun _ jc' hb e r1 x => ?_⟩
          have : jc' = jc := by have := hjC.symm.trans e; exact ((nI_eq (by omega) (by omega)).mp this).symm
          rw [this]
        · exact ⟨_, fun n' e => by subst e; exact ev_20 hwT hjA (by omega) hjB (by omega), fun _ r1 x => rfl, fun q => by omega⟩
      obtain ⟨f, hf, hf20, hf19⟩ := hr1
      have hf := hf n rfl
      refine m_step ih hcnt hd (by omega) (by decide : 0 < 3) (by omega : ja < cnt) hS n0 (fun k r1 M1 y2 y3 y4 y5 hev1 hk h20 hw hg => k1 k r1 M1 _ _ _ _ (by rw [hf, hev1]; rfl) hk h20 hw hg) (fun v1 r1 mk1 M1 y2 y3 y4 y5 hev1 hl1 hS1 hm1 hH1 gv1 gs1 => ?_)
      have hS1' := hS1
      obtain ⟨hL1, hp1, hq1, hcT1, hcI1⟩ := hS1'
      have hL1' := hL1
      obtain ⟨l15, l20, l9, l22, l60, lmk, lh⟩ := hL1'
      obtain ⟨q5, q6, q7, q8, q9⟩ := hcT1 t ht
      have hE1 : ev T inp (n + 1) (r + 1) t = eW r1 v1 (f r1) := by rw [hf, hev1]; rfl
      by_cases hlk : lk 0 v1 = 0
      · obtain ⟨x, rfl⟩ : ∃ x, v1 = some (.inl x) := by
          rcases v1 with _ | x | s
          · exact absurd hlk (by decide)
          · exact ⟨x, rfl⟩
          · exact absurd hlk (by simp [lk, lk0])
        have hE2 : ev T inp (n + 1) (r + 1) t = f r1 x := hE1
        have n1 : ∀ (z : Int32), (if x = 0 then (if w = 19 then M1 168 t else -1) else M1 167 t) = z → ∀ Q' : Option Value → aE → aM → Prop, Q' (some (.int z)) EE M1 → aw l K mX8_nextPart (d - 1) 0 0 0 [.ref 164, .int (nI t), .int (nI h), .null, .null] [] EE M1 Q' := by
          intro z hz Q' hq'
          refine m_nextC1 (by omega) hw2 (by omega) (by omega) (q5.trans hwT) hq1 l20 gv1 ?_
          rw [hz]; exact hq'
        rcases hw2 with rfl | rfl
        · obtain ⟨jc, hjc, hjC⟩ := hpC (by rw [hpt.2 rfl]; exact Nat.le_refl _)
          have hfx := hf19 rfl jc (by omega) hjC r1 x
          have key : ∀ jx, jx < cnt → M1 (167 + (if x = 0 then 1 else 0)) t = nI jx → ev T inp (n + 1) (r + 1) t = ev T inp n r1 jx → aw l K mX8_work d 0 0 15 [.ref 164, x1, y2, y3, y4, y5] [] EE M1 Q := by
            intro jx hjx hjX hEx
            refine m_step ih hcnt hd (by omega) (by decide : 1 < 3) hjx hS1 (n1 (nI jx) ?_) (fun k r2 M2 z2 z3 z4 z5 hev2 hk h20 hw hg => k1 k r2 M2 _ _ _ _ (by rw [hEx, hev2]) hk h20 hw (fG_trans hH1.1 hg)) (fun v2 r2 mk2 M2 z2 z3 z4 z5 hev2 hl2 hS2 hm2 hH2 gv2 gs2 => ?_)
            · by_cases hx0 : x = 0
              · rw [if_pos hx0, if_pos rfl, ← hjX, if_pos hx0]
              · rw [if_neg hx0, ← hjX, if_neg hx0]
            have hS2' := hS2
            obtain ⟨hL2, hp2, hq2, hcT2, hcI2⟩ := hS2'
            obtain ⟨p5, p6, p7, p8, p9⟩ := hcT2 t ht
            refine m_fin (cnt := cnt) (res := .inr v2) hd hS2 (fH_trans hH1 hH2 hm1) (by omega) hph (by rw [hEx, hev2]) (fun k e => by cases e) (fun Q' hq' => m_nextC2 (by omega) (Or.inl rfl) (by omega) (by omega) (p5.trans hwT) hq2 hq') (fun Q' hq' => m_end19 (by omega) (by omega) hL2.2.1 hL2.2.2.2.1 (p5.trans hwT) gv2 hq') k1 k2
          by_cases hx0 : x = 0
          · refine key jc (by omega) (by rw [if_pos hx0]; exact q8.trans hjC) (by rw [hE2, hfx, if_pos hx0])
          · refine key jb (by omega) (by rw [if_neg hx0]; exact q7.trans hjB) (by rw [hE2, hfx, if_neg hx0])
        · have hfx := hf20 rfl r1 x
          by_cases hx0 : x = 0
          · rw [if_pos hx0] at hfx
            refine m_fin (cnt := cnt) (res := .inr (some (.inl 0))) hd hS1 hH1 (by omega) hph (by rw [hE2, hfx]) (fun k e => by cases e) (n1 (-1) (by rw [if_pos hx0, if_neg (by decide)])) (fun Q' hq' => m_end20a (by omega) (by omega) (by omega) l20 l22 (q5.trans hwT) hq1 hq') k1 k2
          · rw [if_neg hx0] at hfx
            refine m_step ih hcnt hd (by omega) (by decide : 1 < 3) (by omega : jb < cnt) hS1 (n1 (nI jb) (by rw [if_neg hx0]; exact q7.trans hjB)) (fun k r2 M2 z2 z3 z4 z5 hev2 hk h20 hw hg => k1 k r2 M2 _ _ _ _ (by rw [hE2, hfx, hev2]; rfl) hk h20 hw (fG_trans hH1.1 hg)) (fun v2 r2 mk2 M2 z2 z3 z4 z5 hev2 hl2 hS2 hm2 hH2 gv2 gs2 => ?_)
            have hS2' := hS2
            obtain ⟨hL2, hp2, hq2, hcT2, hcI2⟩ := hS2'
            obtain ⟨p5, p6, p7, p8, p9⟩ := hcT2 t ht
            refine m_fin (cnt := cnt) (res := bW v2 fun y => .inr (some (.inl (if y = 0 then 0 else 1)))) hd hS2 (fH_trans hH1 hH2 hm1) (by omega) hph (by rw [hE2, hfx, hev2]; rcases v2 with _ | y | s <;> rfl) (fun k e => by rcases v2 with _ | y | s <;> cases e <;> decide) (fun Q' hq' => m_nextC2 (by omega) (Or.inr rfl) (by omega) (by omega) (p5.trans hwT) hq2 hq') (fun Q' hq' => m_end20b (by omega) (by omega) (by omega) hL2.2.1 hL2.2.2.2.1 (p5.trans hwT) hq2 gv2 hq') k1 k2
      · obtain ⟨e1, e2⟩ := lk0_W (k := lk 0 v1) rfl hlk r1 (f r1)
        refine m_turnC (k := lk 0 v1) hd hL1 hp1 e2 (fun Q' hq' => m_nextC1n (by omega) hw2 (by omega) (by omega) (q5.trans hwT) hq1 gv1 hlk hq') (fun M2 z2 z3 z4 z5 h20 hw hg => k1 _ r1 M2 _ _ _ _ (by rw [hE1, e1]) e2 h20 hw (fG_trans hH1.1 hg))
end MEVAL2
