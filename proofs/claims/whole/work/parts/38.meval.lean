/-- nothing below a frame has changed -/
def fH (h mk : Nat) (M M' : aM) : Prop := fG M M' ∧ (∀ j, j < h → M' 173 j = M 173 j ∧ M' 174 j = M 174 j) ∧ (∀ j, j < 3 * h → M' 175 j = M 175 j ∧ M' 176 j = M 176 j ∧ M' 177 j = M 177 j) ∧ ∀ j, j < 16 * (3 + mk) → M' 178 j = M 178 j
theorem fG_refl (M : aM) : fG M M := ⟨fun _ _ => rfl, fun _ _ _ _ _ _ _ _ => rfl, fun _ _ => rfl⟩
theorem fH_refl (h mk : Nat) (M : aM) : fH h mk M M := ⟨fG_refl M, fun _ _ => ⟨rfl, rfl⟩, fun _ _ => ⟨rfl, rfl, rfl⟩, fun _ _ => rfl⟩
theorem fH_trans {h mk mk1 : Nat} {M M1 M2 : aM} (h1 : fH h mk M M1) (h2 : fH h mk1 M1 M2) (hm : mk ≤ mk1) : fH h mk M M2 :=
  ⟨fG_trans h1.1 h2.1, fun j hj => ⟨(h2.2.1 j hj).1.trans (h1.2.1 j hj).1, (h2.2.1 j hj).2.trans (h1.2.1 j hj).2⟩, fun j hj => ⟨(h2.2.2.1 j hj).1.trans (h1.2.2.1 j hj).1, (h2.2.2.1 j hj).2.1.trans (h1.2.2.1 j hj).2.1, (h2.2.2.1 j hj).2.2.trans (h1.2.2.1 j hj).2.2⟩, fun j hj => (h2.2.2.2 j (by omega)).trans (h1.2.2.2 j hj)⟩
theorem fHM {h mk mk1 at_ : Nat} {M M1 M2 : aM} (h1 : fH h mk M M1) (h2 : fM h at_ mk1 M1 M2) (hm : mk ≤ mk1) : fM h at_ mk M M2 :=
  ⟨fG_trans h1.1 h2.1, fun j hj => ⟨(h2.2.1 j hj).1.trans (h1.2.1 j hj).1, (h2.2.1 j hj).2.trans (h1.2.1 j hj).2⟩, fun j hj hn => ⟨(h2.2.2.1 j hj hn).1.trans (h1.2.2.1 j hj).1, (h2.2.2.1 j hj hn).2.1.trans (h1.2.2.1 j hj).2.1, (h2.2.2.1 j hj hn).2.2.trans (h1.2.2.1 j hj).2.2⟩, fun j hj => (h2.2.2.2 j (by omega)).trans (h1.2.2.2 j hj)⟩
theorem fM_H {h at_ mk : Nat} {M M' : aM} (h1 : fM (h + 1) at_ mk M M') (ha : 3 * h ≤ at_) : fH h mk M M' :=
  ⟨h1.1, fun j hj => h1.2.1 j (by omega), fun j hj => h1.2.2.1 j (by omega) (by omega), h1.2.2.2⟩
theorem ev_r0 (T : tm) (inp : Nat → vV) (n t : Nat) : ev T inp n 0 t = (0, .inl 7) := by cases n <;> rfl
theorem gV_mono {M M' : aM} {mk mk' j : Nat} {v : vV} (h : gV M mk j v) (hm : mk ≤ mk') (hs : ∀ j, j < 16 * (3 + mk) → M' 178 j = M 178 j) (hj : M' 175 j = M 175 j ∧ M' 176 j = M 176 j ∧ M' 177 j = M 177 j) : gV M' mk' j v := by
  unfold gV
  rw [hj.1, hj.2.1, hj.2.2]
  exact mV_mono h hm hs
/-- the frame at level h has done i parts -/
def fS (cnt : Nat) (T : tm) (inp : Nat → vV) (h r mk t i : Nat) (M : aM) : Prop := lsM (h + 1) r mk M ∧ M 173 h = nI t ∧ M 174 h = nI i ∧ mT cnt T M ∧ mI inp M
section MEVAL
variable {l : Launch} {K : aK} {cnt : Nat} {T : tm} {inp : Nat → vV}
/-- what the work of a begun term comes to -/
def mE (l : Launch) (K : aK) (cnt : Nat) (T : tm) (inp : Nat → vV) (n : Nat) : Prop := ∀ (h r t mk ph d : Nat) (M : aM) (Q : Option Value → aE → aM → Prop) (x1 x2 x3 x4 x5 : Value), r < n → t < cnt → 9 ≤ d → fS cnt T inp h r mk t 0 M → (1 ≤ h → M 174 (h - 1) = nI ph ∧ 1 ≤ ph ∧ ph ≤ 3) →
    (∀ k r' M' x2 x3 x4 x5, ev T inp n (r + 1) t = (r', .inl k) → 1 ≤ k ∧ k ≤ 7 → M' 164 20 = nI k → wS r' M' → fG M M' → aw l K mX8_work d 0 0 15 [.ref 164, x1, x2, x3, x4, x5] [] EE M' Q) →
    (∀ v r' mk' M' x2 x3 x4 x5, ev T inp n (r + 1) t = (r', .inr v) → lsM h r' mk' M' → mk ≤ mk' → fM h (3 * (h - 1) + ph - 1) mk M M' → rV M' mk' v → (1 ≤ h → M' 175 (3 * (h - 1) + ph - 1) = M' 164 17 ∧ M' 176 (3 * (h - 1) + ph - 1) = M' 164 18 ∧ M' 177 (3 * (h - 1) + ph - 1) = M' 164 19) → aw l K mX8_work d 0 0 15 [.ref 164, x1, x2, x3, x4, x5] [] EE M' Q) →
    aw l K mX8_work d 0 0 15 [.ref 164, x1, x2, x3, x4, x5] [] EE M Q
/-- a part is begun and worked out -/
theorem m_step {n h r mk i t j d : Nat} {M : aM} {Q : Option Value → aE → aM → Prop} {x1 x2 x3 x4 x5 : Value} (ih : mE l K cnt T inp n) (hcnt : cnt ≤ 60) (hd : 9 ≤ d) (hrn : r ≤ n) (hi : i < 3) (hj : j < cnt) (hS : fS cnt T inp h r mk t i M)
    (hn : ∀ Q' : Option Value → aE → aM → Prop, Q' (some (.int (nI j))) EE M → aw l K mX8_nextPart (d - 1) 0 0 0 [.ref 164, .int (nI t), .int (nI h), .null, .null] [] EE M Q')
    (k1 : ∀ k r' M' x2 x3 x4 x5, ev T inp n r j = (r', .inl k) → 1 ≤ k ∧ k ≤ 7 → M' 164 20 = nI k → wS r' M' → fG M M' → aw l K mX8_work d 0 0 15 [.ref 164, x1, x2, x3, x4, x5] [] EE M' Q)
    (k2 : ∀ v r' mk' M' x2 x3 x4 x5, ev T inp n r j = (r', .inr v) → r' ≤ r → fS cnt T inp h r' mk' t (i + 1) M' → mk ≤ mk' → fH h mk M M' → gV M' mk' (3 * h + i) v → (∀ i', i' < i → M' 175 (3 * h + i') = M 175 (3 * h + i') ∧ M' 176 (3 * h + i') = M 176 (3 * h + i') ∧ M' 177 (3 * h + i') = M 177 (3 * h + i')) → aw l K mX8_work d 0 0 15 [.ref 164, x1, x2, x3, x4, x5] [] EE M' Q) :
    aw l K mX8_work d 0 0 15 [.ref 164, x1, x2, x3, x4, x5] [] EE M Q := by
  obtain ⟨hL, hp, hph, hcT, hcI⟩ := hS
  refine m_turnN (by omega) hL hp hph (by omega : j < 60) hi hn (fun hr0 M' y2 y3 y4 h7 hw hg => ?_) (fun r2 M1 y2 y3 y4 hr hL1 hp1 hq1 hq2 hp2 hlow hrest h164 => ?_)
  · subst hr0
    exact k1 7 0 M' _ _ _ _ (ev_r0 _ _ _ _) (by decide) h7 hw hg
  · subst hr
    have hG1 : fG M M1 := ⟨fun q hq => hrest q (by omega) (by omega) (by omega), fun q a b c e f g i => h164 q a b, fun q hq => by rw [hrest 178 (by decide) (by decide) (by decide)]⟩
    refine ih (h + 1) r2 j mk (i + 1) d M1 Q x1 _ _ _ _ (by omega) hj hd ⟨hL1, hp1, hq1, fG_T hG1 hcT, fG_I hG1 hcI⟩ (fun _ => ⟨by rw [show h + 1 - 1 = h from rfl]; exact hq2, by omega, by omega⟩) (fun k r' M' z2 z3 z4 z5 hev hk h20 hw hg => k1 k r' M' _ _ _ _ hev hk h20 hw (fG_trans hG1 hg)) (fun v r' mk' M' z2 z3 z4 z5 hev hL' hm hf hrv hat => ?_)
    obtain ⟨a1, a2, a3⟩ := hat (by omega)
    have eat : 3 * (h + 1 - 1) + (i + 1) - 1 = 3 * h + i := by omega
    rw [eat] at a1 a2 a3 hf
    have hl1 : r' ≤ r2 + 1 := by have := ev_le T inp n (r2 + 1) j; rw [hev] at this; exact this
    have hH1 : fH h mk M M1 := ⟨hG1, hlow, fun q hq => by rw [hrest 175 (by decide) (by decide) (by decide), hrest 176 (by decide) (by decide) (by decide), hrest 177 (by decide) (by decide) (by decide)]; exact ⟨rfl, rfl, rfl⟩, fun q hq => by rw [hrest 178 (by decide) (by decide) (by decide)]⟩
    have hG2 := fG_trans hG1 hf.1
    obtain ⟨f1, f2⟩ := hf.2.1 h (by omega)
    refine k2 v r' mk' M' _ _ _ _ hev hl1 ⟨hL', f1.trans hp2, f2.trans hq2, fG_T hG2 hcT, fG_I hG2 hcI⟩ hm (fH_trans hH1 (fM_H hf (by omega)) (Nat.le_refl _)) ?_ (fun i' hi' => ?_)
    · unfold gV
      rw [a1, a2, a3]
      exact hrv
    · have := hf.2.2.1 (3 * h + i') (by omega) (by omega)
      rw [hrest 175 (by decide) (by decide) (by decide), hrest 176 (by decide) (by decide) (by decide), hrest 177 (by decide) (by decide) (by decide)] at this
      exact this
/-- a term is ended -/
theorem m_fin {n h r0 r mk0 mk i t d ph : Nat} {M0 M : aM} {Q : Option Value → aE → aM → Prop} {x1 x2 x3 x4 x5 : Value} {res : Nat ⊕ vV} (hd : 9 ≤ d) (hS : fS cnt T inp h r mk t i M) (hH : fH h mk0 M0 M) (hm : mk0 ≤ mk) (hph : 1 ≤ h → M0 174 (h - 1) = nI ph ∧ 1 ≤ ph ∧ ph ≤ 3)
    (hev : ev T inp n r0 t = (r, res)) (hk : ∀ k, res = .inl k → 1 ≤ k ∧ k ≤ 7)
    (hn : ∀ Q' : Option Value → aE → aM → Prop, Q' (some (.int (-1))) EE M → aw l K mX8_nextPart (d - 1) 0 0 0 [.ref 164, .int (nI t), .int (nI h), .null, .null] [] EE M Q')
    (he : ∀ Q' : Option Value → aE → aM → Prop, eQ mk M res Q' → aw l K mX8_end (d - 1) 0 0 0 [.ref 164, .int (nI t), .int (nI h), .null, .null] [] EE M Q')
    (k1 : ∀ k r' M' x2 x3 x4 x5, ev T inp n r0 t = (r', .inl k) → 1 ≤ k ∧ k ≤ 7 → M' 164 20 = nI k → wS r' M' → fG M0 M' → aw l K mX8_work d 0 0 15 [.ref 164, x1, x2, x3, x4, x5] [] EE M' Q)
    (k2 : ∀ v r' mk' M' x2 x3 x4 x5, ev T inp n r0 t = (r', .inr v) → lsM h r' mk' M' → mk0 ≤ mk' → fM h (3 * (h - 1) + ph - 1) mk0 M0 M' → rV M' mk' v → (1 ≤ h → M' 175 (3 * (h - 1) + ph - 1) = M' 164 17 ∧ M' 176 (3 * (h - 1) + ph - 1) = M' 164 18 ∧ M' 177 (3 * (h - 1) + ph - 1) = M' 164 19) → aw l K mX8_work d 0 0 15 [.ref 164, x1, x2, x3, x4, x5] [] EE M' Q) :
    aw l K mX8_work d 0 0 15 [.ref 164, x1, x2, x3, x4, x5] [] EE M Q := by
  obtain ⟨hL, hp, hq, hcT, hcI⟩ := hS
  refine m_turnE (res := res) (ph := ph) (M0 := M) (by omega) hL hp (fun h1 => ⟨((hH.2.1 (h - 1) (by omega)).2).trans (hph h1).1, (hph h1).2⟩) hn he (fun k M' y2 y3 y4 y5 e1 e2 e3 ew e4 => ?_) hk (fun v mk' M' y2 y3 y4 y5 e1 e2 e3 e4 e5 e6 => ?_)
  · exact k1 k r M' _ _ _ _ (by rw [hev, e1]) (hk k e1) e3 ew (fG_trans hH.1 e4)
  · exact k2 v r mk' M' _ _ _ _ (by rw [hev, e1]) e2 (by omega) (fHM hH e4 hm) e5 e6
/-- a choice whose first part is no whole -/
theorem m_turnC {h r mk t d : Nat} {M : aM} {Q : Option Value → aE → aM → Prop} {x1 x2 x3 x4 x5 : Value} {k : Nat} (hd : 9 ≤ d) (hL : lsM (h + 1) r mk M) (hp : M 173 h = nI t) (hk : 1 ≤ k ∧ k ≤ 7)
    (hn : ∀ Q' : Option Value → aE → aM → Prop, Q' (some (.int (-1))) EE (up2 M 164 20 (nI k)) → aw l K mX8_nextPart (d - 1) 0 0 0 [.ref 164, .int (nI t), .int (nI h), .null, .null] [] EE M Q')
    (k1 : ∀ M' x2 x3 x4 x5, M' 164 20 = nI k → wS r M' → fG M M' → aw l K mX8_work d 0 0 15 [.ref 164, x1, x2, x3, x4, x5] [] EE M' Q) :
    aw l K mX8_work d 0 0 15 [.ref 164, x1, x2, x3, x4, x5] [] EE M Q := by
  obtain ⟨l15, l20, l9, l22, l60, lmk, lh⟩ := hL
  have hin : vp_in (nI h) 61 := vp_in_nI (by omega) (by decide)
  have hhh : (nI h).toNatClampNeg = h := nI_clamp (by omega)
  refine aw_aload_n (n := 16) dX8_work_15 rfl rfl ?_
  refine aw_geti (n := 19) dX8_work_16 fX8_113 E_164 rfl rfl ?_
  rw [l15]
  refine aw_if_le (tg := 172) (n := 22) dX8_work_19 (by decide) rfl (fun c_19 => by exact absurd c_19 (nI_nle (by omega) (by omega))) (fun c_19 => ?_)
  refine aw_aload_n (n := 23) dX8_work_22 rfl rfl ?_
  refine aw_geti (n := 26) dX8_work_23 fX8_110 E_164 rfl rfl ?_
  rw [l20]
  refine aw_if_ne (tg := 172) (n := 29) dX8_work_26 (by decide) rfl (fun c_26 => by exact absurd rfl c_26) (fun c_26 => ?_)
  refine aw_aload_n (n := 30) dX8_work_29 rfl rfl ?_
  refine aw_geti (n := 33) dX8_work_30 fX8_113 E_164 rfl rfl ?_
  rw [l15]
  refine aw_iconst (n := 34) (v := 1) dX8_work_33 (by decide) rfl ?_
  refine aw_isub (n := 35) dX8_work_34 rfl ?_
  rw [nI_pred]
  refine aw_istore_n (n := 36) (L' := [_, _, _, _, _, _]) dX8_work_35 (Nat.le_of_ble_eq_true rfl) rfl rfl ?_
  refine aw_aload_n (n := 37) dX8_work_36 rfl rfl ?_
  refine aw_getr (n := 40) dX8_work_37 fX8_34 E_164 rfl rfl ?_
  refine aw_iload_n (n := 41) dX8_work_40 rfl rfl ?_
  refine aw_iald (n := 42) dX8_work_41 E_173 (by assumption) rfl ?_
  rw [hhh, hp]
  refine aw_istore_n (n := 43) (L' := [_, _, _, _, _, _]) dX8_work_42 (Nat.le_of_ble_eq_true rfl) rfl rfl ?_
  refine aw_aload_n (n := 44) dX8_work_43 rfl rfl ?_
  refine aw_iload_n (n := 45) dX8_work_44 rfl rfl ?_
  refine aw_iload_n (n := 46) dX8_work_45 rfl rfl ?_
  refine aw_v2 (d1 := d - 1) (n := 49) (Z := mX8_nextPart) (ci := 6) (L0 := [_, _, _, .null, .null]) dX8_work_46 kX8_nextPart gX8_120 iyX8_nextPart eyX8_nextPart rfl rfl E_164 rfl rfl (Nat.le_of_ble_eq_true rfl) rfl rfl (by omega) (Nat.le_of_ble_eq_true rfl) (hn _ ?_)
  dsimp only [aPush]
  refine aw_istore (n := 51) (L' := [_, _, _, _, _, _]) dX8_work_49 (Nat.le_of_ble_eq_true rfl) rfl rfl ?_
  refine aw_iload (n := 53) dX8_work_51 rfl rfl ?_
  refine aw_if_lt (tg := 75) (n := 56) dX8_work_53 (by decide) rfl (fun c_53 => ?_) (fun c_53 => by exact absurd (by decide) c_53)
  refine aw_aload_n (n := 76) dX8_work_75 rfl rfl ?_
  refine aw_geti (n := 79) dX8_work_76 fX8_110 E_164 rfl rfl ?_
  rw [up2_s]
  refine aw_if_ne (tg := 169) (n := 82) dX8_work_79 (by decide) rfl (fun c_79 => ?_) (fun c_79 => by exact absurd c_79 (nI_ne0 hk.1 (by omega)))
  refine aw_goto (n := 15) dX8_work_169 (by decide) ?_
  refine k1 _ _ _ _ _ (up2_s _ _ _ _) ⟨by rw [up2_k _ _ (by decide)]; exact l9, l60, mk, by rw [up2_k _ _ (by decide)]; exact l22, by omega⟩ ⟨fun q hq => up2_ra _ _ (by omega), fun q a b c e f g i => up2_k _ _ g, fun q hq => up2_a _ _ (by decide)⟩
end MEVAL
