theorem ptsLe : ∀ w, w ≤ 20 → pts w = 0 ∨ pts w = 1 ∨ pts w = 2 ∨ pts w = 3 := by decide +kernel
theorem ptsN9 : ∀ w, w ≤ 20 → 18 < w → 2 ≤ pts w ∧ (w = 19 → pts w = 3) := by decide +kernel
theorem ptsN0 : ∀ w, w ≤ 18 → pts w = 0 → nA w = 4 ∧ nB w = 4 ∧ nC w = 4 := by decide +kernel
theorem ptsN1 : ∀ w, w ≤ 18 → pts w = 1 → nB w = 4 ∧ nC w = 4 := by decide +kernel
theorem ptsN2 : ∀ w, w ≤ 18 → pts w = 2 → nC w = 4 := by decide +kernel
theorem fW_own {r0 own : Nat} {M M2 M3 : aM} (ho : own < 60) (h : fW own M M2) (h6 : ∀ q, q ≠ 16 + 2 * own → q ≠ 16 + 2 * own + 1 → M3 q = M2 q) : fW own M M3 :=
  ⟨fun q g1 g2 => (h6 q (by omega) (by omega)).trans (h.1 q g1 g2), fun j hj => (congrFun (h6 1 (by omega) (by omega)) j).trans (h.2 j hj)⟩
theorem lk0_W {v : vV} {k : Nat} (h : lk 0 v = k) (hk : k ≠ 0) (r : Nat) (f : Int32 → rE) : eW r v f = (r, .inl k) ∧ 1 ≤ k ∧ k ≤ 7 := by
  subst h
  rcases v with _ | x | s
  · exact ⟨rfl, by decide⟩
  · exact absurd rfl hk
  · exact ⟨rfl, by simp [lk, lk0]⟩
theorem vAt_W {M : aM} {a : Nat} {x : Int32} (h : vAt M a (some (.inl x))) : M a 1 = x := h.2.1
theorem t_work {l : Launch} {K : aK} {cnt : Nat} {T : tm} {inp : Nat → vV} (hcnt : cnt ≤ 60) (hT : wfT cnt T) : ∀ (n r t d : Nat) (M : aM) (Q : Option Value → aE → aM → Prop), r < n → r ≤ 60 → t < cnt → 2 * n + 8 ≤ d → cT cnt T M → cI inp M → M 1 3 = nI (60 - r) →
    (∀ k r' M', ev T inp n r t = (r', .inl k) → 1 ≤ k ∧ k ≤ 7 → M' 1 3 = nI (60 - r') → fW (60 - r) M M' → Q (some (.int (-(nI k)))) EE M') →
    (∀ v r' p M', ev T inp n r t = (r', .inr v) → M' 1 3 = nI (60 - r') → fW (60 - r) M M' → 60 - r ≤ p → p < 60 - r' → vAt M' (16 + 2 * p) v → Q (some (.int (nI p))) EE M') →
    aw l K mX6_work d 0 0 0 [.ref 1, .int (nI t), .null, .null, .null, .null, .null, .null, .null] [] EE M Q := by
  have e1 := E_1
  have e2 := E_2
  have e3 := E_3
  have e4 := E_4
  have e5 := E_5
  have e6 := E_6
  have e15 := E_15r
  intro n
  induction n with
  | zero => intro r t d M Q hr; omega
  | succ n ih =>
    intro r t d M Q hr hr60 ht hd hcT hcI h3 h1 h2
    cases r with
    | zero =>
      refine aw_aload_n (n := 1) dX6_work_0 rfl rfl ?_
      refine aw_geti (n := 4) dX6_work_1 fX6_29 (by assumption) rfl rfl ?_
      refine aw_bipush (n := 6) (v := 60) dX6_work_4 (by decide) rfl ?_
      refine aw_icmp_lt (tg := 12) (n := 9) dX6_work_6 (by decide) rfl (fun c_6 => by exact absurd c_6 (by rw [h3]; decide)) (fun c_6 => ?_)
      refine aw_bipush (n := 11) (v := -7) dX6_work_9 (by decide) rfl ?_
      refine aw_iret dX6_work_11 rfl ?_
      exact h1 7 0 M rfl (by decide) h3 ⟨fun _ _ _ => rfl, fun _ _ => rfl⟩
    | succ r0 =>
      have ho : 60 - (r0 + 1) = 59 - r0 := by omega
      rw [ho] at h3 h1 h2
      obtain ⟨own, hown⟩ : ∃ own, own = 59 - r0 := ⟨_, rfl⟩
      rw [← hown] at h3 h1 h2
      have hown60 : own < 60 := by omega
      obtain ⟨w, hw20, hwT, hpA, hpB, hpC, hp4⟩ := hT t ht
      have hin : vp_in (nI t) 60 := vp_in_nI (by omega) (by decide)
      have htt : (nI t).toNatClampNeg = t := nI_clamp (by omega)
      have hinw : vp_in (nI w) 21 := vp_in_nI (by omega) (by decide)
      have hww : (nI w).toNatClampNeg = w := nI_clamp (by omega)
      have main : ∀ M1, M1 1 3 = nI (60 - r0) → fW own M M1 → aw l K mX6_work d 0 0 44 [.ref 1, .int (nI t), .int (nI own), .int (nI w), .int (nI (pts w)), .null, .null, .null, .null] [] EE M1 Q := by
        intro M1 h31 hf1
        have hcT1 := fW_T hf1 hcT
        have hcI1 := fW_I hf1 hcI
        obtain ⟨q3, q4, q5, q6, q7⟩ := hcT1 t ht
        have hopos : (0 : Int32) ≤ nI own := nI_pos' (by omega)
        by_cases hw18 : w ≤ 18
        · have n19 : ¬ nI w = 19 := fun q => absurd ((nI_eq (b := 19) (by omega) (by omega)).mp q) (by omega)
          have n20 : ¬ nI w = 20 := fun q => absurd ((nI_eq (b := 20) (by omega) (by omega)).mp q) (by omega)
          have htail : ∀ (M5 : aM) (pa pb pc : Nat) (va vb vc : vV) (r5 : Nat) (x8 : Value), M5 1 3 = nI (60 - r5) → r5 ≤ r0 → fW own M M5 → pa < 60 → pb < 60 → pc < 60 → (nA w ≠ 4 → vAt M5 (16 + 2 * pa) va ∧ own < pa) → (nB w ≠ 4 → vAt M5 (16 + 2 * pb) vb ∧ own < pb) → (nC w ≠ 4 → vAt M5 (16 + 2 * pc) vc ∧ own < pc) → ev T inp (n + 1) (r0 + 1) t = (r5, op w (T 4 t) inp va vb vc) → aw l K mX6_work d 0 0 167 [.ref 1, .int (nI t), .int (nI own), .int (nI w), .int (nI (pts w)), .int (nI pa), .int (nI pb), .int (nI pc), x8] [] EE M5 Q := by
            intro M5 pa pb pc va vb vc r5 x8 h35 hr5 hf5 ha hb hc hva hvb hvc hev
            obtain ⟨y3, -, -, -, y7⟩ := fW_T hf5 hcT t ht
            refine t_tail (va := va) (vb := vb) (vc := vc) (by omega) hw18 (by omega) (y3.trans hwT) y7 hp4 (fW_I hf5 hcI) hown60 ha hb hc hva hvb hvc (fun k hk => ?_) (fun v M' hv h5 h6 => ?_)
            · exact h1 k r5 M5 (by rw [hev, hk]) (op_code hw18 hk) h35 hf5
            · exact h2 v r5 own M' (by rw [hev, hv]) (by rw [h6 1 (by omega) (by omega)]; exact h35) (fW_own (r0 := r0) hown60 hf5 h6) (Nat.le_refl _) (by omega) h5
          rcases (show pts w = 0 ∨ pts w = 1 ∨ pts w = 2 ∨ pts w = 3 from ptsLe w hw20) with hp | hp | hp | hp
          · obtain ⟨z1, z2, z3⟩ := ptsN0 w hw18 hp
            refine aw_iload (n := 46) dX6_work_44 rfl rfl ?_
            refine aw_if_le (tg := 65) (n := 49) dX6_work_46 (by decide) rfl (fun c_46 => ?_) (fun c_46 => by exact absurd (by rw [hp]; decide) c_46)
            refine aw_iload_n (n := 66) dX6_work_65 rfl rfl ?_
            refine aw_istore (n := 68) (L' := [_, _, _, _, _, _, _, _, _]) dX6_work_66 (Nat.le_of_ble_eq_true rfl) rfl rfl ?_
            refine aw_iload (n := 70) dX6_work_68 rfl rfl ?_
            refine aw_if_ge (tg := 76) (n := 73) dX6_work_70 (by decide) rfl (fun c_70 => ?_) (fun c_70 => by exact absurd hopos c_70)
            refine aw_iload_n (n := 77) dX6_work_76 rfl rfl ?_
            refine aw_bipush (n := 79) (v := 19) dX6_work_77 (by decide) rfl ?_
            refine aw_icmp_eq (tg := 88) (n := 82) dX6_work_79 (by decide) rfl (fun c_79 => by exact absurd c_79 n19) (fun c_79 => ?_)
            refine aw_iload_n (n := 83) dX6_work_82 rfl rfl ?_
            refine aw_bipush (n := 85) (v := 20) dX6_work_83 (by decide) rfl ?_
            refine aw_icmp_ne (tg := 101) (n := 88) dX6_work_85 (by decide) rfl (fun c_85 => ?_) (fun c_85 => by exact absurd c_85 n20)
            refine aw_iload (n := 103) dX6_work_101 rfl rfl ?_
            refine aw_iconst (n := 104) (v := 1) dX6_work_103 (by decide) rfl ?_
            refine aw_icmp_le (tg := 123) (n := 107) dX6_work_104 (by decide) rfl (fun c_104 => ?_) (fun c_104 => by exact absurd (by rw [hp]; decide) c_104)
            refine aw_iload_n (n := 124) dX6_work_123 rfl rfl ?_
            refine aw_istore (n := 126) (L' := [_, _, _, _, _, _, _, _, _]) dX6_work_124 (Nat.le_of_ble_eq_true rfl) rfl rfl ?_
            refine aw_iload (n := 128) dX6_work_126 rfl rfl ?_
            refine aw_if_ge (tg := 134) (n := 131) dX6_work_128 (by decide) rfl (fun c_128 => ?_) (fun c_128 => by exact absurd hopos c_128)
            refine aw_iload (n := 136) dX6_work_134 rfl rfl ?_
            refine aw_iconst (n := 137) (v := 2) dX6_work_136 (by decide) rfl ?_
            refine aw_icmp_le (tg := 156) (n := 140) dX6_work_137 (by decide) rfl (fun c_137 => ?_) (fun c_137 => by exact absurd (by rw [hp]; decide) c_137)
            refine aw_iload_n (n := 157) dX6_work_156 rfl rfl ?_
            refine aw_istore (n := 159) (L' := [_, _, _, _, _, _, _, _, _]) dX6_work_157 (Nat.le_of_ble_eq_true rfl) rfl rfl ?_
            refine aw_iload (n := 161) dX6_work_159 rfl rfl ?_
            refine aw_if_ge (tg := 167) (n := 164) dX6_work_161 (by decide) rfl (fun c_161 => ?_) (fun c_161 => by exact absurd hopos c_161)
            exact htail M1 own own own none none none r0 _ h31 (Nat.le_refl _) hf1 hown60 hown60 hown60 (fun q => absurd z1 q) (fun q => absurd z2 q) (fun q => absurd z3 q) (ev_p0 hwT hw18 hp)
          · obtain ⟨z2, z3⟩ := ptsN1 w hw18 hp
            obtain ⟨ja, hja, hjA⟩ := hpA (by omega)
            refine aw_iload (n := 46) dX6_work_44 rfl rfl ?_
            refine aw_if_le (tg := 65) (n := 49) dX6_work_46 (by decide) rfl (fun c_46 => by exact absurd c_46 (by rw [hp]; decide)) (fun c_46 => ?_)
            refine aw_aload_n (n := 50) dX6_work_49 rfl rfl ?_
            refine aw_aload_n (n := 51) dX6_work_50 rfl rfl ?_
            refine aw_getr (n := 54) dX6_work_51 fX6_12 (by assumption) rfl rfl ?_
            refine aw_getr (n := 57) dX6_work_54 fX6_73 (by assumption) rfl rfl ?_
            refine aw_iload_n (n := 58) dX6_work_57 rfl rfl ?_
            refine aw_iald (n := 59) dX6_work_58 (by assumption) (by assumption) rfl ?_
            rw [htt, q4, hjA]
            refine aw_v1 (d1 := d - 1) (n := 62) (Z := mX6_work) (ci := 4) (L0 := [_, _, .null, .null, .null, .null, .null, .null, .null]) dX6_work_59 kX6_work gX6_41 iyX6_work eyX6_work rfl rfl (by assumption) rfl (Nat.le_of_ble_eq_true rfl) rfl rfl (by omega) (Nat.le_of_ble_eq_true rfl) (ih r0 ja _ M1 _ (by omega) (by omega) (by omega) (by omega) hcT1 hcI1 h31 (fun k r1 M2 hev hk g3 gf => ?_) (fun va r1 pa M2 hev g3 gf gp1 gp2 gva => ?_))
            · dsimp only [aPush]
              have hn := ng_lt hk
              refine aw_goto (n := 66) dX6_work_62 (by decide) ?_
              refine aw_istore (n := 68) (L' := [_, _, _, _, _, _, _, _, _]) dX6_work_66 (Nat.le_of_ble_eq_true rfl) rfl rfl ?_
              refine aw_iload (n := 70) dX6_work_68 rfl rfl ?_
              refine aw_if_ge (tg := 76) (n := 73) dX6_work_70 (by decide) rfl (fun c_70 => by exact absurd c_70 hn) (fun c_70 => ?_)
              refine aw_iload (n := 75) dX6_work_73 rfl rfl ?_
              refine aw_iret dX6_work_75 rfl ?_
              exact h1 k r1 M2 (by rw [ev_p1 hwT hw18 hp hjA (by omega), hev]; rfl) hk g3 (fW_trans hf1 gf (by omega))
            · dsimp only [aPush]
              have hl1 : r1 ≤ r0 := by have := ev_le T inp n r0 ja; rw [hev] at this; exact this
              have hpa0 : (0 : Int32) ≤ nI pa := nI_pos' (by omega)
              have hf2 : fW own M M2 := fW_trans hf1 gf (by omega)
              have hcT2 := fW_T hf2 hcT
              have hcI2 := fW_I hf2 hcI
              obtain ⟨u3, u4, u5, u6, u7⟩ := hcT2 t ht
              refine aw_goto (n := 66) dX6_work_62 (by decide) ?_
              refine aw_istore (n := 68) (L' := [_, _, _, _, _, _, _, _, _]) dX6_work_66 (Nat.le_of_ble_eq_true rfl) rfl rfl ?_
              refine aw_iload (n := 70) dX6_work_68 rfl rfl ?_
              refine aw_if_ge (tg := 76) (n := 73) dX6_work_70 (by decide) rfl (fun c_70 => ?_) (fun c_70 => by exact absurd hpa0 c_70)
              refine aw_iload_n (n := 77) dX6_work_76 rfl rfl ?_
              refine aw_bipush (n := 79) (v := 19) dX6_work_77 (by decide) rfl ?_
              refine aw_icmp_eq (tg := 88) (n := 82) dX6_work_79 (by decide) rfl (fun c_79 => by exact absurd c_79 n19) (fun c_79 => ?_)
              refine aw_iload_n (n := 83) dX6_work_82 rfl rfl ?_
              refine aw_bipush (n := 85) (v := 20) dX6_work_83 (by decide) rfl ?_
              refine aw_icmp_ne (tg := 101) (n := 88) dX6_work_85 (by decide) rfl (fun c_85 => ?_) (fun c_85 => by exact absurd c_85 n20)
              refine aw_iload (n := 103) dX6_work_101 rfl rfl ?_
              refine aw_iconst (n := 104) (v := 1) dX6_work_103 (by decide) rfl ?_
              refine aw_icmp_le (tg := 123) (n := 107) dX6_work_104 (by decide) rfl (fun c_104 => ?_) (fun c_104 => by exact absurd (by rw [hp]; decide) c_104)
              refine aw_iload_n (n := 124) dX6_work_123 rfl rfl ?_
              refine aw_istore (n := 126) (L' := [_, _, _, _, _, _, _, _, _]) dX6_work_124 (Nat.le_of_ble_eq_true rfl) rfl rfl ?_
              refine aw_iload (n := 128) dX6_work_126 rfl rfl ?_
              refine aw_if_ge (tg := 134) (n := 131) dX6_work_128 (by decide) rfl (fun c_128 => ?_) (fun c_128 => by exact absurd hopos c_128)
              refine aw_iload (n := 136) dX6_work_134 rfl rfl ?_
              refine aw_iconst (n := 137) (v := 2) dX6_work_136 (by decide) rfl ?_
              refine aw_icmp_le (tg := 156) (n := 140) dX6_work_137 (by decide) rfl (fun c_137 => ?_) (fun c_137 => by exact absurd (by rw [hp]; decide) c_137)
              refine aw_iload_n (n := 157) dX6_work_156 rfl rfl ?_
              refine aw_istore (n := 159) (L' := [_, _, _, _, _, _, _, _, _]) dX6_work_157 (Nat.le_of_ble_eq_true rfl) rfl rfl ?_
              refine aw_iload (n := 161) dX6_work_159 rfl rfl ?_
              refine aw_if_ge (tg := 167) (n := 164) dX6_work_161 (by decide) rfl (fun c_161 => ?_) (fun c_161 => by exact absurd hopos c_161)
              exact htail M2 pa own own va none none r1 _ g3 hl1 hf2 (by omega) hown60 hown60 (fun _ => ⟨gva, by omega⟩) (fun q => absurd z2 q) (fun q => absurd z3 q) (by rw [ev_p1 hwT hw18 hp hjA (by omega), hev]; rfl)
          · have z3 := ptsN2 w hw18 hp
            obtain ⟨ja, hja, hjA⟩ := hpA (by omega)
            obtain ⟨jb, hjb, hjB⟩ := hpB (by omega)
            refine aw_iload (n := 46) dX6_work_44 rfl rfl ?_
            refine aw_if_le (tg := 65) (n := 49) dX6_work_46 (by decide) rfl (fun c_46 => by exact absurd c_46 (by rw [hp]; decide)) (fun c_46 => ?_)
            refine aw_aload_n (n := 50) dX6_work_49 rfl rfl ?_
            refine aw_aload_n (n := 51) dX6_work_50 rfl rfl ?_
            refine aw_getr (n := 54) dX6_work_51 fX6_12 (by assumption) rfl rfl ?_
            refine aw_getr (n := 57) dX6_work_54 fX6_73 (by assumption) rfl rfl ?_
            refine aw_iload_n (n := 58) dX6_work_57 rfl rfl ?_
            refine aw_iald (n := 59) dX6_work_58 (by assumption) (by assumption) rfl ?_
            rw [htt, q4, hjA]
            refine aw_v1 (d1 := d - 1) (n := 62) (Z := mX6_work) (ci := 4) (L0 := [_, _, .null, .null, .null, .null, .null, .null, .null]) dX6_work_59 kX6_work gX6_41 iyX6_work eyX6_work rfl rfl (by assumption) rfl (Nat.le_of_ble_eq_true rfl) rfl rfl (by omega) (Nat.le_of_ble_eq_true rfl) (ih r0 ja _ M1 _ (by omega) (by omega) (by omega) (by omega) hcT1 hcI1 h31 (fun k r1 M2 hev hk g3 gf => ?_) (fun va r1 pa M2 hev g3 gf gp1 gp2 gva => ?_))
            · dsimp only [aPush]
              have hn := ng_lt hk
              refine aw_goto (n := 66) dX6_work_62 (by decide) ?_
              refine aw_istore (n := 68) (L' := [_, _, _, _, _, _, _, _, _]) dX6_work_66 (Nat.le_of_ble_eq_true rfl) rfl rfl ?_
              refine aw_iload (n := 70) dX6_work_68 rfl rfl ?_
              refine aw_if_ge (tg := 76) (n := 73) dX6_work_70 (by decide) rfl (fun c_70 => by exact absurd c_70 hn) (fun c_70 => ?_)
              refine aw_iload (n := 75) dX6_work_73 rfl rfl ?_
              refine aw_iret dX6_work_75 rfl ?_
              exact h1 k r1 M2 (by rw [ev_p2 hwT hw18 hp hjA (by omega) hjB (by omega), hev]; rfl) hk g3 (fW_trans hf1 gf (by omega))
            · dsimp only [aPush]
              have hl1 : r1 ≤ r0 := by have := ev_le T inp n r0 ja; rw [hev] at this; exact this
              have hpa0 : (0 : Int32) ≤ nI pa := nI_pos' (by omega)
              have hf2 : fW own M M2 := fW_trans hf1 gf (by omega)
              have hcT2 := fW_T hf2 hcT
              have hcI2 := fW_I hf2 hcI
              obtain ⟨u3, u4, u5, u6, u7⟩ := hcT2 t ht
              refine aw_goto (n := 66) dX6_work_62 (by decide) ?_
              refine aw_istore (n := 68) (L' := [_, _, _, _, _, _, _, _, _]) dX6_work_66 (Nat.le_of_ble_eq_true rfl) rfl rfl ?_
              refine aw_iload (n := 70) dX6_work_68 rfl rfl ?_
              refine aw_if_ge (tg := 76) (n := 73) dX6_work_70 (by decide) rfl (fun c_70 => ?_) (fun c_70 => by exact absurd hpa0 c_70)
              refine aw_iload_n (n := 77) dX6_work_76 rfl rfl ?_
              refine aw_bipush (n := 79) (v := 19) dX6_work_77 (by decide) rfl ?_
              refine aw_icmp_eq (tg := 88) (n := 82) dX6_work_79 (by decide) rfl (fun c_79 => by exact absurd c_79 n19) (fun c_79 => ?_)
              refine aw_iload_n (n := 83) dX6_work_82 rfl rfl ?_
              refine aw_bipush (n := 85) (v := 20) dX6_work_83 (by decide) rfl ?_
              refine aw_icmp_ne (tg := 101) (n := 88) dX6_work_85 (by decide) rfl (fun c_85 => ?_) (fun c_85 => by exact absurd c_85 n20)
              refine aw_iload (n := 103) dX6_work_101 rfl rfl ?_
              refine aw_iconst (n := 104) (v := 1) dX6_work_103 (by decide) rfl ?_
              refine aw_icmp_le (tg := 123) (n := 107) dX6_work_104 (by decide) rfl (fun c_104 => by exact absurd c_104 (by rw [hp]; decide)) (fun c_104 => ?_)
              refine aw_aload_n (n := 108) dX6_work_107 rfl rfl ?_
              refine aw_aload_n (n := 109) dX6_work_108 rfl rfl ?_
              refine aw_getr (n := 112) dX6_work_109 fX6_12 (by assumption) rfl rfl ?_
              refine aw_getr (n := 115) dX6_work_112 fX6_80 (by assumption) rfl rfl ?_
              refine aw_iload_n (n := 116) dX6_work_115 rfl rfl ?_
              refine aw_iald (n := 117) dX6_work_116 (by assumption) (by assumption) rfl ?_
              rw [htt, u5, hjB]
              refine aw_v1 (d1 := d - 1) (n := 120) (Z := mX6_work) (ci := 4) (L0 := [_, _, .null, .null, .null, .null, .null, .null, .null]) dX6_work_117 kX6_work gX6_41 iyX6_work eyX6_work rfl rfl (by assumption) rfl (Nat.le_of_ble_eq_true rfl) rfl rfl (by omega) (Nat.le_of_ble_eq_true rfl) (ih r1 jb _ M2 _ (by omega) (by omega) (by omega) (by omega) hcT2 hcI2 g3 (fun k r2 M3 hev2 hk g32 gf2 => ?_) (fun vb r2 pb M3 hev2 g32 gf2 gp3 gp4 gvb => ?_))
              · dsimp only [aPush]
                have hn := ng_lt hk
                refine aw_goto (n := 124) dX6_work_120 (by decide) ?_
                refine aw_istore (n := 126) (L' := [_, _, _, _, _, _, _, _, _]) dX6_work_124 (Nat.le_of_ble_eq_true rfl) rfl rfl ?_
                refine aw_iload (n := 128) dX6_work_126 rfl rfl ?_
                refine aw_if_ge (tg := 134) (n := 131) dX6_work_128 (by decide) rfl (fun c_128 => by exact absurd c_128 hn) (fun c_128 => ?_)
                refine aw_iload (n := 133) dX6_work_131 rfl rfl ?_
                refine aw_iret dX6_work_133 rfl ?_
                exact h1 k r2 M3 (by rw [ev_p2 hwT hw18 hp hjA (by omega) hjB (by omega), hev]; show eB (ev T inp n r1 jb) _ = _; rw [hev2]; rfl) hk g32 (fW_trans hf2 gf2 (by omega))
              · dsimp only [aPush]
                have hl2 : r2 ≤ r1 := by have := ev_le T inp n r1 jb; rw [hev2] at this; exact this
                have hpb0 : (0 : Int32) ≤ nI pb := nI_pos' (by omega)
                have hf3 : fW own M M3 := fW_trans hf2 gf2 (by omega)
                have hcT3 := fW_T hf3 hcT
                have hcI3 := fW_I hf3 hcI
                obtain ⟨v3, v4, v5, v6, v7⟩ := hcT3 t ht
                have gva3 := fW_V gf2 (by omega) (by omega) gva
                refine aw_goto (n := 124) dX6_work_120 (by decide) ?_
                refine aw_istore (n := 126) (L' := [_, _, _, _, _, _, _, _, _]) dX6_work_124 (Nat.le_of_ble_eq_true rfl) rfl rfl ?_
                refine aw_iload (n := 128) dX6_work_126 rfl rfl ?_
                refine aw_if_ge (tg := 134) (n := 131) dX6_work_128 (by decide) rfl (fun c_128 => ?_) (fun c_128 => by exact absurd hpb0 c_128)
                refine aw_iload (n := 136) dX6_work_134 rfl rfl ?_
                refine aw_iconst (n := 137) (v := 2) dX6_work_136 (by decide) rfl ?_
                refine aw_icmp_le (tg := 156) (n := 140) dX6_work_137 (by decide) rfl (fun c_137 => ?_) (fun c_137 => by exact absurd (by rw [hp]; decide) c_137)
                refine aw_iload_n (n := 157) dX6_work_156 rfl rfl ?_
                refine aw_istore (n := 159) (L' := [_, _, _, _, _, _, _, _, _]) dX6_work_157 (Nat.le_of_ble_eq_true rfl) rfl rfl ?_
                refine aw_iload (n := 161) dX6_work_159 rfl rfl ?_
                refine aw_if_ge (tg := 167) (n := 164) dX6_work_161 (by decide) rfl (fun c_161 => ?_) (fun c_161 => by exact absurd hopos c_161)
                exact htail M3 pa pb own va vb none r2 _ g32 (by omega) hf3 (by omega) (by omega) hown60 (fun _ => ⟨gva3, by omega⟩) (fun _ => ⟨gvb, by omega⟩) (fun q => absurd z3 q) (by rw [ev_p2 hwT hw18 hp hjA (by omega) hjB (by omega), hev]; show eB (ev T inp n r1 jb) _ = _; rw [hev2]; rfl)
          · skip
            obtain ⟨ja, hja, hjA⟩ := hpA (by omega)
            obtain ⟨jb, hjb, hjB⟩ := hpB (by omega)
            obtain ⟨jc, hjc, hjC⟩ := hpC (by omega)
            refine aw_iload (n := 46) dX6_work_44 rfl rfl ?_
            refine aw_if_le (tg := 65) (n := 49) dX6_work_46 (by decide) rfl (fun c_46 => by exact absurd c_46 (by rw [hp]; decide)) (fun c_46 => ?_)
            refine aw_aload_n (n := 50) dX6_work_49 rfl rfl ?_
            refine aw_aload_n (n := 51) dX6_work_50 rfl rfl ?_
            refine aw_getr (n := 54) dX6_work_51 fX6_12 (by assumption) rfl rfl ?_
            refine aw_getr (n := 57) dX6_work_54 fX6_73 (by assumption) rfl rfl ?_
            refine aw_iload_n (n := 58) dX6_work_57 rfl rfl ?_
            refine aw_iald (n := 59) dX6_work_58 (by assumption) (by assumption) rfl ?_
            rw [htt, q4, hjA]
            refine aw_v1 (d1 := d - 1) (n := 62) (Z := mX6_work) (ci := 4) (L0 := [_, _, .null, .null, .null, .null, .null, .null, .null]) dX6_work_59 kX6_work gX6_41 iyX6_work eyX6_work rfl rfl (by assumption) rfl (Nat.le_of_ble_eq_true rfl) rfl rfl (by omega) (Nat.le_of_ble_eq_true rfl) (ih r0 ja _ M1 _ (by omega) (by omega) (by omega) (by omega) hcT1 hcI1 h31 (fun k r1 M2 hev hk g3 gf => ?_) (fun va r1 pa M2 hev g3 gf gp1 gp2 gva => ?_))
            · dsimp only [aPush]
              have hn := ng_lt hk
              refine aw_goto (n := 66) dX6_work_62 (by decide) ?_
              refine aw_istore (n := 68) (L' := [_, _, _, _, _, _, _, _, _]) dX6_work_66 (Nat.le_of_ble_eq_true rfl) rfl rfl ?_
              refine aw_iload (n := 70) dX6_work_68 rfl rfl ?_
              refine aw_if_ge (tg := 76) (n := 73) dX6_work_70 (by decide) rfl (fun c_70 => by exact absurd c_70 hn) (fun c_70 => ?_)
              refine aw_iload (n := 75) dX6_work_73 rfl rfl ?_
              refine aw_iret dX6_work_75 rfl ?_
              exact h1 k r1 M2 (by rw [ev_p3 hwT hw18 hp hjA (by omega) hjB (by omega) hjC (by omega), hev]; rfl) hk g3 (fW_trans hf1 gf (by omega))
            · dsimp only [aPush]
              have hl1 : r1 ≤ r0 := by have := ev_le T inp n r0 ja; rw [hev] at this; exact this
              have hpa0 : (0 : Int32) ≤ nI pa := nI_pos' (by omega)
              have hf2 : fW own M M2 := fW_trans hf1 gf (by omega)
              have hcT2 := fW_T hf2 hcT
              have hcI2 := fW_I hf2 hcI
              obtain ⟨u3, u4, u5, u6, u7⟩ := hcT2 t ht
              refine aw_goto (n := 66) dX6_work_62 (by decide) ?_
              refine aw_istore (n := 68) (L' := [_, _, _, _, _, _, _, _, _]) dX6_work_66 (Nat.le_of_ble_eq_true rfl) rfl rfl ?_
              refine aw_iload (n := 70) dX6_work_68 rfl rfl ?_
              refine aw_if_ge (tg := 76) (n := 73) dX6_work_70 (by decide) rfl (fun c_70 => ?_) (fun c_70 => by exact absurd hpa0 c_70)
              refine aw_iload_n (n := 77) dX6_work_76 rfl rfl ?_
              refine aw_bipush (n := 79) (v := 19) dX6_work_77 (by decide) rfl ?_
              refine aw_icmp_eq (tg := 88) (n := 82) dX6_work_79 (by decide) rfl (fun c_79 => by exact absurd c_79 n19) (fun c_79 => ?_)
              refine aw_iload_n (n := 83) dX6_work_82 rfl rfl ?_
              refine aw_bipush (n := 85) (v := 20) dX6_work_83 (by decide) rfl ?_
              refine aw_icmp_ne (tg := 101) (n := 88) dX6_work_85 (by decide) rfl (fun c_85 => ?_) (fun c_85 => by exact absurd c_85 n20)
              refine aw_iload (n := 103) dX6_work_101 rfl rfl ?_
              refine aw_iconst (n := 104) (v := 1) dX6_work_103 (by decide) rfl ?_
              refine aw_icmp_le (tg := 123) (n := 107) dX6_work_104 (by decide) rfl (fun c_104 => by exact absurd c_104 (by rw [hp]; decide)) (fun c_104 => ?_)
              refine aw_aload_n (n := 108) dX6_work_107 rfl rfl ?_
              refine aw_aload_n (n := 109) dX6_work_108 rfl rfl ?_
              refine aw_getr (n := 112) dX6_work_109 fX6_12 (by assumption) rfl rfl ?_
              refine aw_getr (n := 115) dX6_work_112 fX6_80 (by assumption) rfl rfl ?_
              refine aw_iload_n (n := 116) dX6_work_115 rfl rfl ?_
              refine aw_iald (n := 117) dX6_work_116 (by assumption) (by assumption) rfl ?_
              rw [htt, u5, hjB]
              refine aw_v1 (d1 := d - 1) (n := 120) (Z := mX6_work) (ci := 4) (L0 := [_, _, .null, .null, .null, .null, .null, .null, .null]) dX6_work_117 kX6_work gX6_41 iyX6_work eyX6_work rfl rfl (by assumption) rfl (Nat.le_of_ble_eq_true rfl) rfl rfl (by omega) (Nat.le_of_ble_eq_true rfl) (ih r1 jb _ M2 _ (by omega) (by omega) (by omega) (by omega) hcT2 hcI2 g3 (fun k r2 M3 hev2 hk g32 gf2 => ?_) (fun vb r2 pb M3 hev2 g32 gf2 gp3 gp4 gvb => ?_))
              · dsimp only [aPush]
                have hn := ng_lt hk
                refine aw_goto (n := 124) dX6_work_120 (by decide) ?_
                refine aw_istore (n := 126) (L' := [_, _, _, _, _, _, _, _, _]) dX6_work_124 (Nat.le_of_ble_eq_true rfl) rfl rfl ?_
                refine aw_iload (n := 128) dX6_work_126 rfl rfl ?_
                refine aw_if_ge (tg := 134) (n := 131) dX6_work_128 (by decide) rfl (fun c_128 => by exact absurd c_128 hn) (fun c_128 => ?_)
                refine aw_iload (n := 133) dX6_work_131 rfl rfl ?_
                refine aw_iret dX6_work_133 rfl ?_
                exact h1 k r2 M3 (by rw [ev_p3 hwT hw18 hp hjA (by omega) hjB (by omega) hjC (by omega), hev]; show eB (ev T inp n r1 jb) _ = _; rw [hev2]; rfl) hk g32 (fW_trans hf2 gf2 (by omega))
              · dsimp only [aPush]
                have hl2 : r2 ≤ r1 := by have := ev_le T inp n r1 jb; rw [hev2] at this; exact this
                have hpb0 : (0 : Int32) ≤ nI pb := nI_pos' (by omega)
                have hf3 : fW own M M3 := fW_trans hf2 gf2 (by omega)
                have hcT3 := fW_T hf3 hcT
                have hcI3 := fW_I hf3 hcI
                obtain ⟨v3, v4, v5, v6, v7⟩ := hcT3 t ht
                have gva3 := fW_V gf2 (by omega) (by omega) gva
                refine aw_goto (n := 124) dX6_work_120 (by decide) ?_
                refine aw_istore (n := 126) (L' := [_, _, _, _, _, _, _, _, _]) dX6_work_124 (Nat.le_of_ble_eq_true rfl) rfl rfl ?_
                refine aw_iload (n := 128) dX6_work_126 rfl rfl ?_
                refine aw_if_ge (tg := 134) (n := 131) dX6_work_128 (by decide) rfl (fun c_128 => ?_) (fun c_128 => by exact absurd hpb0 c_128)
                refine aw_iload (n := 136) dX6_work_134 rfl rfl ?_
                refine aw_iconst (n := 137) (v := 2) dX6_work_136 (by decide) rfl ?_
                refine aw_icmp_le (tg := 156) (n := 140) dX6_work_137 (by decide) rfl (fun c_137 => by exact absurd c_137 (by rw [hp]; decide)) (fun c_137 => ?_)
                refine aw_aload_n (n := 141) dX6_work_140 rfl rfl ?_
                refine aw_aload_n (n := 142) dX6_work_141 rfl rfl ?_
                refine aw_getr (n := 145) dX6_work_142 fX6_12 (by assumption) rfl rfl ?_
                refine aw_getr (n := 148) dX6_work_145 fX6_83 (by assumption) rfl rfl ?_
                refine aw_iload_n (n := 149) dX6_work_148 rfl rfl ?_
                refine aw_iald (n := 150) dX6_work_149 (by assumption) (by assumption) rfl ?_
                rw [htt, v6, hjC]
                refine aw_v1 (d1 := d - 1) (n := 153) (Z := mX6_work) (ci := 4) (L0 := [_, _, .null, .null, .null, .null, .null, .null, .null]) dX6_work_150 kX6_work gX6_41 iyX6_work eyX6_work rfl rfl (by assumption) rfl (Nat.le_of_ble_eq_true rfl) rfl rfl (by omega) (Nat.le_of_ble_eq_true rfl) (ih r2 jc _ M3 _ (by omega) (by omega) (by omega) (by omega) hcT3 hcI3 g32 (fun k r3 M4 hev3 hk g33 gf3 => ?_) (fun vc r3 pc M4 hev3 g33 gf3 gp5 gp6 gvc => ?_))
                · dsimp only [aPush]
                  have hn := ng_lt hk
                  refine aw_goto (n := 157) dX6_work_153 (by decide) ?_
                  refine aw_istore (n := 159) (L' := [_, _, _, _, _, _, _, _, _]) dX6_work_157 (Nat.le_of_ble_eq_true rfl) rfl rfl ?_
                  refine aw_iload (n := 161) dX6_work_159 rfl rfl ?_
                  refine aw_if_ge (tg := 167) (n := 164) dX6_work_161 (by decide) rfl (fun c_161 => by exact absurd c_161 hn) (fun c_161 => ?_)
                  refine aw_iload (n := 166) dX6_work_164 rfl rfl ?_
                  refine aw_iret dX6_work_166 rfl ?_
                  exact h1 k r3 M4 (by rw [ev_p3 hwT hw18 hp hjA (by omega) hjB (by omega) hjC (by omega), hev]; show eB (ev T inp n r1 jb) _ = _; rw [hev2]; show eB (ev T inp n r2 jc) _ = _; rw [hev3]; rfl) hk g33 (fW_trans hf3 gf3 (by omega))
                · dsimp only [aPush]
                  have hl3 : r3 ≤ r2 := by have := ev_le T inp n r2 jc; rw [hev3] at this; exact this
                  have hpc0 : (0 : Int32) ≤ nI pc := nI_pos' (by omega)
                  refine aw_goto (n := 157) dX6_work_153 (by decide) ?_
                  refine aw_istore (n := 159) (L' := [_, _, _, _, _, _, _, _, _]) dX6_work_157 (Nat.le_of_ble_eq_true rfl) rfl rfl ?_
                  refine aw_iload (n := 161) dX6_work_159 rfl rfl ?_
                  refine aw_if_ge (tg := 167) (n := 164) dX6_work_161 (by decide) rfl (fun c_161 => ?_) (fun c_161 => by exact absurd hpc0 c_161)
                  exact htail M4 pa pb pc va vb vc r3 _ g33 (by omega) (fW_trans hf3 gf3 (by omega)) (by omega) (by omega) (by omega) (fun _ => ⟨fW_V gf3 (by omega) (by omega) gva3, by omega⟩) (fun _ => ⟨fW_V gf3 (by omega) (by omega) gvb, by omega⟩) (fun _ => ⟨gvc, by omega⟩) (by rw [ev_p3 hwT hw18 hp hjA (by omega) hjB (by omega) hjC (by omega), hev]; show eB (ev T inp n r1 jb) _ = _; rw [hev2]; show eB (ev T inp n r2 jc) _ = _; rw [hev3]; rfl)
        · have hpp : 2 ≤ pts w ∧ (w = 19 → pts w = 3) := ptsN9 w hw20 (by omega)
          by_cases h19 : w = 19
          · obtain rfl : w = 19 := h19
            obtain ⟨ja, hja, hjA⟩ := hpA (by omega)
            obtain ⟨jb, hjb, hjB⟩ := hpB (by omega)
            obtain ⟨jc, hjc, hjC⟩ := hpC (by omega)
            refine aw_iload (n := 46) dX6_work_44 rfl rfl ?_
            refine aw_if_le (tg := 65) (n := 49) dX6_work_46 (by decide) rfl (fun c_46 => by exact absurd c_46 (by decide)) (fun c_46 => ?_)
            refine aw_aload_n (n := 50) dX6_work_49 rfl rfl ?_
            refine aw_aload_n (n := 51) dX6_work_50 rfl rfl ?_
            refine aw_getr (n := 54) dX6_work_51 fX6_12 (by assumption) rfl rfl ?_
            refine aw_getr (n := 57) dX6_work_54 fX6_73 (by assumption) rfl rfl ?_
            refine aw_iload_n (n := 58) dX6_work_57 rfl rfl ?_
            refine aw_iald (n := 59) dX6_work_58 (by assumption) (by assumption) rfl ?_
            rw [htt, q4, hjA]
            refine aw_v1 (d1 := d - 1) (n := 62) (Z := mX6_work) (ci := 4) (L0 := [_, _, .null, .null, .null, .null, .null, .null, .null]) dX6_work_59 kX6_work gX6_41 iyX6_work eyX6_work rfl rfl (by assumption) rfl (Nat.le_of_ble_eq_true rfl) rfl rfl (by omega) (Nat.le_of_ble_eq_true rfl) (ih r0 ja _ M1 _ (by omega) (by omega) (by omega) (by omega) hcT1 hcI1 h31 (fun k r1 M2 hev hk g3 gf => ?_) (fun va r1 pa M2 hev g3 gf gp1 gp2 gva => ?_))
            · dsimp only [aPush]
              have hn := ng_lt hk
              refine aw_goto (n := 66) dX6_work_62 (by decide) ?_
              refine aw_istore (n := 68) (L' := [_, _, _, _, _, _, _, _, _]) dX6_work_66 (Nat.le_of_ble_eq_true rfl) rfl rfl ?_
              refine aw_iload (n := 70) dX6_work_68 rfl rfl ?_
              refine aw_if_ge (tg := 76) (n := 73) dX6_work_70 (by decide) rfl (fun c_70 => by exact absurd c_70 hn) (fun c_70 => ?_)
              refine aw_iload (n := 75) dX6_work_73 rfl rfl ?_
              refine aw_iret dX6_work_75 rfl ?_
              exact h1 k r1 M2 (by rw [ev_19 hwT hjA (by omega) hjB (by omega) hjC (by omega), hev]; rfl) hk g3 (fW_trans hf1 gf (by omega))
            · dsimp only [aPush]
              have hl1 : r1 ≤ r0 := by have := ev_le T inp n r0 ja; rw [hev] at this; exact this
              have hpa0 : (0 : Int32) ≤ nI pa := nI_pos' (by omega)
              have hf2 : fW own M M2 := fW_trans hf1 gf (by omega)
              have hcT2 := fW_T hf2 hcT
              have hcI2 := fW_I hf2 hcI
              obtain ⟨u3, u4, u5, u6, u7⟩ := hcT2 t ht
              obtain ⟨hvp1, hvp2⟩ := iV_st pa (by omega)
              have hinpa : vp_in (nI pa) rSt.length := vp_in_nI (show pa < 60 by omega) (by decide)
              have hrpa : rSt[(nI pa).toNatClampNeg]? = some (some (16 + 2 * pa)) := by rw [nI_clamp (by omega)]; exact rSt_at pa (by omega)
              refine aw_goto (n := 66) dX6_work_62 (by decide) ?_
              refine aw_istore (n := 68) (L' := [_, _, _, _, _, _, _, _, _]) dX6_work_66 (Nat.le_of_ble_eq_true rfl) rfl rfl ?_
              refine aw_iload (n := 70) dX6_work_68 rfl rfl ?_
              refine aw_if_ge (tg := 76) (n := 73) dX6_work_70 (by decide) rfl (fun c_70 => ?_) (fun c_70 => by exact absurd hpa0 c_70)
              refine aw_iload_n (n := 77) dX6_work_76 rfl rfl ?_
              refine aw_bipush (n := 79) (v := 19) dX6_work_77 (by decide) rfl ?_
              refine aw_icmp_eq (tg := 88) (n := 82) dX6_work_79 (by decide) rfl (fun c_79 => ?_) (fun c_79 => by exact absurd (by decide) c_79)
              refine aw_aload_n (n := 89) dX6_work_88 rfl rfl ?_
              refine aw_iload_n (n := 90) dX6_work_89 rfl rfl ?_
              refine aw_iload_n (n := 91) dX6_work_90 rfl rfl ?_
              refine aw_aload_n (n := 92) dX6_work_91 rfl rfl ?_
              refine aw_iload (n := 94) dX6_work_92 rfl rfl ?_
              refine aw_v1 (d1 := d - 1) (n := 97) (Z := mX6_asWhole) (ci := 4) (L0 := [_, _, .null]) dX6_work_94 kX6_asWhole gX6_45 iyX6_asWhole eyX6_asWhole rfl rfl (by assumption) rfl (Nat.le_of_ble_eq_true rfl) rfl rfl (by omega) (Nat.le_of_ble_eq_true rfl) (t_asWhole (by omega) (by omega) gva (fun hl => ?_) (fun x hx => ?_))
              · dsimp only [aPush]
                obtain ⟨hlw, hlc⟩ := lk0_W (v := va) rfl hl r1 (fun x => if x = 0 then ev T inp n r1 jc else ev T inp n r1 jb)
                have hn := ng_lt hlc
                refine aw_v3 (d1 := d - 1) (n := 100) (Z := mX6_workChosen) (ci := 4) (L0 := [_, _, _, _, .null, .null]) dX6_work_97 kX6_workChosen gX6_76 iyX6_workChosen eyX6_workChosen rfl rfl (by assumption) rfl rfl rfl (Nat.le_of_ble_eq_true rfl) rfl rfl (by omega) (Nat.le_of_ble_eq_true rfl) ?_
                refine aw_iload_n (n := 1) dX6_workChosen_0 rfl rfl ?_
                refine aw_if_ge (tg := 6) (n := 4) dX6_workChosen_1 (by decide) rfl (fun c_1 => by exact absurd c_1 hn) (fun c_1 => ?_)
                refine aw_iload_n (n := 5) dX6_workChosen_4 rfl rfl ?_
                refine aw_iret dX6_workChosen_5 rfl ?_
                dsimp only [aPush]
                refine aw_iret dX6_work_100 rfl ?_
                exact h1 _ r1 M2 (by rw [ev_19 hwT hjA (by omega) hjB (by omega) hjC (by omega), hev]; exact hlw) hlc g3 hf2
              · dsimp only [aPush]
                subst hx
                have hxM := vAt_W gva
                refine aw_v3 (d1 := d - 1) (n := 100) (Z := mX6_workChosen) (ci := 4) (L0 := [_, _, _, _, .null, .null]) dX6_work_97 kX6_workChosen gX6_76 iyX6_workChosen eyX6_workChosen rfl rfl (by assumption) rfl rfl rfl (Nat.le_of_ble_eq_true rfl) rfl rfl (by omega) (Nat.le_of_ble_eq_true rfl) ?_
                refine aw_iload_n (n := 1) dX6_workChosen_0 rfl rfl ?_
                refine aw_if_ge (tg := 6) (n := 4) dX6_workChosen_1 (by decide) rfl (fun c_1 => ?_) (fun c_1 => by exact absurd hpa0 c_1)
                refine aw_aload_n (n := 7) dX6_workChosen_6 rfl rfl ?_
                refine aw_getr (n := 10) dX6_workChosen_7 fX6_26 (by assumption) rfl rfl ?_
                refine aw_iload_n (n := 11) dX6_workChosen_10 rfl rfl ?_
                refine aw_aald (n := 12) dX6_workChosen_11 (by assumption) (by decide) (by assumption) (by assumption) rfl ?_
                refine aw_geti (n := 15) dX6_workChosen_12 fX6_48 (by assumption) rfl rfl ?_
                rw [hxM]
                refine aw_if_eq (tg := 22) (n := 18) dX6_workChosen_15 (by decide) rfl (fun cx => ?_) (fun cx => ?_)
                · refine aw_iconst (n := 23) (v := 0) dX6_workChosen_22 (by decide) rfl ?_
                  refine aw_istore (n := 25) (L' := [_, _, _, _, _, _]) dX6_workChosen_23 (Nat.le_of_ble_eq_true rfl) rfl rfl ?_
                  refine aw_aload_n (n := 26) dX6_workChosen_25 rfl rfl ?_
                  refine aw_getr (n := 29) dX6_workChosen_26 fX6_12 (by assumption) rfl rfl ?_
                  refine aw_getr (n := 32) dX6_workChosen_29 fX6_66 (by assumption) rfl rfl ?_
                  refine aw_iload_n (n := 33) dX6_workChosen_32 rfl rfl ?_
                  refine aw_iald (n := 34) dX6_workChosen_33 (by assumption) (by assumption) rfl ?_
                  rw [htt, u3, hwT]
                  refine aw_bipush (n := 36) (v := 19) dX6_workChosen_34 (by decide) rfl ?_
                  refine aw_icmp_ne (tg := 70) (n := 39) dX6_workChosen_36 (by decide) rfl (fun c_36 => by exact absurd (by decide) c_36) (fun c_36 => ?_)
                  refine aw_aload_n (n := 40) dX6_workChosen_39 rfl rfl ?_
                  refine aw_iload (n := 42) dX6_workChosen_40 rfl rfl ?_
                  refine aw_if_eq (tg := 57) (n := 45) dX6_workChosen_42 (by decide) rfl (fun _ => ?_) (fun c_42 => by first | exact absurd rfl c_42 | exact absurd c_42 (by decide))
                  refine aw_aload_n (n := 58) dX6_workChosen_57 rfl rfl ?_
                  refine aw_getr (n := 61) dX6_workChosen_58 fX6_12 (by assumption) rfl rfl ?_
                  refine aw_getr (n := 64) dX6_workChosen_61 fX6_83 (by assumption) rfl rfl ?_
                  refine aw_iload_n (n := 65) dX6_workChosen_64 rfl rfl ?_
                  refine aw_iald (n := 66) dX6_workChosen_65 (by assumption) (by assumption) rfl ?_
                  first | rw [htt, u6, hjC] | skip
                  refine aw_v1 (d1 := d - 1 - 1) (n := 69) (Z := mX6_work) (ci := 4) (L0 := [_, _, .null, .null, .null, .null, .null, .null, .null]) dX6_workChosen_66 kX6_work gX6_41 iyX6_work eyX6_work rfl rfl (by assumption) rfl (Nat.le_of_ble_eq_true rfl) rfl rfl (by omega) (Nat.le_of_ble_eq_true rfl) (ih r1 jc _ M2 _ (by omega) (by omega) (by omega) (by omega) hcT2 hcI2 g3 (fun k r2 M3 hev2 hk g32 gf2 => ?_) (fun v r2 p M3 hev2 g32 gf2 gp3 gp4 gv => ?_))
                  · dsimp only [aPush]
                    refine aw_iret dX6_workChosen_69 rfl ?_
                    dsimp only [aPush]
                    refine aw_iret dX6_work_100 rfl ?_
                    refine h1 k r2 M3 ?_ hk g32 (fW_trans hf2 gf2 (by omega))
                    rw [ev_19 hwT hjA (by omega) hjB (by omega) hjC (by omega), hev]
                    show (if x = 0 then ev T inp n r1 jc else ev T inp n r1 jb) = _
                    first | (rw [if_pos cx]; exact hev2) | (rw [if_neg cx]; exact hev2)
                  · dsimp only [aPush]
                    refine aw_iret dX6_workChosen_69 rfl ?_
                    dsimp only [aPush]
                    refine aw_iret dX6_work_100 rfl ?_
                    refine h2 v r2 p M3 ?_ g32 (fW_trans hf2 gf2 (by omega)) (by omega) gp4 gv
                    rw [ev_19 hwT hjA (by omega) hjB (by omega) hjC (by omega), hev]
                    show (if x = 0 then ev T inp n r1 jc else ev T inp n r1 jb) = _
                    first | (rw [if_pos cx]; exact hev2) | (rw [if_neg cx]; exact hev2)
                · refine aw_iconst (n := 19) (v := 1) dX6_workChosen_18 (by decide) rfl ?_
                  refine aw_goto (n := 23) dX6_workChosen_19 (by decide) ?_
                  refine aw_istore (n := 25) (L' := [_, _, _, _, _, _]) dX6_workChosen_23 (Nat.le_of_ble_eq_true rfl) rfl rfl ?_
                  refine aw_aload_n (n := 26) dX6_workChosen_25 rfl rfl ?_
                  refine aw_getr (n := 29) dX6_workChosen_26 fX6_12 (by assumption) rfl rfl ?_
                  refine aw_getr (n := 32) dX6_workChosen_29 fX6_66 (by assumption) rfl rfl ?_
                  refine aw_iload_n (n := 33) dX6_workChosen_32 rfl rfl ?_
                  refine aw_iald (n := 34) dX6_workChosen_33 (by assumption) (by assumption) rfl ?_
                  rw [htt, u3, hwT]
                  refine aw_bipush (n := 36) (v := 19) dX6_workChosen_34 (by decide) rfl ?_
                  refine aw_icmp_ne (tg := 70) (n := 39) dX6_workChosen_36 (by decide) rfl (fun c_36 => by exact absurd (by decide) c_36) (fun c_36 => ?_)
                  refine aw_aload_n (n := 40) dX6_workChosen_39 rfl rfl ?_
                  refine aw_iload (n := 42) dX6_workChosen_40 rfl rfl ?_
                  refine aw_if_eq (tg := 57) (n := 45) dX6_workChosen_42 (by decide) rfl (fun c_42 => by first | exact absurd rfl c_42 | exact absurd c_42 (by decide)) (fun _ => ?_)
                  refine aw_aload_n (n := 46) dX6_workChosen_45 rfl rfl ?_
                  refine aw_getr (n := 49) dX6_workChosen_46 fX6_12 (by assumption) rfl rfl ?_
                  refine aw_getr (n := 52) dX6_workChosen_49 fX6_80 (by assumption) rfl rfl ?_
                  refine aw_iload_n (n := 53) dX6_workChosen_52 rfl rfl ?_
                  refine aw_iald (n := 54) dX6_workChosen_53 (by assumption) (by assumption) rfl ?_
                  rw [htt, u5, hjB]
                  refine aw_goto (n := 66) dX6_workChosen_54 (by decide) ?_
                  first | rw [htt, u6, hjC] | skip
                  refine aw_v1 (d1 := d - 1 - 1) (n := 69) (Z := mX6_work) (ci := 4) (L0 := [_, _, .null, .null, .null, .null, .null, .null, .null]) dX6_workChosen_66 kX6_work gX6_41 iyX6_work eyX6_work rfl rfl (by assumption) rfl (Nat.le_of_ble_eq_true rfl) rfl rfl (by omega) (Nat.le_of_ble_eq_true rfl) (ih r1 jb _ M2 _ (by omega) (by omega) (by omega) (by omega) hcT2 hcI2 g3 (fun k r2 M3 hev2 hk g32 gf2 => ?_) (fun v r2 p M3 hev2 g32 gf2 gp3 gp4 gv => ?_))
                  · dsimp only [aPush]
                    refine aw_iret dX6_workChosen_69 rfl ?_
                    dsimp only [aPush]
                    refine aw_iret dX6_work_100 rfl ?_
                    refine h1 k r2 M3 ?_ hk g32 (fW_trans hf2 gf2 (by omega))
                    rw [ev_19 hwT hjA (by omega) hjB (by omega) hjC (by omega), hev]
                    show (if x = 0 then ev T inp n r1 jc else ev T inp n r1 jb) = _
                    first | (rw [if_pos cx]; exact hev2) | (rw [if_neg cx]; exact hev2)
                  · dsimp only [aPush]
                    refine aw_iret dX6_workChosen_69 rfl ?_
                    dsimp only [aPush]
                    refine aw_iret dX6_work_100 rfl ?_
                    refine h2 v r2 p M3 ?_ g32 (fW_trans hf2 gf2 (by omega)) (by omega) gp4 gv
                    rw [ev_19 hwT hjA (by omega) hjB (by omega) hjC (by omega), hev]
                    show (if x = 0 then ev T inp n r1 jc else ev T inp n r1 jb) = _
                    first | (rw [if_pos cx]; exact hev2) | (rw [if_neg cx]; exact hev2)
          · obtain rfl : w = 20 := by omega
            obtain ⟨ja, hja, hjA⟩ := hpA (by omega)
            obtain ⟨jb, hjb, hjB⟩ := hpB (by omega)
            have hino : vp_in (nI own) rSt.length := vp_in_nI (show own < 60 by omega) (by decide)
            have hro : rSt[(nI own).toNatClampNeg]? = some (some (16 + 2 * own)) := by rw [nI_clamp (by omega)]; exact rSt_at own (by omega)
            refine aw_iload (n := 46) dX6_work_44 rfl rfl ?_
            refine aw_if_le (tg := 65) (n := 49) dX6_work_46 (by decide) rfl (fun c_46 => by exact absurd c_46 (by decide)) (fun c_46 => ?_)
            refine aw_aload_n (n := 50) dX6_work_49 rfl rfl ?_
            refine aw_aload_n (n := 51) dX6_work_50 rfl rfl ?_
            refine aw_getr (n := 54) dX6_work_51 fX6_12 (by assumption) rfl rfl ?_
            refine aw_getr (n := 57) dX6_work_54 fX6_73 (by assumption) rfl rfl ?_
            refine aw_iload_n (n := 58) dX6_work_57 rfl rfl ?_
            refine aw_iald (n := 59) dX6_work_58 (by assumption) (by assumption) rfl ?_
            rw [htt, q4, hjA]
            refine aw_v1 (d1 := d - 1) (n := 62) (Z := mX6_work) (ci := 4) (L0 := [_, _, .null, .null, .null, .null, .null, .null, .null]) dX6_work_59 kX6_work gX6_41 iyX6_work eyX6_work rfl rfl (by assumption) rfl (Nat.le_of_ble_eq_true rfl) rfl rfl (by omega) (Nat.le_of_ble_eq_true rfl) (ih r0 ja _ M1 _ (by omega) (by omega) (by omega) (by omega) hcT1 hcI1 h31 (fun k r1 M2 hev hk g3 gf => ?_) (fun va r1 pa M2 hev g3 gf gp1 gp2 gva => ?_))
            · dsimp only [aPush]
              have hn := ng_lt hk
              refine aw_goto (n := 66) dX6_work_62 (by decide) ?_
              refine aw_istore (n := 68) (L' := [_, _, _, _, _, _, _, _, _]) dX6_work_66 (Nat.le_of_ble_eq_true rfl) rfl rfl ?_
              refine aw_iload (n := 70) dX6_work_68 rfl rfl ?_
              refine aw_if_ge (tg := 76) (n := 73) dX6_work_70 (by decide) rfl (fun c_70 => by exact absurd c_70 hn) (fun c_70 => ?_)
              refine aw_iload (n := 75) dX6_work_73 rfl rfl ?_
              refine aw_iret dX6_work_75 rfl ?_
              exact h1 k r1 M2 (by rw [ev_20 hwT hjA (by omega) hjB (by omega), hev]; rfl) hk g3 (fW_trans hf1 gf (by omega))
            · dsimp only [aPush]
              have hl1 : r1 ≤ r0 := by have := ev_le T inp n r0 ja; rw [hev] at this; exact this
              have hpa0 : (0 : Int32) ≤ nI pa := nI_pos' (by omega)
              have hf2 : fW own M M2 := fW_trans hf1 gf (by omega)
              have hcT2 := fW_T hf2 hcT
              have hcI2 := fW_I hf2 hcI
              obtain ⟨u3, u4, u5, u6, u7⟩ := hcT2 t ht
              obtain ⟨hvp1, hvp2⟩ := iV_st pa (by omega)
              have hinpa : vp_in (nI pa) rSt.length := vp_in_nI (show pa < 60 by omega) (by decide)
              have hrpa : rSt[(nI pa).toNatClampNeg]? = some (some (16 + 2 * pa)) := by rw [nI_clamp (by omega)]; exact rSt_at pa (by omega)
              refine aw_goto (n := 66) dX6_work_62 (by decide) ?_
              refine aw_istore (n := 68) (L' := [_, _, _, _, _, _, _, _, _]) dX6_work_66 (Nat.le_of_ble_eq_true rfl) rfl rfl ?_
              refine aw_iload (n := 70) dX6_work_68 rfl rfl ?_
              refine aw_if_ge (tg := 76) (n := 73) dX6_work_70 (by decide) rfl (fun c_70 => ?_) (fun c_70 => by exact absurd hpa0 c_70)
              refine aw_iload_n (n := 77) dX6_work_76 rfl rfl ?_
              refine aw_bipush (n := 79) (v := 19) dX6_work_77 (by decide) rfl ?_
              refine aw_icmp_eq (tg := 88) (n := 82) dX6_work_79 (by decide) rfl (fun c_79 => by exact absurd c_79 (by decide)) (fun c_79 => ?_)
              refine aw_iload_n (n := 83) dX6_work_82 rfl rfl ?_
              refine aw_bipush (n := 85) (v := 20) dX6_work_83 (by decide) rfl ?_
              refine aw_icmp_ne (tg := 101) (n := 88) dX6_work_85 (by decide) rfl (fun c_85 => by exact absurd (by decide) c_85) (fun c_85 => ?_)
              refine aw_aload_n (n := 89) dX6_work_88 rfl rfl ?_
              refine aw_iload_n (n := 90) dX6_work_89 rfl rfl ?_
              refine aw_iload_n (n := 91) dX6_work_90 rfl rfl ?_
              refine aw_aload_n (n := 92) dX6_work_91 rfl rfl ?_
              refine aw_iload (n := 94) dX6_work_92 rfl rfl ?_
              refine aw_v1 (d1 := d - 1) (n := 97) (Z := mX6_asWhole) (ci := 4) (L0 := [_, _, .null]) dX6_work_94 kX6_asWhole gX6_45 iyX6_asWhole eyX6_asWhole rfl rfl (by assumption) rfl (Nat.le_of_ble_eq_true rfl) rfl rfl (by omega) (Nat.le_of_ble_eq_true rfl) (t_asWhole (by omega) (by omega) gva (fun hl => ?_) (fun x hx => ?_))
              · dsimp only [aPush]
                obtain ⟨hlw, hlc⟩ := lk0_W (v := va) rfl hl r1 (fun x => if x = 0 then (r1, .inr (some (.inl 0))) else eB (ev T inp n r1 jb) fun r2 v2 => eW r2 v2 fun y => (r2, .inr (some (.inl (if y = 0 then 0 else 1)))))
                have hn := ng_lt hlc
                refine aw_v3 (d1 := d - 1) (n := 100) (Z := mX6_workChosen) (ci := 4) (L0 := [_, _, _, _, .null, .null]) dX6_work_97 kX6_workChosen gX6_76 iyX6_workChosen eyX6_workChosen rfl rfl (by assumption) rfl rfl rfl (Nat.le_of_ble_eq_true rfl) rfl rfl (by omega) (Nat.le_of_ble_eq_true rfl) ?_
                refine aw_iload_n (n := 1) dX6_workChosen_0 rfl rfl ?_
                refine aw_if_ge (tg := 6) (n := 4) dX6_workChosen_1 (by decide) rfl (fun c_1 => by exact absurd c_1 hn) (fun c_1 => ?_)
                refine aw_iload_n (n := 5) dX6_workChosen_4 rfl rfl ?_
                refine aw_iret dX6_workChosen_5 rfl ?_
                dsimp only [aPush]
                refine aw_iret dX6_work_100 rfl ?_
                exact h1 _ r1 M2 (by rw [ev_20 hwT hjA (by omega) hjB (by omega), hev]; exact hlw) hlc g3 hf2
              · dsimp only [aPush]
                subst hx
                have hxM := vAt_W gva
                refine aw_v3 (d1 := d - 1) (n := 100) (Z := mX6_workChosen) (ci := 4) (L0 := [_, _, _, _, .null, .null]) dX6_work_97 kX6_workChosen gX6_76 iyX6_workChosen eyX6_workChosen rfl rfl (by assumption) rfl rfl rfl (Nat.le_of_ble_eq_true rfl) rfl rfl (by omega) (Nat.le_of_ble_eq_true rfl) ?_
                refine aw_iload_n (n := 1) dX6_workChosen_0 rfl rfl ?_
                refine aw_if_ge (tg := 6) (n := 4) dX6_workChosen_1 (by decide) rfl (fun c_1 => ?_) (fun c_1 => by exact absurd hpa0 c_1)
                refine aw_aload_n (n := 7) dX6_workChosen_6 rfl rfl ?_
                refine aw_getr (n := 10) dX6_workChosen_7 fX6_26 (by assumption) rfl rfl ?_
                refine aw_iload_n (n := 11) dX6_workChosen_10 rfl rfl ?_
                refine aw_aald (n := 12) dX6_workChosen_11 (by assumption) (by decide) (by assumption) (by assumption) rfl ?_
                refine aw_geti (n := 15) dX6_workChosen_12 fX6_48 (by assumption) rfl rfl ?_
                rw [hxM]
                refine aw_if_eq (tg := 22) (n := 18) dX6_workChosen_15 (by decide) rfl (fun cx => ?_) (fun cx => ?_)
                · refine aw_iconst (n := 23) (v := 0) dX6_workChosen_22 (by decide) rfl ?_
                  refine aw_istore (n := 25) (L' := [_, _, _, _, _, _]) dX6_workChosen_23 (Nat.le_of_ble_eq_true rfl) rfl rfl ?_
                  refine aw_aload_n (n := 26) dX6_workChosen_25 rfl rfl ?_
                  refine aw_getr (n := 29) dX6_workChosen_26 fX6_12 (by assumption) rfl rfl ?_
                  refine aw_getr (n := 32) dX6_workChosen_29 fX6_66 (by assumption) rfl rfl ?_
                  refine aw_iload_n (n := 33) dX6_workChosen_32 rfl rfl ?_
                  refine aw_iald (n := 34) dX6_workChosen_33 (by assumption) (by assumption) rfl ?_
                  rw [htt, u3, hwT]
                  refine aw_bipush (n := 36) (v := 19) dX6_workChosen_34 (by decide) rfl ?_
                  refine aw_icmp_ne (tg := 70) (n := 39) dX6_workChosen_36 (by decide) rfl (fun c_36 => ?_) (fun c_36 => by exact absurd c_36 (by decide))
                  refine aw_iload (n := 72) dX6_workChosen_70 rfl rfl ?_
                  refine aw_if_eq (tg := 122) (n := 75) dX6_workChosen_72 (by decide) rfl (fun _ => ?_) (fun c_72 => by first | exact absurd rfl c_72 | exact absurd c_72 (by decide))
                  refine aw_aload_n (n := 123) dX6_workChosen_122 rfl rfl ?_
                  refine aw_getr (n := 126) dX6_workChosen_123 fX6_26 (by assumption) rfl rfl ?_
                  refine aw_iload_n (n := 127) dX6_workChosen_126 rfl rfl ?_
                  refine aw_aald (n := 128) dX6_workChosen_127 (by assumption) (by decide) (by assumption) (by assumption) rfl ?_
                  refine aw_iload (n := 130) dX6_workChosen_128 rfl rfl ?_
                  refine aw_s2 (d1 := d - 1 - 1) (n := 133) (Z := mX6_setTruth) (L0 := [_, _]) dX6_workChosen_130 kX6_setTruth gX6_94 syX6_setTruth rfl rfl (Nat.le_of_ble_eq_true rfl) rfl rfl (by omega) (Nat.le_of_ble_eq_true rfl) (t_truth (by omega) (iV_st own (by omega)) (fun M' h5 h6 => ?_))
                  dsimp only [aPush]
                  refine aw_iload_n (n := 134) dX6_workChosen_133 rfl rfl ?_
                  refine aw_iret dX6_workChosen_134 rfl ?_
                  dsimp only [aPush]
                  refine aw_iret dX6_work_100 rfl ?_
                  refine h2 (some (.inl 0)) r1 own M' ?_ (by rw [h6 1 (by omega)]; exact g3) (fW_own (r0 := r0) hown60 hf2 (fun q q1 q2 => h6 q q1)) (Nat.le_refl _) (by omega) h5
                  rw [ev_20 hwT hjA (by omega) hjB (by omega), hev]
                  show (if x = 0 then (r1, Sum.inr (some (Sum.inl 0))) else eB (ev T inp n r1 jb) fun r2 v2 => eW r2 v2 fun y => (r2, .inr (some (.inl (if y = 0 then 0 else 1))))) = _
                  rw [if_pos cx]
                · refine aw_iconst (n := 19) (v := 1) dX6_workChosen_18 (by decide) rfl ?_
                  refine aw_goto (n := 23) dX6_workChosen_19 (by decide) ?_
                  refine aw_istore (n := 25) (L' := [_, _, _, _, _, _]) dX6_workChosen_23 (Nat.le_of_ble_eq_true rfl) rfl rfl ?_
                  refine aw_aload_n (n := 26) dX6_workChosen_25 rfl rfl ?_
                  refine aw_getr (n := 29) dX6_workChosen_26 fX6_12 (by assumption) rfl rfl ?_
                  refine aw_getr (n := 32) dX6_workChosen_29 fX6_66 (by assumption) rfl rfl ?_
                  refine aw_iload_n (n := 33) dX6_workChosen_32 rfl rfl ?_
                  refine aw_iald (n := 34) dX6_workChosen_33 (by assumption) (by assumption) rfl ?_
                  rw [htt, u3, hwT]
                  refine aw_bipush (n := 36) (v := 19) dX6_workChosen_34 (by decide) rfl ?_
                  refine aw_icmp_ne (tg := 70) (n := 39) dX6_workChosen_36 (by decide) rfl (fun c_36 => ?_) (fun c_36 => by exact absurd c_36 (by decide))
                  refine aw_iload (n := 72) dX6_workChosen_70 rfl rfl ?_
                  refine aw_if_eq (tg := 122) (n := 75) dX6_workChosen_72 (by decide) rfl (fun c_72 => by first | exact absurd rfl c_72 | exact absurd c_72 (by decide)) (fun _ => ?_)
                  refine aw_aload_n (n := 76) dX6_workChosen_75 rfl rfl ?_
                  refine aw_aload_n (n := 77) dX6_workChosen_76 rfl rfl ?_
                  refine aw_aload_n (n := 78) dX6_workChosen_77 rfl rfl ?_
                  refine aw_getr (n := 81) dX6_workChosen_78 fX6_12 (by assumption) rfl rfl ?_
                  refine aw_getr (n := 84) dX6_workChosen_81 fX6_80 (by assumption) rfl rfl ?_
                  refine aw_iload_n (n := 85) dX6_workChosen_84 rfl rfl ?_
                  refine aw_iald (n := 86) dX6_workChosen_85 (by assumption) (by assumption) rfl ?_
                  rw [htt, u5, hjB]
                  refine aw_v1 (d1 := d - 1 - 1) (n := 89) (Z := mX6_work) (ci := 4) (L0 := [_, _, .null, .null, .null, .null, .null, .null, .null]) dX6_workChosen_86 kX6_work gX6_41 iyX6_work eyX6_work rfl rfl (by assumption) rfl (Nat.le_of_ble_eq_true rfl) rfl rfl (by omega) (Nat.le_of_ble_eq_true rfl) (ih r1 jb _ M2 _ (by omega) (by omega) (by omega) (by omega) hcT2 hcI2 g3 (fun k r2 M3 hev2 hk g32 gf2 => ?_) (fun v r2 p M3 hev2 g32 gf2 gp3 gp4 gv => ?_))
                  · dsimp only [aPush]
                    have hn := ng_lt hk
                    refine aw_v1 (d1 := d - 1 - 1) (n := 92) (Z := mX6_asWhole) (ci := 4) (L0 := [_, _, .null]) dX6_workChosen_89 kX6_asWhole gX6_45 iyX6_asWhole eyX6_asWhole rfl rfl (by assumption) rfl (Nat.le_of_ble_eq_true rfl) rfl rfl (by omega) (Nat.le_of_ble_eq_true rfl) (t_asWholeN hn ?_)
                    dsimp only [aPush]
                    refine aw_istore (n := 94) (L' := [_, _, _, _, _, _]) dX6_workChosen_92 (Nat.le_of_ble_eq_true rfl) rfl rfl ?_
                    refine aw_iload (n := 96) dX6_workChosen_94 rfl rfl ?_
                    refine aw_if_ge (tg := 102) (n := 99) dX6_workChosen_96 (by decide) rfl (fun c_96 => by exact absurd c_96 hn) (fun c_96 => ?_)
                    refine aw_iload (n := 101) dX6_workChosen_99 rfl rfl ?_
                    refine aw_iret dX6_workChosen_101 rfl ?_
                    dsimp only [aPush]
                    refine aw_iret dX6_work_100 rfl ?_
                    refine h1 k r2 M3 ?_ hk g32 (fW_trans hf2 gf2 (by omega))
                    rw [ev_20 hwT hjA (by omega) hjB (by omega), hev]
                    show (if x = 0 then (r1, Sum.inr (some (Sum.inl 0))) else eB (ev T inp n r1 jb) fun r2 v2 => eW r2 v2 fun y => (r2, .inr (some (.inl (if y = 0 then 0 else 1))))) = _
                    rw [if_neg cx, hev2]; rfl
                  · dsimp only [aPush]
                    have hl2 : r2 ≤ r1 := by have := ev_le T inp n r1 jb; rw [hev2] at this; exact this
                    have hpb0 : (0 : Int32) ≤ nI p := nI_pos' (by omega)
                    have hf3 : fW own M M3 := fW_trans hf2 gf2 (by omega)
                    obtain ⟨hvb1, hvb2⟩ := iV_st p (by omega)
                    have hinpb : vp_in (nI p) rSt.length := vp_in_nI (show p < 60 by omega) (by decide)
                    have hrpb : rSt[(nI p).toNatClampNeg]? = some (some (16 + 2 * p)) := by rw [nI_clamp (by omega)]; exact rSt_at p (by omega)
                    refine aw_v1 (d1 := d - 1 - 1) (n := 92) (Z := mX6_asWhole) (ci := 4) (L0 := [_, _, .null]) dX6_workChosen_89 kX6_asWhole gX6_45 iyX6_asWhole eyX6_asWhole rfl rfl (by assumption) rfl (Nat.le_of_ble_eq_true rfl) rfl rfl (by omega) (Nat.le_of_ble_eq_true rfl) (t_asWhole (by omega) (by omega) gv (fun hl => ?_) (fun y hy => ?_))
                    · dsimp only [aPush]
                      obtain ⟨hlw, hlc⟩ := lk0_W (v := v) rfl hl r2 (fun y => (r2, .inr (some (.inl (if y = 0 then 0 else 1)))))
                      have hn := ng_lt hlc
                      refine aw_istore (n := 94) (L' := [_, _, _, _, _, _]) dX6_workChosen_92 (Nat.le_of_ble_eq_true rfl) rfl rfl ?_
                      refine aw_iload (n := 96) dX6_workChosen_94 rfl rfl ?_
                      refine aw_if_ge (tg := 102) (n := 99) dX6_workChosen_96 (by decide) rfl (fun c_96 => by exact absurd c_96 hn) (fun c_96 => ?_)
                      refine aw_iload (n := 101) dX6_workChosen_99 rfl rfl ?_
                      refine aw_iret dX6_workChosen_101 rfl ?_
                      dsimp only [aPush]
                      refine aw_iret dX6_work_100 rfl ?_
                      refine h1 _ r2 M3 ?_ hlc g32 hf3
                      rw [ev_20 hwT hjA (by omega) hjB (by omega), hev]
                      show (if x = 0 then (r1, Sum.inr (some (Sum.inl 0))) else eB (ev T inp n r1 jb) fun r2 v2 => eW r2 v2 fun y => (r2, .inr (some (.inl (if y = 0 then 0 else 1))))) = _
                      rw [if_neg cx, hev2]; exact hlw
                    · dsimp only [aPush]
                      subst hy
                      have hyM := vAt_W gv
                      refine aw_istore (n := 94) (L' := [_, _, _, _, _, _]) dX6_workChosen_92 (Nat.le_of_ble_eq_true rfl) rfl rfl ?_
                      refine aw_iload (n := 96) dX6_workChosen_94 rfl rfl ?_
                      refine aw_if_ge (tg := 102) (n := 99) dX6_workChosen_96 (by decide) rfl (fun c_96 => ?_) (fun c_96 => by exact absurd hpb0 c_96)
                      refine aw_aload_n (n := 103) dX6_workChosen_102 rfl rfl ?_
                      refine aw_getr (n := 106) dX6_workChosen_103 fX6_26 (by assumption) rfl rfl ?_
                      refine aw_iload (n := 108) dX6_workChosen_106 rfl rfl ?_
                      refine aw_aald (n := 109) dX6_workChosen_108 (by assumption) (by decide) (by assumption) (by assumption) rfl ?_
                      refine aw_geti (n := 112) dX6_workChosen_109 fX6_48 (by assumption) rfl rfl ?_
                      rw [hyM]
                      refine aw_if_eq (tg := 119) (n := 115) dX6_workChosen_112 (by decide) rfl (fun cy => ?_) (fun cy => ?_)
                      · refine aw_iconst (n := 120) (v := 0) dX6_workChosen_119 (by decide) rfl ?_
                        refine aw_istore (n := 122) (L' := [_, _, _, _, _, _]) dX6_workChosen_120 (Nat.le_of_ble_eq_true rfl) rfl rfl ?_
                        refine aw_aload_n (n := 123) dX6_workChosen_122 rfl rfl ?_
                        refine aw_getr (n := 126) dX6_workChosen_123 fX6_26 (by assumption) rfl rfl ?_
                        refine aw_iload_n (n := 127) dX6_workChosen_126 rfl rfl ?_
                        refine aw_aald (n := 128) dX6_workChosen_127 (by assumption) (by decide) (by assumption) (by assumption) rfl ?_
                        refine aw_iload (n := 130) dX6_workChosen_128 rfl rfl ?_
                        refine aw_s2 (d1 := d - 1 - 1) (n := 133) (Z := mX6_setTruth) (L0 := [_, _]) dX6_workChosen_130 kX6_setTruth gX6_94 syX6_setTruth rfl rfl (Nat.le_of_ble_eq_true rfl) rfl rfl (by omega) (Nat.le_of_ble_eq_true rfl) (t_truth (by omega) (iV_st own (by omega)) (fun M' h5 h6 => ?_))
                        dsimp only [aPush]
                        refine aw_iload_n (n := 134) dX6_workChosen_133 rfl rfl ?_
                        refine aw_iret dX6_workChosen_134 rfl ?_
                        dsimp only [aPush]
                        refine aw_iret dX6_work_100 rfl ?_
                        refine h2 (some (.inl 0)) r2 own M' ?_ (by rw [h6 1 (by omega)]; exact g32) (fW_own (r0 := r0) hown60 hf3 (fun q q1 q2 => h6 q q1)) (Nat.le_refl _) (by omega) h5
                        rw [ev_20 hwT hjA (by omega) hjB (by omega), hev]
                        show (if x = 0 then (r1, Sum.inr (some (Sum.inl 0))) else eB (ev T inp n r1 jb) fun r2 v2 => eW r2 v2 fun y => (r2, .inr (some (.inl (if y = 0 then 0 else 1))))) = _
                        rw [if_neg cx, hev2]
                        show (r2, Sum.inr (some (Sum.inl (if y = 0 then (0 : Int32) else 1)))) = _
                        rw [if_pos cy]
                      · refine aw_iconst (n := 116) (v := 1) dX6_workChosen_115 (by decide) rfl ?_
                        refine aw_goto (n := 120) dX6_workChosen_116 (by decide) ?_
                        refine aw_istore (n := 122) (L' := [_, _, _, _, _, _]) dX6_workChosen_120 (Nat.le_of_ble_eq_true rfl) rfl rfl ?_
                        refine aw_aload_n (n := 123) dX6_workChosen_122 rfl rfl ?_
                        refine aw_getr (n := 126) dX6_workChosen_123 fX6_26 (by assumption) rfl rfl ?_
                        refine aw_iload_n (n := 127) dX6_workChosen_126 rfl rfl ?_
                        refine aw_aald (n := 128) dX6_workChosen_127 (by assumption) (by decide) (by assumption) (by assumption) rfl ?_
                        refine aw_iload (n := 130) dX6_workChosen_128 rfl rfl ?_
                        refine aw_s2 (d1 := d - 1 - 1) (n := 133) (Z := mX6_setTruth) (L0 := [_, _]) dX6_workChosen_130 kX6_setTruth gX6_94 syX6_setTruth rfl rfl (Nat.le_of_ble_eq_true rfl) rfl rfl (by omega) (Nat.le_of_ble_eq_true rfl) (t_truth (by omega) (iV_st own (by omega)) (fun M' h5 h6 => ?_))
                        dsimp only [aPush]
                        refine aw_iload_n (n := 134) dX6_workChosen_133 rfl rfl ?_
                        refine aw_iret dX6_workChosen_134 rfl ?_
                        dsimp only [aPush]
                        refine aw_iret dX6_work_100 rfl ?_
                        refine h2 (some (.inl 1)) r2 own M' ?_ (by rw [h6 1 (by omega)]; exact g32) (fW_own (r0 := r0) hown60 hf3 (fun q q1 q2 => h6 q q1)) (Nat.le_refl _) (by omega) h5
                        rw [ev_20 hwT hjA (by omega) hjB (by omega), hev]
                        show (if x = 0 then (r1, Sum.inr (some (Sum.inl 0))) else eB (ev T inp n r1 jb) fun r2 v2 => eW r2 v2 fun y => (r2, .inr (some (.inl (if y = 0 then 0 else 1))))) = _
                        rw [if_neg cx, hev2]
                        show (r2, Sum.inr (some (Sum.inl (if y = 0 then (0 : Int32) else 1)))) = _
                        rw [if_neg cy]
      refine aw_aload_n (n := 1) dX6_work_0 rfl rfl ?_
      refine aw_geti (n := 4) dX6_work_1 fX6_29 (by assumption) rfl rfl ?_
      refine aw_bipush (n := 6) (v := 60) dX6_work_4 (by decide) rfl ?_
      refine aw_icmp_lt (tg := 12) (n := 9) dX6_work_6 (by decide) rfl (fun c_6 => ?_) (fun c_6 => by exact absurd (by rw [h3]; exact (nI_ltI (b := 60) (by omega) (by omega)).mpr hown60) c_6)
      refine aw_aload_n (n := 13) dX6_work_12 rfl rfl ?_
      refine aw_geti (n := 16) dX6_work_13 fX6_29 (by assumption) rfl rfl ?_
      refine aw_istore_n (n := 17) (L' := [_, _, _, _, _, _, _, _, _]) dX6_work_16 (Nat.le_of_ble_eq_true rfl) rfl rfl ?_
      refine aw_aload_n (n := 18) dX6_work_17 rfl rfl ?_
      refine aw_dup (n := 19) dX6_work_18 rfl rfl ?_
      refine aw_geti (n := 22) dX6_work_19 fX6_29 (by assumption) rfl rfl ?_
      refine aw_iconst (n := 23) (v := 1) dX6_work_22 (by decide) rfl ?_
      refine aw_iadd (n := 24) dX6_work_23 rfl ?_
      refine aw_puti (n := 27) dX6_work_24 pX6_29 (by assumption) rfl rfl ?_
      refine aw_aload_n (n := 28) dX6_work_27 rfl rfl ?_
      refine aw_getr (n := 31) dX6_work_28 fX6_12 (by assumption) rfl rfl ?_
      refine aw_getr (n := 34) dX6_work_31 fX6_66 (by assumption) rfl rfl ?_
      refine aw_iload_n (n := 35) dX6_work_34 rfl rfl ?_
      refine aw_iald (n := 36) dX6_work_35 (by assumption) (by assumption) rfl ?_
      rw [htt, up2_a _ _ (by decide), (hcT t ht).1, hwT]
      refine aw_istore_n (n := 37) (L' := [_, _, _, _, _, _, _, _, _]) dX6_work_36 (Nat.le_of_ble_eq_true rfl) rfl rfl ?_
      refine aw_gets (n := 40) (t := 0) dX6_work_37 (by decide) tX6_70 rfl ?_
      refine aw_iload_n (n := 41) dX6_work_40 rfl rfl ?_
      refine aw_tld (n := 42) (t := 0) dX6_work_41 (by decide) (by assumption) rfl ?_
      rw [hww, tab0 w hw20]
      refine aw_istore (n := 44) (L' := [_, _, _, _, _, _, _, _, _]) dX6_work_42 (Nat.le_of_ble_eq_true rfl) rfl rfl ?_
      rw [h3, nI_1]
      refine main _ ?_ ⟨fun q g1 g2 => up2_ra _ _ g1, fun j hj => up2_k _ _ hj⟩
      rw [up2_s]
      congr 1; omega
