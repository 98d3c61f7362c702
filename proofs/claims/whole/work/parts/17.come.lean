def nA (w : Nat) : Nat := ([4, 4, 4, 0, 0, 0, 0, 0, 0, 2, 1, 1, 0, 1, 1, 1, 1, 1, 1, 0, 0] : List Nat).getD w 4
def nB (w : Nat) : Nat := ([4, 4, 4, 0, 0, 0, 0, 0, 0, 3, 0, 4, 4, 0, 1, 0, 4, 4, 4, 4, 0] : List Nat).getD w 4
def nC (w : Nat) : Nat := ([4, 4, 4, 4, 4, 4, 4, 4, 4, 4, 4, 4, 4, 0, 4, 0, 4, 4, 4, 4, 4] : List Nat).getD w 4
def lk0 (need : Nat) : vV → Nat
  | none => 1
  | some (.inl _) => if need = 2 ∨ need = 0 then 0 else 4
  | some (.inr _) => if need = 2 ∨ need = 1 then 0 else 4
def lk (need : Nat) (v : vV) : Nat := if need = 4 then 0 else lk0 need v
def kd : vV → Nat
  | some (.inr _) => 1
  | _ => 0
def lkA (w : Nat) (a b c : vV) : Nat := if lk (nA w) a ≠ 0 then lk (nA w) a else if lk (if nB w = 3 then kd a else nB w) b ≠ 0 then lk (if nB w = 3 then kd a else nB w) b else lk (nC w) c
theorem tab0 : ∀ w, w ≤ 20 → aTab 0 w = nI (pts w) := by decide +kernel
theorem tab1 : ∀ w, w ≤ 20 → aTab 1 w = nI (nA w) := by decide +kernel
theorem tab2 : ∀ w, w ≤ 20 → aTab 2 w = nI (nB w) := by decide +kernel
theorem tab3 : ∀ w, w ≤ 20 → aTab 3 w = nI (nC w) := by decide +kernel
theorem nA_lt : ∀ w, w ≤ 20 → nA w < 5 ∧ nB w < 5 ∧ nC w < 5 ∧ (nB w = 3 → w = 9) ∧ (nA w ≠ 3 ∧ nC w ≠ 3) := by decide +kernel
theorem lk_lt (n : Nat) (v : vV) : lk n v < 5 := by
  unfold lk
  split
  · decide
  · rcases v with _ | x | r
    · exact (by decide : 1 < 5)
    · show (if n = 2 ∨ n = 0 then 0 else 4) < 5; split <;> decide
    · show (if n = 2 ∨ n = 1 then 0 else 4) < 5; split <;> decide
theorem i4 {n m : Nat} (hn : n < 5) (hm : m < 5) : nI n = nI m ↔ n = m := nI_eq (by omega) (by omega)
section COME
variable {l : Launch} {K : aK} {d : Nat} {M : aM} {Q : Option Value → aE → aM → Prop}
theorem t_lookAt {a need : Nat} {v : vV} (hn : need < 5) (hn3 : need ≠ 3) (ha : iV a) (hv : need ≠ 4 → vAt M a v) (hQ : Q (some (.int (nI (lk need v)))) EE M) : aw l K mX6_lookAt d 0 0 0 [.ref a, .int (nI need)] [] EE M Q := by
  obtain ⟨hva, hvb⟩ := ha
  by_cases h4 : need = 4
  · subst h4
    refine aw_iload_n (n := 1) dX6_lookAt_0 rfl rfl ?_
    refine aw_iconst (n := 2) (v := 4) dX6_lookAt_1 (by decide) rfl ?_
    refine aw_icmp_ne (tg := 7) (n := 5) dX6_lookAt_2 (by decide) rfl (fun c_2 => by exact absurd rfl c_2) (fun c_2 => ?_)
    refine aw_iconst (n := 6) (v := 0) dX6_lookAt_5 (by decide) rfl ?_
    refine aw_iret dX6_lookAt_6 rfl ?_
    exact hQ
  have hv := hv h4
  have hlk : lk need v = lk0 need v := if_neg h4
  rw [hlk] at hQ
  rcases v with _ | x | r
  · obtain ⟨h0, h2⟩ := hv
    refine aw_iload_n (n := 1) dX6_lookAt_0 rfl rfl ?_
    refine aw_iconst (n := 2) (v := 4) dX6_lookAt_1 (by decide) rfl ?_
    refine aw_icmp_ne (tg := 7) (n := 5) dX6_lookAt_2 (by decide) rfl (fun c_2 => ?_) (fun c_2 => by exact absurd ((i4 hn (by decide)).mp c_2) h4)
    refine aw_aload_n (n := 8) dX6_lookAt_7 rfl rfl ?_
    refine aw_geti (n := 11) dX6_lookAt_8 fX6_104 (by assumption) rfl rfl ?_
    refine aw_iconst (n := 12) (v := -1) dX6_lookAt_11 (by decide) rfl ?_
    refine aw_icmp_ne (tg := 17) (n := 15) dX6_lookAt_12 (by decide) rfl (fun c_12 => by exact absurd h0 c_12) (fun c_12 => ?_)
    refine aw_iconst (n := 16) (v := 1) dX6_lookAt_15 (by decide) rfl ?_
    refine aw_iret dX6_lookAt_16 rfl ?_
    exact hQ
  · obtain ⟨h0, h1, h2⟩ := hv
    refine aw_iload_n (n := 1) dX6_lookAt_0 rfl rfl ?_
    refine aw_iconst (n := 2) (v := 4) dX6_lookAt_1 (by decide) rfl ?_
    refine aw_icmp_ne (tg := 7) (n := 5) dX6_lookAt_2 (by decide) rfl (fun c_2 => ?_) (fun c_2 => by exact absurd ((i4 hn (by decide)).mp c_2) h4)
    refine aw_aload_n (n := 8) dX6_lookAt_7 rfl rfl ?_
    refine aw_geti (n := 11) dX6_lookAt_8 fX6_104 (by assumption) rfl rfl ?_
    refine aw_iconst (n := 12) (v := -1) dX6_lookAt_11 (by decide) rfl ?_
    refine aw_icmp_ne (tg := 17) (n := 15) dX6_lookAt_12 (by decide) rfl (fun c_12 => ?_) (fun c_12 => by exact absurd c_12 (by rw [h0]; decide))
    refine aw_iload_n (n := 18) dX6_lookAt_17 rfl rfl ?_
    refine aw_iconst (n := 19) (v := 2) dX6_lookAt_18 (by decide) rfl ?_
    refine aw_icmp_eq (tg := 30) (n := 22) dX6_lookAt_19 (by decide) rfl (fun c_19 => ?_) (fun c_19 => ?_)
    · refine aw_iconst (n := 31) (v := 0) dX6_lookAt_30 (by decide) rfl ?_
      refine aw_goto (n := 35) dX6_lookAt_31 (by decide) ?_
      refine aw_iret dX6_lookAt_35 rfl ?_
      first
        | (have e := (i4 hn (by decide)).mp c_19
           rw [show lk0 need (some (.inl x)) = 0 from if_pos (Or.inl e)] at hQ; exact hQ)
        | (have e : need ≠ 0 := fun q => c_27 (by rw [q]; rfl)
           rw [show lk0 need (some (.inl x)) = 4 from if_neg (fun q => q.elim (fun q => c_19 (by rw [q]; rfl)) e)] at hQ; exact hQ)
        | (have e := (i4 (n := 0) (by decide) hn).mp c_27
           rw [show lk0 need (some (.inl x)) = 0 from if_pos (Or.inr e.symm)] at hQ; exact hQ)
    · refine aw_aload_n (n := 23) dX6_lookAt_22 rfl rfl ?_
      refine aw_geti (n := 26) dX6_lookAt_23 fX6_104 (by assumption) rfl rfl ?_
      rw [h0]
      refine aw_iload_n (n := 27) dX6_lookAt_26 rfl rfl ?_
      refine aw_icmp_ne (tg := 34) (n := 30) dX6_lookAt_27 (by decide) rfl (fun c_27 => ?_) (fun c_27 => ?_)
      · refine aw_iconst (n := 35) (v := 4) dX6_lookAt_34 (by decide) rfl ?_
        refine aw_iret dX6_lookAt_35 rfl ?_
        first
          | (have e := (i4 hn (by decide)).mp c_19
             rw [show lk0 need (some (.inl x)) = 0 from if_pos (Or.inl e)] at hQ; exact hQ)
          | (have e : need ≠ 0 := fun q => c_27 (by rw [q]; rfl)
             rw [show lk0 need (some (.inl x)) = 4 from if_neg (fun q => q.elim (fun q => c_19 (by rw [q]; rfl)) e)] at hQ; exact hQ)
          | (have e := (i4 (n := 0) (by decide) hn).mp c_27
             rw [show lk0 need (some (.inl x)) = 0 from if_pos (Or.inr e.symm)] at hQ; exact hQ)
      · refine aw_iconst (n := 31) (v := 0) dX6_lookAt_30 (by decide) rfl ?_
        refine aw_goto (n := 35) dX6_lookAt_31 (by decide) ?_
        refine aw_iret dX6_lookAt_35 rfl ?_
        first
          | (have e := (i4 hn (by decide)).mp c_19
             rw [show lk0 need (some (.inl x)) = 0 from if_pos (Or.inl e)] at hQ; exact hQ)
          | (have e : need ≠ 0 := fun q => c_27 (by rw [q]; rfl)
             rw [show lk0 need (some (.inl x)) = 4 from if_neg (fun q => q.elim (fun q => c_19 (by rw [q]; rfl)) e)] at hQ; exact hQ)
          | (have e := (i4 (n := 0) (by decide) hn).mp c_27
             rw [show lk0 need (some (.inl x)) = 0 from if_pos (Or.inr e.symm)] at hQ; exact hQ)
  · obtain ⟨h0, h16, h2, h3⟩ := hv
    refine aw_iload_n (n := 1) dX6_lookAt_0 rfl rfl ?_
    refine aw_iconst (n := 2) (v := 4) dX6_lookAt_1 (by decide) rfl ?_
    refine aw_icmp_ne (tg := 7) (n := 5) dX6_lookAt_2 (by decide) rfl (fun c_2 => ?_) (fun c_2 => by exact absurd ((i4 hn (by decide)).mp c_2) h4)
    refine aw_aload_n (n := 8) dX6_lookAt_7 rfl rfl ?_
    refine aw_geti (n := 11) dX6_lookAt_8 fX6_104 (by assumption) rfl rfl ?_
    refine aw_iconst (n := 12) (v := -1) dX6_lookAt_11 (by decide) rfl ?_
    refine aw_icmp_ne (tg := 17) (n := 15) dX6_lookAt_12 (by decide) rfl (fun c_12 => ?_) (fun c_12 => by exact absurd c_12 (by rw [h0]; decide))
    refine aw_iload_n (n := 18) dX6_lookAt_17 rfl rfl ?_
    refine aw_iconst (n := 19) (v := 2) dX6_lookAt_18 (by decide) rfl ?_
    refine aw_icmp_eq (tg := 30) (n := 22) dX6_lookAt_19 (by decide) rfl (fun c_19 => ?_) (fun c_19 => ?_)
    · refine aw_iconst (n := 31) (v := 0) dX6_lookAt_30 (by decide) rfl ?_
      refine aw_goto (n := 35) dX6_lookAt_31 (by decide) ?_
      refine aw_iret dX6_lookAt_35 rfl ?_
      first
        | (have e := (i4 hn (by decide)).mp c_19
           rw [show lk0 need (some (.inr r)) = 0 from if_pos (Or.inl e)] at hQ; exact hQ)
        | (have e : need ≠ 1 := fun q => c_27 (by rw [q]; rfl)
           rw [show lk0 need (some (.inr r)) = 4 from if_neg (fun q => q.elim (fun q => c_19 (by rw [q]; rfl)) e)] at hQ; exact hQ)
        | (have e := (i4 (n := 1) (by decide) hn).mp c_27
           rw [show lk0 need (some (.inr r)) = 0 from if_pos (Or.inr e.symm)] at hQ; exact hQ)
    · refine aw_aload_n (n := 23) dX6_lookAt_22 rfl rfl ?_
      refine aw_geti (n := 26) dX6_lookAt_23 fX6_104 (by assumption) rfl rfl ?_
      rw [h0]
      refine aw_iload_n (n := 27) dX6_lookAt_26 rfl rfl ?_
      refine aw_icmp_ne (tg := 34) (n := 30) dX6_lookAt_27 (by decide) rfl (fun c_27 => ?_) (fun c_27 => ?_)
      · refine aw_iconst (n := 35) (v := 4) dX6_lookAt_34 (by decide) rfl ?_
        refine aw_iret dX6_lookAt_35 rfl ?_
        first
          | (have e := (i4 hn (by decide)).mp c_19
             rw [show lk0 need (some (.inr r)) = 0 from if_pos (Or.inl e)] at hQ; exact hQ)
          | (have e : need ≠ 1 := fun q => c_27 (by rw [q]; rfl)
             rw [show lk0 need (some (.inr r)) = 4 from if_neg (fun q => q.elim (fun q => c_19 (by rw [q]; rfl)) e)] at hQ; exact hQ)
          | (have e := (i4 (n := 1) (by decide) hn).mp c_27
             rw [show lk0 need (some (.inr r)) = 0 from if_pos (Or.inr e.symm)] at hQ; exact hQ)
      · refine aw_iconst (n := 31) (v := 0) dX6_lookAt_30 (by decide) rfl ?_
        refine aw_goto (n := 35) dX6_lookAt_31 (by decide) ?_
        refine aw_iret dX6_lookAt_35 rfl ?_
        first
          | (have e := (i4 hn (by decide)).mp c_19
             rw [show lk0 need (some (.inr r)) = 0 from if_pos (Or.inl e)] at hQ; exact hQ)
          | (have e : need ≠ 1 := fun q => c_27 (by rw [q]; rfl)
             rw [show lk0 need (some (.inr r)) = 4 from if_neg (fun q => q.elim (fun q => c_19 (by rw [q]; rfl)) e)] at hQ; exact hQ)
          | (have e := (i4 (n := 1) (by decide) hn).mp c_27
             rw [show lk0 need (some (.inr r)) = 0 from if_pos (Or.inr e.symm)] at hQ; exact hQ)
theorem t_lookAll {a b c w : Nat} {va vb vc : vV} (hd : 1 ≤ d) (hw : w ≤ 20) (ha : iV a) (hb : iV b) (hc : iV c) (hva : nA w ≠ 4 → vAt M a va) (hvb : nB w ≠ 4 → vAt M b vb) (hvc : nC w ≠ 4 → vAt M c vc) (hQ : Q (some (.int (nI (lkA w va vb vc)))) EE M) : aw l K mX6_lookAtAll d 0 0 0 [.int (nI w), .ref a, .ref b, .ref c, .null] [] EE M Q := by
  have ha' := ha
  obtain ⟨hxa, hxb⟩ := ha
  obtain ⟨q1, q2, q3, q4, q5, q6⟩ := nA_lt w hw
  have hin : vp_in (nI w) 21 := vp_in_nI (by omega) (by decide)
  have hww : (nI w).toNatClampNeg = w := nI_clamp (by omega)
  have l1 := lk_lt (nA w) va
  have l2 := lk_lt (if nB w = 3 then kd va else nB w) vb
  have l3 := lk_lt (nC w) vc
  have hbneed : (if nB w = 3 then kd va else nB w) < 5 ∧ (if nB w = 3 then kd va else nB w) ≠ 3 := by
    split
    · rcases va with _ | x | r <;> simp [kd]
    · exact ⟨q2, by assumption⟩
  have hbv : (if nB w = 3 then kd va else nB w) ≠ 4 → vAt M b vb := by
    by_cases h : nB w = 3
    · exact fun _ => hvb (by omega)
    · rw [if_neg h]; exact hvb
  refine aw_aload_n (n := 1) dX6_lookAtAll_0 rfl rfl ?_
  refine aw_gets (n := 4) (t := 1) dX6_lookAtAll_1 (by decide) tX6_98 rfl ?_
  refine aw_iload_n (n := 5) dX6_lookAtAll_4 rfl rfl ?_
  refine aw_tld (n := 6) (t := 1) dX6_lookAtAll_5 (by decide) (by assumption) rfl ?_
  rw [hww, tab1 w hw]
  refine aw_s2 (d1 := d - 1) (n := 9) (Z := mX6_lookAt) (L0 := [_, _]) dX6_lookAtAll_6 kX6_lookAt gX6_62 syX6_lookAt rfl rfl (Nat.le_of_ble_eq_true rfl) rfl rfl (by omega) (Nat.le_of_ble_eq_true rfl) (t_lookAt q1 q5 ha' hva ?_)
  dsimp only [aPush]
  refine aw_istore (n := 11) (L' := [_, _, _, _, _]) dX6_lookAtAll_9 (Nat.le_of_ble_eq_true rfl) rfl rfl ?_
  refine aw_iload (n := 13) dX6_lookAtAll_11 rfl rfl ?_
  refine aw_if_ne (tg := 43) (n := 16) dX6_lookAtAll_13 (by decide) rfl (fun c_13 => ?_) (fun c_13 => ?_)
  · refine aw_iload (n := 45) dX6_lookAtAll_43 rfl rfl ?_
    refine aw_if_ne (tg := 59) (n := 48) dX6_lookAtAll_45 (by decide) rfl (fun c_45 => ?_) (fun c_45 => ?_)
    · refine aw_iload (n := 61) dX6_lookAtAll_59 rfl rfl ?_
      refine aw_iret dX6_lookAtAll_61 rfl ?_
      first
        | exact absurd c_45 c_13
        | (rw [show lkA w va vb vc = lk (nA w) va from if_pos (fun q => c_13 (by rw [q]; rfl))] at hQ; exact hQ)
        | (have h0 := (i4 l1 (by decide : 0 < 5)).mp c_13
           rw [show lkA w va vb vc = _ from (if_neg (fun q => q h0)).trans (if_pos (fun q => c_45 (by rw [q]; rfl)))] at hQ; exact hQ)
        | (have h0 := (i4 l1 (by decide : 0 < 5)).mp c_13
           have h1 := (i4 l2 (by decide : 0 < 5)).mp c_45
           rw [show lkA w va vb vc = _ from (if_neg (fun q => q h0)).trans (if_neg (fun q => q h1))] at hQ; exact hQ)
    · refine aw_aload_n (n := 49) dX6_lookAtAll_48 rfl rfl ?_
      refine aw_gets (n := 52) (t := 3) dX6_lookAtAll_49 (by decide) tX6_107 rfl ?_
      refine aw_iload_n (n := 53) dX6_lookAtAll_52 rfl rfl ?_
      refine aw_tld (n := 54) (t := 3) dX6_lookAtAll_53 (by decide) (by assumption) rfl ?_
      rw [hww, tab3 w hw]
      refine aw_s2 (d1 := d - 1) (n := 57) (Z := mX6_lookAt) (L0 := [_, _]) dX6_lookAtAll_54 kX6_lookAt gX6_62 syX6_lookAt rfl rfl (Nat.le_of_ble_eq_true rfl) rfl rfl (by omega) (Nat.le_of_ble_eq_true rfl) (t_lookAt q3 q6 hc hvc ?_)
      dsimp only [aPush]
      refine aw_istore (n := 59) (L' := [_, _, _, _, _]) dX6_lookAtAll_57 (Nat.le_of_ble_eq_true rfl) rfl rfl ?_
      refine aw_iload (n := 61) dX6_lookAtAll_59 rfl rfl ?_
      refine aw_iret dX6_lookAtAll_61 rfl ?_
      first
        | exact absurd c_45 c_13
        | (rw [show lkA w va vb vc = lk (nA w) va from if_pos (fun q => c_13 (by rw [q]; rfl))] at hQ; exact hQ)
        | (have h0 := (i4 l1 (by decide : 0 < 5)).mp c_13
           rw [show lkA w va vb vc = _ from (if_neg (fun q => q h0)).trans (if_pos (fun q => c_45 (by rw [q]; rfl)))] at hQ; exact hQ)
        | (have h0 := (i4 l1 (by decide : 0 < 5)).mp c_13
           have h1 := (i4 l2 (by decide : 0 < 5)).mp c_45
           rw [show lkA w va vb vc = _ from (if_neg (fun q => q h0)).trans (if_neg (fun q => q h1))] at hQ; exact hQ)
  · refine aw_aload_n (n := 17) dX6_lookAtAll_16 rfl rfl ?_
    refine aw_gets (n := 20) (t := 2) dX6_lookAtAll_17 (by decide) tX6_101 rfl ?_
    refine aw_iload_n (n := 21) dX6_lookAtAll_20 rfl rfl ?_
    refine aw_tld (n := 22) (t := 2) dX6_lookAtAll_21 (by decide) (by assumption) rfl ?_
    rw [hww, tab2 w hw]
    refine aw_iconst (n := 23) (v := 3) dX6_lookAtAll_22 (by decide) rfl ?_
    refine aw_icmp_ne (tg := 33) (n := 26) dX6_lookAtAll_23 (by decide) rfl (fun c_23 => ?_) (fun c_23 => ?_)
    · refine aw_gets (n := 36) (t := 2) dX6_lookAtAll_33 (by decide) tX6_101 rfl ?_
      refine aw_iload_n (n := 37) dX6_lookAtAll_36 rfl rfl ?_
      refine aw_tld (n := 38) (t := 2) dX6_lookAtAll_37 (by decide) (by assumption) rfl ?_
      first
        | (rw [hww, tab2 w hw]
           have h3 : ¬ nB w = 3 := fun q => c_23 (by rw [q]; rfl)
           have e38 : nI (nB w) = nI (if nB w = 3 then kd va else nB w) := by rw [if_neg h3]
           rw [e38])
        | (have h3 : nB w = 3 := (i4 q2 (by decide)).mp c_23
           have hk0 : lk (nA w) va = 0 := (i4 l1 (by decide)).mp c_13
           have hva2 : vAt M a va := hva (by rw [q4 h3]; decide)
           have e38 : M a 0 = nI (if nB w = 3 then kd va else nB w) := by
             rw [if_pos h3]
             rcases va with _ | x | r
             · rw [q4 h3] at hk0; exact absurd hk0 (by decide)
             · exact hva2.1
             · exact hva2.1
           rw [e38])
      refine aw_s2 (d1 := d - 1) (n := 41) (Z := mX6_lookAt) (L0 := [_, _]) dX6_lookAtAll_38 kX6_lookAt gX6_62 syX6_lookAt rfl rfl (Nat.le_of_ble_eq_true rfl) rfl rfl (by omega) (Nat.le_of_ble_eq_true rfl) (t_lookAt hbneed.1 hbneed.2 hb hbv ?_)
      dsimp only [aPush]
      refine aw_istore (n := 43) (L' := [_, _, _, _, _]) dX6_lookAtAll_41 (Nat.le_of_ble_eq_true rfl) rfl rfl ?_
      refine aw_iload (n := 45) dX6_lookAtAll_43 rfl rfl ?_
      refine aw_if_ne (tg := 59) (n := 48) dX6_lookAtAll_45 (by decide) rfl (fun c_45 => ?_) (fun c_45 => ?_)
      · refine aw_iload (n := 61) dX6_lookAtAll_59 rfl rfl ?_
        refine aw_iret dX6_lookAtAll_61 rfl ?_
        first
          | exact absurd c_45 c_13
          | (rw [show lkA w va vb vc = lk (nA w) va from if_pos (fun q => c_13 (by rw [q]; rfl))] at hQ; exact hQ)
          | (have h0 := (i4 l1 (by decide : 0 < 5)).mp c_13
             rw [show lkA w va vb vc = _ from (if_neg (fun q => q h0)).trans (if_pos (fun q => c_45 (by rw [q]; rfl)))] at hQ; exact hQ)
          | (have h0 := (i4 l1 (by decide : 0 < 5)).mp c_13
             have h1 := (i4 l2 (by decide : 0 < 5)).mp c_45
             rw [show lkA w va vb vc = _ from (if_neg (fun q => q h0)).trans (if_neg (fun q => q h1))] at hQ; exact hQ)
      · refine aw_aload_n (n := 49) dX6_lookAtAll_48 rfl rfl ?_
        refine aw_gets (n := 52) (t := 3) dX6_lookAtAll_49 (by decide) tX6_107 rfl ?_
        refine aw_iload_n (n := 53) dX6_lookAtAll_52 rfl rfl ?_
        refine aw_tld (n := 54) (t := 3) dX6_lookAtAll_53 (by decide) (by assumption) rfl ?_
        rw [hww, tab3 w hw]
        refine aw_s2 (d1 := d - 1) (n := 57) (Z := mX6_lookAt) (L0 := [_, _]) dX6_lookAtAll_54 kX6_lookAt gX6_62 syX6_lookAt rfl rfl (Nat.le_of_ble_eq_true rfl) rfl rfl (by omega) (Nat.le_of_ble_eq_true rfl) (t_lookAt q3 q6 hc hvc ?_)
        dsimp only [aPush]
        refine aw_istore (n := 59) (L' := [_, _, _, _, _]) dX6_lookAtAll_57 (Nat.le_of_ble_eq_true rfl) rfl rfl ?_
        refine aw_iload (n := 61) dX6_lookAtAll_59 rfl rfl ?_
        refine aw_iret dX6_lookAtAll_61 rfl ?_
        first
          | exact absurd c_45 c_13
          | (rw [show lkA w va vb vc = lk (nA w) va from if_pos (fun q => c_13 (by rw [q]; rfl))] at hQ; exact hQ)
          | (have h0 := (i4 l1 (by decide : 0 < 5)).mp c_13
             rw [show lkA w va vb vc = _ from (if_neg (fun q => q h0)).trans (if_pos (fun q => c_45 (by rw [q]; rfl)))] at hQ; exact hQ)
          | (have h0 := (i4 l1 (by decide : 0 < 5)).mp c_13
             have h1 := (i4 l2 (by decide : 0 < 5)).mp c_45
             rw [show lkA w va vb vc = _ from (if_neg (fun q => q h0)).trans (if_neg (fun q => q h1))] at hQ; exact hQ)
    · refine aw_aload_n (n := 27) dX6_lookAtAll_26 rfl rfl ?_
      refine aw_geti (n := 30) dX6_lookAtAll_27 fX6_104 (by assumption) rfl rfl ?_
      refine aw_goto (n := 38) dX6_lookAtAll_30 (by decide) ?_
      first
        | (rw [hww, tab2 w hw]
           have h3 : ¬ nB w = 3 := fun q => c_23 (by rw [q]; rfl)
           have e38 : nI (nB w) = nI (if nB w = 3 then kd va else nB w) := by rw [if_neg h3]
           rw [e38])
        | (have h3 : nB w = 3 := (i4 q2 (by decide)).mp c_23
           have hk0 : lk (nA w) va = 0 := (i4 l1 (by decide)).mp c_13
           have hva2 : vAt M a va := hva (by rw [q4 h3]; decide)
           have e38 : M a 0 = nI (if nB w = 3 then kd va else nB w) := by
             rw [if_pos h3]
             rcases va with _ | x | r
             · rw [q4 h3] at hk0; exact absurd hk0 (by decide)
             · exact hva2.1
             · exact hva2.1
           rw [e38])
      refine aw_s2 (d1 := d - 1) (n := 41) (Z := mX6_lookAt) (L0 := [_, _]) dX6_lookAtAll_38 kX6_lookAt gX6_62 syX6_lookAt rfl rfl (Nat.le_of_ble_eq_true rfl) rfl rfl (by omega) (Nat.le_of_ble_eq_true rfl) (t_lookAt hbneed.1 hbneed.2 hb hbv ?_)
      dsimp only [aPush]
      refine aw_istore (n := 43) (L' := [_, _, _, _, _]) dX6_lookAtAll_41 (Nat.le_of_ble_eq_true rfl) rfl rfl ?_
      refine aw_iload (n := 45) dX6_lookAtAll_43 rfl rfl ?_
      refine aw_if_ne (tg := 59) (n := 48) dX6_lookAtAll_45 (by decide) rfl (fun c_45 => ?_) (fun c_45 => ?_)
      · refine aw_iload (n := 61) dX6_lookAtAll_59 rfl rfl ?_
        refine aw_iret dX6_lookAtAll_61 rfl ?_
        first
          | exact absurd c_45 c_13
          | (rw [show lkA w va vb vc = lk (nA w) va from if_pos (fun q => c_13 (by rw [q]; rfl))] at hQ; exact hQ)
          | (have h0 := (i4 l1 (by decide : 0 < 5)).mp c_13
             rw [show lkA w va vb vc = _ from (if_neg (fun q => q h0)).trans (if_pos (fun q => c_45 (by rw [q]; rfl)))] at hQ; exact hQ)
          | (have h0 := (i4 l1 (by decide : 0 < 5)).mp c_13
             have h1 := (i4 l2 (by decide : 0 < 5)).mp c_45
             rw [show lkA w va vb vc = _ from (if_neg (fun q => q h0)).trans (if_neg (fun q => q h1))] at hQ; exact hQ)
      · refine aw_aload_n (n := 49) dX6_lookAtAll_48 rfl rfl ?_
        refine aw_gets (n := 52) (t := 3) dX6_lookAtAll_49 (by decide) tX6_107 rfl ?_
        refine aw_iload_n (n := 53) dX6_lookAtAll_52 rfl rfl ?_
        refine aw_tld (n := 54) (t := 3) dX6_lookAtAll_53 (by decide) (by assumption) rfl ?_
        rw [hww, tab3 w hw]
        refine aw_s2 (d1 := d - 1) (n := 57) (Z := mX6_lookAt) (L0 := [_, _]) dX6_lookAtAll_54 kX6_lookAt gX6_62 syX6_lookAt rfl rfl (Nat.le_of_ble_eq_true rfl) rfl rfl (by omega) (Nat.le_of_ble_eq_true rfl) (t_lookAt q3 q6 hc hvc ?_)
        dsimp only [aPush]
        refine aw_istore (n := 59) (L' := [_, _, _, _, _]) dX6_lookAtAll_57 (Nat.le_of_ble_eq_true rfl) rfl rfl ?_
        refine aw_iload (n := 61) dX6_lookAtAll_59 rfl rfl ?_
        refine aw_iret dX6_lookAtAll_61 rfl ?_
        first
          | exact absurd c_45 c_13
          | (rw [show lkA w va vb vc = lk (nA w) va from if_pos (fun q => c_13 (by rw [q]; rfl))] at hQ; exact hQ)
          | (have h0 := (i4 l1 (by decide : 0 < 5)).mp c_13
             rw [show lkA w va vb vc = _ from (if_neg (fun q => q h0)).trans (if_pos (fun q => c_45 (by rw [q]; rfl)))] at hQ; exact hQ)
          | (have h0 := (i4 l1 (by decide : 0 < 5)).mp c_13
             have h1 := (i4 l2 (by decide : 0 < 5)).mp c_45
             rw [show lkA w va vb vc = _ from (if_neg (fun q => q h0)).trans (if_neg (fun q => q h1))] at hQ; exact hQ)
end COME
