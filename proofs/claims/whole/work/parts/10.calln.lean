section AWN
variable {l : Launch} {K : aK} {Y : aY} {d pc n : Nat} {L : List Value} {E : aE} {M : aM} {Q : Option Value → aE → aM → Prop}
theorem aw_s0 {Z : aY} {idx d1 : Nat} {L0 rest : List Value} (hd : decode Y.2.1 pc = .ok (.invokestatic idx, 3)) (hok : aMd Z 0) (hlk : aLk Y.1.cls idx Z.1) (hstt : Cond.static Z.1 ∈ aTB)  (hle : 0 ≤ Z.2.2.1) (hL : [] ++ List.replicate (Z.2.2.1 - 0) .null = L0) (hn : pc + 3 = n) (hd1 : d1 + 1 ≤ d) (hrest : (rest.map fun v => v.category).sum ≤ 8)
    (kk : aw l K Z d1 0 0 0 L0 [] E M (fun v E' M' => aw l K Y d 0 0 n L (aPush v rest) E' M' Q)) : aw l K Y d 0 0 pc L (rest) E M Q := by
  subst hn
  exact aw_scall (As := []) hd hok hlk hstt rfl (fun v hv => absurd hv List.not_mem_nil) hle hL hd1 hrest kk
theorem aw_v0 {Z : aY} {idx d1 b ci : Nat} {q : vw_C} {fs : List aF} {L0 rest : List Value} (hd : decode Y.2.1 pc = .ok (.invokevirtual idx, 3)) (hok : aMd Z 0) (hlk : aLk Y.1.cls idx Z.1) (hinst : Cond.instanceMethod Z.1 ∈ aTB) (hsel : Cond.selects Z.1.cls Z.1 Z.1 ∈ aTB) (hcl : vwCl[ci]? = some q) (hq : q.1 = Z.1.cls) (hE : E[b]? = some (.inl (ci, fs)))  (hle : 0 + 1 ≤ Z.2.2.1) (hL : .ref b :: [] ++ List.replicate (Z.2.2.1 - (0 + 1)) .null = L0) (hn : pc + 3 = n) (hd1 : d1 + 1 ≤ d) (hrest : (rest.map fun v => v.category).sum ≤ 8)
    (kk : aw l K Z d1 0 0 0 L0 [] E M (fun v E' M' => aw l K Y d 0 0 n L (aPush v rest) E' M' Q)) : aw l K Y d 0 0 pc L (.ref b :: rest) E M Q := by
  subst hn
  exact aw_vcall (As := []) hd hok hlk hinst hsel hcl hq hE rfl (fun v hv => absurd hv List.not_mem_nil) hle hL hd1 hrest kk
theorem aw_s1 {Z : aY} {idx d1 : Nat} {a0 : Value} {L0 rest : List Value} (hd : decode Y.2.1 pc = .ok (.invokestatic idx, 3)) (hok : aMd Z 1) (hlk : aLk Y.1.cls idx Z.1) (hstt : Cond.static Z.1 ∈ aTB) (h0 : a0.category = 1) (hle : 1 ≤ Z.2.2.1) (hL : [a0] ++ List.replicate (Z.2.2.1 - 1) .null = L0) (hn : pc + 3 = n) (hd1 : d1 + 1 ≤ d) (hrest : (rest.map fun v => v.category).sum ≤ 8)
    (kk : aw l K Z d1 0 0 0 L0 [] E M (fun v E' M' => aw l K Y d 0 0 n L (aPush v rest) E' M' Q)) : aw l K Y d 0 0 pc L (a0 :: rest) E M Q := by
  subst hn
  exact aw_scall (As := [a0]) hd hok hlk hstt rfl (fun v hv => by
    rw [List.mem_singleton.mp hv]; exact h0) hle hL hd1 hrest kk
theorem aw_v1 {Z : aY} {idx d1 b ci : Nat} {q : vw_C} {fs : List aF} {a0 : Value} {L0 rest : List Value} (hd : decode Y.2.1 pc = .ok (.invokevirtual idx, 3)) (hok : aMd Z 1) (hlk : aLk Y.1.cls idx Z.1) (hinst : Cond.instanceMethod Z.1 ∈ aTB) (hsel : Cond.selects Z.1.cls Z.1 Z.1 ∈ aTB) (hcl : vwCl[ci]? = some q) (hq : q.1 = Z.1.cls) (hE : E[b]? = some (.inl (ci, fs))) (h0 : a0.category = 1) (hle : 1 + 1 ≤ Z.2.2.1) (hL : .ref b :: [a0] ++ List.replicate (Z.2.2.1 - (1 + 1)) .null = L0) (hn : pc + 3 = n) (hd1 : d1 + 1 ≤ d) (hrest : (rest.map fun v => v.category).sum ≤ 8)
    (kk : aw l K Z d1 0 0 0 L0 [] E M (fun v E' M' => aw l K Y d 0 0 n L (aPush v rest) E' M' Q)) : aw l K Y d 0 0 pc L (a0 :: .ref b :: rest) E M Q := by
  subst hn
  exact aw_vcall (As := [a0]) hd hok hlk hinst hsel hcl hq hE rfl (fun v hv => by
    rw [List.mem_singleton.mp hv]; exact h0) hle hL hd1 hrest kk
theorem aw_s2 {Z : aY} {idx d1 : Nat} {a0 a1 : Value} {L0 rest : List Value} (hd : decode Y.2.1 pc = .ok (.invokestatic idx, 3)) (hok : aMd Z 2) (hlk : aLk Y.1.cls idx Z.1) (hstt : Cond.static Z.1 ∈ aTB) (h0 : a0.category = 1) (h1 : a1.category = 1) (hle : 2 ≤ Z.2.2.1) (hL : [a0, a1] ++ List.replicate (Z.2.2.1 - 2) .null = L0) (hn : pc + 3 = n) (hd1 : d1 + 1 ≤ d) (hrest : (rest.map fun v => v.category).sum ≤ 8)
    (kk : aw l K Z d1 0 0 0 L0 [] E M (fun v E' M' => aw l K Y d 0 0 n L (aPush v rest) E' M' Q)) : aw l K Y d 0 0 pc L (a1 :: a0 :: rest) E M Q := by
  subst hn
  exact aw_scall (As := [a0, a1]) hd hok hlk hstt rfl (fun v hv => by
    simp only [List.mem_cons, List.not_mem_nil, or_false] at hv
    rcases hv with rfl | rfl <;> assumption) hle hL hd1 hrest kk
theorem aw_v2 {Z : aY} {idx d1 b ci : Nat} {q : vw_C} {fs : List aF} {a0 a1 : Value} {L0 rest : List Value} (hd : decode Y.2.1 pc = .ok (.invokevirtual idx, 3)) (hok : aMd Z 2) (hlk : aLk Y.1.cls idx Z.1) (hinst : Cond.instanceMethod Z.1 ∈ aTB) (hsel : Cond.selects Z.1.cls Z.1 Z.1 ∈ aTB) (hcl : vwCl[ci]? = some q) (hq : q.1 = Z.1.cls) (hE : E[b]? = some (.inl (ci, fs))) (h0 : a0.category = 1) (h1 : a1.category = 1) (hle : 2 + 1 ≤ Z.2.2.1) (hL : .ref b :: [a0, a1] ++ List.replicate (Z.2.2.1 - (2 + 1)) .null = L0) (hn : pc + 3 = n) (hd1 : d1 + 1 ≤ d) (hrest : (rest.map fun v => v.category).sum ≤ 8)
    (kk : aw l K Z d1 0 0 0 L0 [] E M (fun v E' M' => aw l K Y d 0 0 n L (aPush v rest) E' M' Q)) : aw l K Y d 0 0 pc L (a1 :: a0 :: .ref b :: rest) E M Q := by
  subst hn
  exact aw_vcall (As := [a0, a1]) hd hok hlk hinst hsel hcl hq hE rfl (fun v hv => by
    simp only [List.mem_cons, List.not_mem_nil, or_false] at hv
    rcases hv with rfl | rfl <;> assumption) hle hL hd1 hrest kk
theorem aw_s3 {Z : aY} {idx d1 : Nat} {a0 a1 a2 : Value} {L0 rest : List Value} (hd : decode Y.2.1 pc = .ok (.invokestatic idx, 3)) (hok : aMd Z 3) (hlk : aLk Y.1.cls idx Z.1) (hstt : Cond.static Z.1 ∈ aTB) (h0 : a0.category = 1) (h1 : a1.category = 1) (h2 : a2.category = 1) (hle : 3 ≤ Z.2.2.1) (hL : [a0, a1, a2] ++ List.replicate (Z.2.2.1 - 3) .null = L0) (hn : pc + 3 = n) (hd1 : d1 + 1 ≤ d) (hrest : (rest.map fun v => v.category).sum ≤ 8)
    (kk : aw l K Z d1 0 0 0 L0 [] E M (fun v E' M' => aw l K Y d 0 0 n L (aPush v rest) E' M' Q)) : aw l K Y d 0 0 pc L (a2 :: a1 :: a0 :: rest) E M Q := by
  subst hn
  exact aw_scall (As := [a0, a1, a2]) hd hok hlk hstt rfl (fun v hv => by
    simp only [List.mem_cons, List.not_mem_nil, or_false] at hv
    rcases hv with rfl | rfl | rfl <;> assumption) hle hL hd1 hrest kk
theorem aw_v3 {Z : aY} {idx d1 b ci : Nat} {q : vw_C} {fs : List aF} {a0 a1 a2 : Value} {L0 rest : List Value} (hd : decode Y.2.1 pc = .ok (.invokevirtual idx, 3)) (hok : aMd Z 3) (hlk : aLk Y.1.cls idx Z.1) (hinst : Cond.instanceMethod Z.1 ∈ aTB) (hsel : Cond.selects Z.1.cls Z.1 Z.1 ∈ aTB) (hcl : vwCl[ci]? = some q) (hq : q.1 = Z.1.cls) (hE : E[b]? = some (.inl (ci, fs))) (h0 : a0.category = 1) (h1 : a1.category = 1) (h2 : a2.category = 1) (hle : 3 + 1 ≤ Z.2.2.1) (hL : .ref b :: [a0, a1, a2] ++ List.replicate (Z.2.2.1 - (3 + 1)) .null = L0) (hn : pc + 3 = n) (hd1 : d1 + 1 ≤ d) (hrest : (rest.map fun v => v.category).sum ≤ 8)
    (kk : aw l K Z d1 0 0 0 L0 [] E M (fun v E' M' => aw l K Y d 0 0 n L (aPush v rest) E' M' Q)) : aw l K Y d 0 0 pc L (a2 :: a1 :: a0 :: .ref b :: rest) E M Q := by
  subst hn
  exact aw_vcall (As := [a0, a1, a2]) hd hok hlk hinst hsel hcl hq hE rfl (fun v hv => by
    simp only [List.mem_cons, List.not_mem_nil, or_false] at hv
    rcases hv with rfl | rfl | rfl <;> assumption) hle hL hd1 hrest kk
theorem aw_s4 {Z : aY} {idx d1 : Nat} {a0 a1 a2 a3 : Value} {L0 rest : List Value} (hd : decode Y.2.1 pc = .ok (.invokestatic idx, 3)) (hok : aMd Z 4) (hlk : aLk Y.1.cls idx Z.1) (hstt : Cond.static Z.1 ∈ aTB) (h0 : a0.category = 1) (h1 : a1.category = 1) (h2 : a2.category = 1) (h3 : a3.category = 1) (hle : 4 ≤ Z.2.2.1) (hL : [a0, a1, a2, a3] ++ List.replicate (Z.2.2.1 - 4) .null = L0) (hn : pc + 3 = n) (hd1 : d1 + 1 ≤ d) (hrest : (rest.map fun v => v.category).sum ≤ 8)
    (kk : aw l K Z d1 0 0 0 L0 [] E M (fun v E' M' => aw l K Y d 0 0 n L (aPush v rest) E' M' Q)) : aw l K Y d 0 0 pc L (a3 :: a2 :: a1 :: a0 :: rest) E M Q := by
  subst hn
  exact aw_scall (As := [a0, a1, a2, a3]) hd hok hlk hstt rfl (fun v hv => by
    simp only [List.mem_cons, List.not_mem_nil, or_false] at hv
    rcases hv with rfl | rfl | rfl | rfl <;> assumption) hle hL hd1 hrest kk
theorem aw_v4 {Z : aY} {idx d1 b ci : Nat} {q : vw_C} {fs : List aF} {a0 a1 a2 a3 : Value} {L0 rest : List Value} (hd : decode Y.2.1 pc = .ok (.invokevirtual idx, 3)) (hok : aMd Z 4) (hlk : aLk Y.1.cls idx Z.1) (hinst : Cond.instanceMethod Z.1 ∈ aTB) (hsel : Cond.selects Z.1.cls Z.1 Z.1 ∈ aTB) (hcl : vwCl[ci]? = some q) (hq : q.1 = Z.1.cls) (hE : E[b]? = some (.inl (ci, fs))) (h0 : a0.category = 1) (h1 : a1.category = 1) (h2 : a2.category = 1) (h3 : a3.category = 1) (hle : 4 + 1 ≤ Z.2.2.1) (hL : .ref b :: [a0, a1, a2, a3] ++ List.replicate (Z.2.2.1 - (4 + 1)) .null = L0) (hn : pc + 3 = n) (hd1 : d1 + 1 ≤ d) (hrest : (rest.map fun v => v.category).sum ≤ 8)
    (kk : aw l K Z d1 0 0 0 L0 [] E M (fun v E' M' => aw l K Y d 0 0 n L (aPush v rest) E' M' Q)) : aw l K Y d 0 0 pc L (a3 :: a2 :: a1 :: a0 :: .ref b :: rest) E M Q := by
  subst hn
  exact aw_vcall (As := [a0, a1, a2, a3]) hd hok hlk hinst hsel hcl hq hE rfl (fun v hv => by
    simp only [List.mem_cons, List.not_mem_nil, or_false] at hv
    rcases hv with rfl | rfl | rfl | rfl <;> assumption) hle hL hd1 hrest kk
theorem aw_s5 {Z : aY} {idx d1 : Nat} {a0 a1 a2 a3 a4 : Value} {L0 rest : List Value} (hd : decode Y.2.1 pc = .ok (.invokestatic idx, 3)) (hok : aMd Z 5) (hlk : aLk Y.1.cls idx Z.1) (hstt : Cond.static Z.1 ∈ aTB) (h0 : a0.category = 1) (h1 : a1.category = 1) (h2 : a2.category = 1) (h3 : a3.category = 1) (h4 : a4.category = 1) (hle : 5 ≤ Z.2.2.1) (hL : [a0, a1, a2, a3, a4] ++ List.replicate (Z.2.2.1 - 5) .null = L0) (hn : pc + 3 = n) (hd1 : d1 + 1 ≤ d) (hrest : (rest.map fun v => v.category).sum ≤ 8)
    (kk : aw l K Z d1 0 0 0 L0 [] E M (fun v E' M' => aw l K Y d 0 0 n L (aPush v rest) E' M' Q)) : aw l K Y d 0 0 pc L (a4 :: a3 :: a2 :: a1 :: a0 :: rest) E M Q := by
  subst hn
  exact aw_scall (As := [a0, a1, a2, a3, a4]) hd hok hlk hstt rfl (fun v hv => by
    simp only [List.mem_cons, List.not_mem_nil, or_false] at hv
    rcases hv with rfl | rfl | rfl | rfl | rfl <;> assumption) hle hL hd1 hrest kk
theorem aw_v5 {Z : aY} {idx d1 b ci : Nat} {q : vw_C} {fs : List aF} {a0 a1 a2 a3 a4 : Value} {L0 rest : List Value} (hd : decode Y.2.1 pc = .ok (.invokevirtual idx, 3)) (hok : aMd Z 5) (hlk : aLk Y.1.cls idx Z.1) (hinst : Cond.instanceMethod Z.1 ∈ aTB) (hsel : Cond.selects Z.1.cls Z.1 Z.1 ∈ aTB) (hcl : vwCl[ci]? = some q) (hq : q.1 = Z.1.cls) (hE : E[b]? = some (.inl (ci, fs))) (h0 : a0.category = 1) (h1 : a1.category = 1) (h2 : a2.category = 1) (h3 : a3.category = 1) (h4 : a4.category = 1) (hle : 5 + 1 ≤ Z.2.2.1) (hL : .ref b :: [a0, a1, a2, a3, a4] ++ List.replicate (Z.2.2.1 - (5 + 1)) .null = L0) (hn : pc + 3 = n) (hd1 : d1 + 1 ≤ d) (hrest : (rest.map fun v => v.category).sum ≤ 8)
    (kk : aw l K Z d1 0 0 0 L0 [] E M (fun v E' M' => aw l K Y d 0 0 n L (aPush v rest) E' M' Q)) : aw l K Y d 0 0 pc L (a4 :: a3 :: a2 :: a1 :: a0 :: .ref b :: rest) E M Q := by
  subst hn
  exact aw_vcall (As := [a0, a1, a2, a3, a4]) hd hok hlk hinst hsel hcl hq hE rfl (fun v hv => by
    simp only [List.mem_cons, List.not_mem_nil, or_false] at hv
    rcases hv with rfl | rfl | rfl | rfl | rfl <;> assumption) hle hL hd1 hrest kk
theorem aw_s6 {Z : aY} {idx d1 : Nat} {a0 a1 a2 a3 a4 a5 : Value} {L0 rest : List Value} (hd : decode Y.2.1 pc = .ok (.invokestatic idx, 3)) (hok : aMd Z 6) (hlk : aLk Y.1.cls idx Z.1) (hstt : Cond.static Z.1 ∈ aTB) (h0 : a0.category = 1) (h1 : a1.category = 1) (h2 : a2.category = 1) (h3 : a3.category = 1) (h4 : a4.category = 1) (h5 : a5.category = 1) (hle : 6 ≤ Z.2.2.1) (hL : [a0, a1, a2, a3, a4, a5] ++ List.replicate (Z.2.2.1 - 6) .null = L0) (hn : pc + 3 = n) (hd1 : d1 + 1 ≤ d) (hrest : (rest.map fun v => v.category).sum ≤ 8)
    (kk : aw l K Z d1 0 0 0 L0 [] E M (fun v E' M' => aw l K Y d 0 0 n L (aPush v rest) E' M' Q)) : aw l K Y d 0 0 pc L (a5 :: a4 :: a3 :: a2 :: a1 :: a0 :: rest) E M Q := by
  subst hn
  exact aw_scall (As := [a0, a1, a2, a3, a4, a5]) hd hok hlk hstt rfl (fun v hv => by
    simp only [List.mem_cons, List.not_mem_nil, or_false] at hv
    rcases hv with rfl | rfl | rfl | rfl | rfl | rfl <;> assumption) hle hL hd1 hrest kk
theorem aw_v6 {Z : aY} {idx d1 b ci : Nat} {q : vw_C} {fs : List aF} {a0 a1 a2 a3 a4 a5 : Value} {L0 rest : List Value} (hd : decode Y.2.1 pc = .ok (.invokevirtual idx, 3)) (hok : aMd Z 6) (hlk : aLk Y.1.cls idx Z.1) (hinst : Cond.instanceMethod Z.1 ∈ aTB) (hsel : Cond.selects Z.1.cls Z.1 Z.1 ∈ aTB) (hcl : vwCl[ci]? = some q) (hq : q.1 = Z.1.cls) (hE : E[b]? = some (.inl (ci, fs))) (h0 : a0.category = 1) (h1 : a1.category = 1) (h2 : a2.category = 1) (h3 : a3.category = 1) (h4 : a4.category = 1) (h5 : a5.category = 1) (hle : 6 + 1 ≤ Z.2.2.1) (hL : .ref b :: [a0, a1, a2, a3, a4, a5] ++ List.replicate (Z.2.2.1 - (6 + 1)) .null = L0) (hn : pc + 3 = n) (hd1 : d1 + 1 ≤ d) (hrest : (rest.map fun v => v.category).sum ≤ 8)
    (kk : aw l K Z d1 0 0 0 L0 [] E M (fun v E' M' => aw l K Y d 0 0 n L (aPush v rest) E' M' Q)) : aw l K Y d 0 0 pc L (a5 :: a4 :: a3 :: a2 :: a1 :: a0 :: .ref b :: rest) E M Q := by
  subst hn
  exact aw_vcall (As := [a0, a1, a2, a3, a4, a5]) hd hok hlk hinst hsel hcl hq hE rfl (fun v hv => by
    simp only [List.mem_cons, List.not_mem_nil, or_false] at hv
    rcases hv with rfl | rfl | rfl | rfl | rfl | rfl <;> assumption) hle hL hd1 hrest kk
theorem aw_s7 {Z : aY} {idx d1 : Nat} {a0 a1 a2 a3 a4 a5 a6 : Value} {L0 rest : List Value} (hd : decode Y.2.1 pc = .ok (.invokestatic idx, 3)) (hok : aMd Z 7) (hlk : aLk Y.1.cls idx Z.1) (hstt : Cond.static Z.1 ∈ aTB) (h0 : a0.category = 1) (h1 : a1.category = 1) (h2 : a2.category = 1) (h3 : a3.category = 1) (h4 : a4.category = 1) (h5 : a5.category = 1) (h6 : a6.category = 1) (hle : 7 ≤ Z.2.2.1) (hL : [a0, a1, a2, a3, a4, a5, a6] ++ List.replicate (Z.2.2.1 - 7) .null = L0) (hn : pc + 3 = n) (hd1 : d1 + 1 ≤ d) (hrest : (rest.map fun v => v.category).sum ≤ 8)
    (kk : aw l K Z d1 0 0 0 L0 [] E M (fun v E' M' => aw l K Y d 0 0 n L (aPush v rest) E' M' Q)) : aw l K Y d 0 0 pc L (a6 :: a5 :: a4 :: a3 :: a2 :: a1 :: a0 :: rest) E M Q := by
  subst hn
  exact aw_scall (As := [a0, a1, a2, a3, a4, a5, a6]) hd hok hlk hstt rfl (fun v hv => by
    simp only [List.mem_cons, List.not_mem_nil, or_false] at hv
    rcases hv with rfl | rfl | rfl | rfl | rfl | rfl | rfl <;> assumption) hle hL hd1 hrest kk
theorem aw_v7 {Z : aY} {idx d1 b ci : Nat} {q : vw_C} {fs : List aF} {a0 a1 a2 a3 a4 a5 a6 : Value} {L0 rest : List Value} (hd : decode Y.2.1 pc = .ok (.invokevirtual idx, 3)) (hok : aMd Z 7) (hlk : aLk Y.1.cls idx Z.1) (hinst : Cond.instanceMethod Z.1 ∈ aTB) (hsel : Cond.selects Z.1.cls Z.1 Z.1 ∈ aTB) (hcl : vwCl[ci]? = some q) (hq : q.1 = Z.1.cls) (hE : E[b]? = some (.inl (ci, fs))) (h0 : a0.category = 1) (h1 : a1.category = 1) (h2 : a2.category = 1) (h3 : a3.category = 1) (h4 : a4.category = 1) (h5 : a5.category = 1) (h6 : a6.category = 1) (hle : 7 + 1 ≤ Z.2.2.1) (hL : .ref b :: [a0, a1, a2, a3, a4, a5, a6] ++ List.replicate (Z.2.2.1 - (7 + 1)) .null = L0) (hn : pc + 3 = n) (hd1 : d1 + 1 ≤ d) (hrest : (rest.map fun v => v.category).sum ≤ 8)
    (kk : aw l K Z d1 0 0 0 L0 [] E M (fun v E' M' => aw l K Y d 0 0 n L (aPush v rest) E' M' Q)) : aw l K Y d 0 0 pc L (a6 :: a5 :: a4 :: a3 :: a2 :: a1 :: a0 :: .ref b :: rest) E M Q := by
  subst hn
  exact aw_vcall (As := [a0, a1, a2, a3, a4, a5, a6]) hd hok hlk hinst hsel hcl hq hE rfl (fun v hv => by
    simp only [List.mem_cons, List.not_mem_nil, or_false] at hv
    rcases hv with rfl | rfl | rfl | rfl | rfl | rfl | rfl <;> assumption) hle hL hd1 hrest kk
theorem aw_incp {kc ks : Nat} {st : List Value} {i : Nat} {x : Int32} {L' : List Value} (hd : decode Y.2.1 pc = .ok (.iinc i 1, 3)) (hx : L[i]? = some (.int x)) (hL : L.set i (.int (x + 1)) = L') (hn : pc + 3 = n) (k : aw l K Y d kc ks n L' st E M Q) : aw l K Y d kc ks pc L st E M Q := aw_iinc hd hx rfl hL hn k
theorem aw_incm {kc ks : Nat} {st : List Value} {i : Nat} {x : Int32} {L' : List Value} (hd : decode Y.2.1 pc = .ok (.iinc i (-1), 3)) (hx : L[i]? = some (.int x)) (hL : L.set i (.int (x + -1)) = L') (hn : pc + 3 = n) (k : aw l K Y d kc ks n L' st E M Q) : aw l K Y d kc ks pc L st E M Q := aw_iinc hd hx rfl hL hn k
end AWN
