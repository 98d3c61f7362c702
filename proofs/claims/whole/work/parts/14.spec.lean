/-! what the document says, as functions: terms, their work, a try -/
abbrev tm : Type := Nat → Nat → Int32
def pts (w : Nat) : Nat := ([0, 0, 0, 2, 2, 2, 2, 2, 2, 2, 2, 1, 1, 3, 2, 3, 1, 1, 1, 3, 2] : List Nat).getD w 0
def isNo (x : Int32) (n : Nat) : Prop := ∃ j, j < n ∧ x = nI j
def wfT (cnt : Nat) (T : tm) : Prop := ∀ t, t < cnt → ∃ w, w ≤ 20 ∧ T 0 t = nI w ∧ (1 ≤ pts w → isNo (T 1 t) t) ∧ (2 ≤ pts w → isNo (T 2 t) t) ∧ (3 ≤ pts w → isNo (T 3 t) t) ∧ (w = 0 → isNo (T 4 t) 3)
def bW (v : vV) (f : Int32 → Nat ⊕ vV) : Nat ⊕ vV := match v with
  | none => .inl 1
  | some (.inl x) => f x
  | some (.inr _) => .inl 4
def bR (v : vV) (f : List Int32 → Nat ⊕ vV) : Nat ⊕ vV := match v with
  | none => .inl 1
  | some (.inl _) => .inl 4
  | some (.inr r) => f r
def tru (b : Bool) : Nat ⊕ vV := .inr (some (.inl (if b then 1 else 0)))
def opB (w : Nat) (x y : Int32) : Nat ⊕ vV := if w = 3 then .inr (some (.inl (x + y))) else if w = 4 then .inr (some (.inl (x - y))) else if w = 5 then .inr (some (.inl (x * y))) else if w = 6 then (if y = 0 then .inl 5 else .inr (some (.inl (x / y)))) else if w = 7 then (if y = 0 then .inl 5 else .inr (some (.inl (x - x / y * y)))) else tru (decide (x < y))
def opL (a b : vV) : Nat ⊕ vV := match a, b with
  | none, _ => .inl 1
  | some _, none => .inl 1
  | some (.inl x), some (.inl y) => tru (decide (x = y))
  | some (.inr r), some (.inr s) => tru (decide (r = s))
  | some (.inl _), some (.inr _) => .inl 4
  | some (.inr _), some (.inl _) => .inl 4
def sh (f : Nat → Int32) (x : Int32) : Nat → (Nat → Int32)
  | 0 => fun j => if j = 0 then x else f j
  | p + 1 => if x < f p then sh (fun j => if j = p + 1 then f p else f j) x p else fun j => if j = p + 1 then x else f j
def srt (f : Nat → Int32) : Nat → (Nat → Int32)
  | 0 => f
  | k + 1 => sh (srt f k) (srt f k (k + 1)) (k + 1)
def fR (r : List Int32) : Nat → Int32 := fun j => r.getD j 0
def lR (n : Nat) (f : Nat → Int32) : List Int32 := (List.range n).map f
def sumR (r : List Int32) : Int32 := r.foldl (fun s x => s + x) 0
def op (w : Nat) (n : Int32) (inp : Nat → vV) (a b c : vV) : Nat ⊕ vV :=
  if w = 0 then .inr (inp n.toNatClampNeg)
  else if w = 1 then .inr (some (.inl n))
  else if w = 2 then .inr none
  else if w < 9 then bW a fun x => bW b fun y => opB w x y
  else if w = 9 then opL a b
  else if w = 10 then bR a fun r => bW b fun i => if i < 0 ∨ nI r.length ≤ i then .inl 2 else .inr (some (.inl (r.getD i.toNatClampNeg 0)))
  else if w = 11 then bR a fun r => .inr (some (.inl (nI r.length)))
  else if w = 12 then bW a fun x => if x < 0 then .inl 3 else if 16 < x then .inl 6 else .inr (some (.inr (List.replicate x.toNatClampNeg 0)))
  else if w = 13 then bR a fun r => bW b fun i => bW c fun x => if i < 0 ∨ nI r.length ≤ i then .inl 2 else .inr (some (.inr (r.set i.toNatClampNeg x)))
  else if w = 14 then bR a fun r => bR b fun s => if 16 < r.length + s.length then .inl 6 else .inr (some (.inr (r ++ s)))
  else if w = 15 then bR a fun r => bW b fun i => bW c fun k => if k < 0 then .inl 3 else if 16 < k then .inl 6 else if i < 0 ∨ nI r.length - k < i then .inl 2 else .inr (some (.inr ((r.drop i.toNatClampNeg).take k.toNatClampNeg)))
  else if w = 16 then bR a fun r => .inr (some (.inr (lR r.length (srt (fR r) (r.length - 1)))))
  else if w = 17 then bR a fun r => .inr (some (.inr r.reverse))
  else bR a fun r => .inr (some (.inl (sumR r)))
abbrev rE : Type := Nat × (Nat ⊕ vV)
def eB (p : rE) (f : Nat → vV → rE) : rE := match p with
  | (r, .inl k) => (r, .inl k)
  | (r, .inr v) => f r v
def eW (r : Nat) (v : vV) (f : Int32 → rE) : rE := match v with
  | none => (r, .inl 1)
  | some (.inl x) => f x
  | some (.inr _) => (r, .inl 4)
/-- the work of a term with r steps left: what is left, and a throw or a value -/
def ev (T : tm) (inp : Nat → vV) : Nat → Nat → Nat → rE
  | 0, r, _ => (r, .inl 7)
  | _ + 1, 0, _ => (0, .inl 7)
  | n + 1, r + 1, t =>
    if (T 0 t).toNatClampNeg = 19 then eB (ev T inp n r (T 1 t).toNatClampNeg) fun r1 v => eW r1 v fun x => if x = 0 then ev T inp n r1 (T 3 t).toNatClampNeg else ev T inp n r1 (T 2 t).toNatClampNeg
    else if (T 0 t).toNatClampNeg = 20 then eB (ev T inp n r (T 1 t).toNatClampNeg) fun r1 v => eW r1 v fun x => if x = 0 then (r1, .inr (some (.inl 0))) else eB (ev T inp n r1 (T 2 t).toNatClampNeg) fun r2 v2 => eW r2 v2 fun y => (r2, .inr (some (.inl (if y = 0 then 0 else 1))))
    else if pts (T 0 t).toNatClampNeg = 0 then (r, op (T 0 t).toNatClampNeg (T 4 t) inp none none none)
    else eB (ev T inp n r (T 1 t).toNatClampNeg) fun r1 a =>
      if pts (T 0 t).toNatClampNeg = 1 then (r1, op (T 0 t).toNatClampNeg (T 4 t) inp a none none)
      else eB (ev T inp n r1 (T 2 t).toNatClampNeg) fun r2 b =>
        if pts (T 0 t).toNatClampNeg = 2 then (r2, op (T 0 t).toNatClampNeg (T 4 t) inp a b none)
        else eB (ev T inp n r2 (T 3 t).toNatClampNeg) fun r3 c => (r3, op (T 0 t).toNatClampNeg (T 4 t) inp a b c)
theorem ev_le (T : tm) (inp : Nat → vV) : ∀ n r t, (ev T inp n r t).1 ≤ r := by
  intro n
  induction n with
  | zero => intro r t; exact Nat.le_refl _
  | succ n ih =>
    intro r t
    cases r with
    | zero => exact Nat.le_refl _
    | succ r =>
      have eBle : ∀ (p : rE) (f : Nat → vV → rE) (m : Nat), p.1 ≤ m → (∀ r1 v, r1 ≤ m → (f r1 v).1 ≤ m) → (eB p f).1 ≤ m := by
        intro p f m h1 h2
        rcases p with ⟨r1, k | v⟩
        · exact h1
        · exact h2 r1 v h1
      have eWle : ∀ (r1 : Nat) (v : vV) (f : Int32 → rE) (m : Nat), r1 ≤ m → (∀ x, (f x).1 ≤ m) → (eW r1 v f).1 ≤ m := by
        intro r1 v f m h1 h2
        rcases v with _ | x | s
        · exact h1
        · exact h2 x
        · exact h1
      unfold ev
      split
      · refine eBle _ _ _ (Nat.le_succ_of_le (ih _ _)) (fun r1 v h1 => eWle _ _ _ _ h1 (fun x => ?_))
        split
        · exact Nat.le_trans (ih _ _) h1
        · exact Nat.le_trans (ih _ _) h1
      · split
        · refine eBle _ _ _ (Nat.le_succ_of_le (ih _ _)) (fun r1 v h1 => eWle _ _ _ _ h1 (fun x => ?_))
          split
          · exact h1
          · refine eBle _ _ _ (Nat.le_trans (ih _ _) h1) (fun r2 v2 h2 => eWle _ _ _ _ h2 (fun y => h2))
        · split
          · exact Nat.le_succ _
          · refine eBle _ _ _ (Nat.le_succ_of_le (ih _ _)) (fun r1 v h1 => ?_)
            split
            · exact h1
            · refine eBle _ _ _ (Nat.le_trans (ih _ _) h1) (fun r2 v2 h2 => ?_)
              split
              · exact h2
              · refine eBle _ _ _ (Nat.le_trans (ih _ _) h2) (fun r3 v3 h3 => h3)
/-- rows stay short -/
def okV : vV → Prop
  | some (.inr r) => r.length ≤ 16
  | _ => True
