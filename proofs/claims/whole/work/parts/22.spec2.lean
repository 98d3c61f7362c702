/-! cases drawn, all small, runs, making smaller: as functions -/
def hsh (s t : Int32) : Int32 := ((s + t * (-1640531527) ^^^ aUshr (s + t * (-1640531527)) 16) * (-2048144789) ^^^ aUshr ((s + t * (-1640531527) ^^^ aUshr (s + t * (-1640531527)) 16) * (-2048144789)) 13) * (-1028477387) ^^^ aUshr (((s + t * (-1640531527) ^^^ aUshr (s + t * (-1640531527)) 16) * (-2048144789) ^^^ aUshr ((s + t * (-1640531527) ^^^ aUshr (s + t * (-1640531527)) 16) * (-2048144789)) 13) * (-1028477387)) 16
def md (v : Int32) (m : Nat) : Nat := (v.toInt % (m : Int)).toNat
def drw (seed : Int32) (c i : Nat) (ty : Int32) : vV :=
  if ty = 0 then some (.inl (nI (md (hsh seed (nI (16 * c + i))) (2 * (1 + c % 12) + 1)) - nI (1 + c % 12)))
  else if ty = 1 then some (.inr (lR (md (hsh seed (nI (16 * c + i))) ((1 + c % 12) / 2 + 1)) (fun k => nI (md (hsh (hsh seed (nI (16 * c + i))) (nI (k + 1))) (2 * (1 + c % 12) + 1)) - nI (1 + c % 12))))
  else none
def cnS (ty : Int32) (m : Nat) : Nat := if ty = -1 then 1 else if ty = 0 then 2 * m + 1 else ((List.range (m + 1)).map (fun k => (2 * m + 1) ^ k)).sum
def rk (j : Nat) : Int32 := if j % 2 = 1 then nI ((j + 1) / 2) else -(nI (j / 2))
def rl (b : Nat) : Nat → Nat → Nat → Nat → Nat × Nat
  | 0, left, _, len => (len, left)
  | f + 1, left, p, len => if left < p then (len, left) else rl b f (left - p) (p * b) (len + 1)
def smv (ty : Int32) (m j : Nat) : vV :=
  if ty = 0 then some (.inl (rk j))
  else if ty = 1 then some (.inr (lR (rl (2 * m + 1) m j 1 0).1 (fun k => rk ((rl (2 * m + 1) m j 1 0).2 / (2 * m + 1) ^ ((rl (2 * m + 1) m j 1 0).1 - 1 - k) % (2 * m + 1)))))
  else none
/-- a property: its three types, condition, body, label, expected -/
abbrev pr : Type := Nat → Int32
def upN {α : Type} (f : Nat → α) (k : Nat) (x : α) : Nat → α := fun j => if j = k then x else f j
def alS (p : pr) (m : Nat) : Nat := cnS (p 0) m * cnS (p 1) m * cnS (p 2) m
def smI (p : pr) (m j : Nat) : Nat → vV := fun i => if i = 0 then smv (p 0) m (j / cnS (p 2) m / cnS (p 1) m % cnS (p 0) m) else if i = 1 then smv (p 1) m (j / cnS (p 2) m % cnS (p 1) m) else smv (p 2) m (j % cnS (p 2) m)
def drI (p : pr) (seed : Int32) (c : Nat) : Nat → vV := fun i => drw seed c i (p i)
/-- tries; what is told (0 to 7); labels; whose counter; the counter -/
abbrev rS : Type := Nat × (Nat → Int32) × (Nat → Int32) × Int32 × (Nat → vV)
def ta0 : Nat → Int32 := fun k => if k = 4 then -1 else 0
def rS0 (tr : Nat) (cin : Nat → vV) : rS := (tr, ta0, fun _ => 0, -1, cin)
def tcS (T : tm) (p : pr) (no : Nat) (inp : Nat → vV) (s : rS) : rS :=
  (s.1 + 1,
   if (outS T inp (p 3) (p 4) (p 6)).2 = 0 then upN (upN s.2.1 1 (s.2.1 1 + 1)) 0 (s.2.1 0 + 1)
   else if (outS T inp (p 3) (p 4) (p 6)).2 = -1 then upN (upN s.2.1 2 (s.2.1 2 + 1)) 0 (s.2.1 0 + 1)
   else upN (upN (upN s.2.1 3 (outS T inp (p 3) (p 4) (p 6)).2) 4 (s.2.1 0)) 0 (s.2.1 0 + 1),
   if (outS T inp (p 3) (p 4) (p 6)).2 = 0 ∧ 0 ≤ p 5 then upN s.2.2.1 (labS T inp (p 5) (outS T inp (p 3) (p 4) (p 6)).1) (s.2.2.1 (labS T inp (p 5) (outS T inp (p 3) (p 4) (p 6)).1) + 1) else s.2.2.1,
   if 0 < (outS T inp (p 3) (p 4) (p 6)).2 then nI no else s.2.2.2.1,
   if 0 < (outS T inp (p 3) (p 4) (p 6)).2 then inp else s.2.2.2.2)
def runL (T : tm) (p : pr) (no : Nat) (g : Nat → Nat → vV) : Nat → Nat → rS → rS
  | 0, _, s => s
  | m + 1, c, s => if s.2.2.2.1 < 0 then runL T p no g m (c + 1) (tcS T p no (g c) s) else s
def cand (inp : Nat → vV) (j : Nat) : Option (Nat → vV) :=
  if j < cc (inp 0) then some (upN inp 0 (bc (inp 0) j))
  else if j - cc (inp 0) < cc (inp 1) then some (upN inp 1 (bc (inp 1) (j - cc (inp 0))))
  else if j - cc (inp 0) - cc (inp 1) < cc (inp 2) then some (upN inp 2 (bc (inp 2) (j - cc (inp 0) - cc (inp 1))))
  else none
def mkS (T : tm) (p : pr) : Nat → Nat → rS → rS
  | 0, _, s => s
  | m + 1, next, s => match cand s.2.2.2.2 next with
    | none => s
    | some inp => if (outS T inp (p 3) (p 4) (p 6)).2 = s.2.1 3 then mkS T p m 0 (s.1 + 1, upN (upN s.2.1 5 (s.2.1 5 + 1)) 6 (s.2.1 6 + 1), s.2.2.1, s.2.2.2.1, inp) else mkS T p m (next + 1) (s.1 + 1, upN s.2.1 5 (s.2.1 5 + 1), s.2.2.1, s.2.2.2.1, s.2.2.2.2)
/-- told 7 -/
def setl (s : rS) : rS := (s.1, upN s.2.1 7 (if s.2.1 5 < 200 then 1 else 0), s.2.2.1, s.2.2.2.1, s.2.2.2.2)
def runS (T : tm) (p : pr) (no n : Nat) (seed : Int32) (tr : Nat) (cin : Nat → vV) : rS :=
  if (runL T p no (drI p seed) n 0 (rS0 tr cin)).2.2.2.1 < 0 then runL T p no (drI p seed) n 0 (rS0 tr cin)
  else setl (mkS T p 200 0 (runL T p no (drI p seed) n 0 (rS0 tr cin)))
def smlS (T : tm) (p : pr) (no m tr : Nat) (cin : Nat → vV) : rS := runL T p no (smI p m) (alS p m) 0 (rS0 tr cin)
