/-! the cells behind the two constructors: the class 0 to 163, the reference 164 to 189 -/
def EE : aE := [.inl (5, [some (some 1), some (some 2), some (some 8), some (some 136), some (some 143), some (some 145), some (some 162), none, none]),
  .inl (4, [some (some 2), some (some 8), some (some 15), none, none]),
  .inl (2, [some (some 3), some (some 4), some (some 5), some (some 6), some (some 7), none]),
  .inr (.inl 60),
  .inr (.inl 60),
  .inr (.inl 60),
  .inr (.inl 60),
  .inr (.inl 60),
  .inr (.inr (0, [some 9, some 11, some 13])),
  .inl (3, [none, none, none, some (some 10)]),
  .inr (.inl 16),
  .inl (3, [none, none, none, some (some 12)]),
  .inr (.inl 16),
  .inl (3, [none, none, none, some (some 14)]),
  .inr (.inl 16),
  .inr (.inr (0, [some 16, some 18, some 20, some 22, some 24, some 26, some 28, some 30, some 32, some 34, some 36, some 38, some 40, some 42, some 44, some 46, some 48, some 50, some 52, some 54, some 56, some 58, some 60, some 62, some 64, some 66, some 68, some 70, some 72, some 74, some 76, some 78, some 80, some 82, some 84, some 86, some 88, some 90, some 92, some 94, some 96, some 98, some 100, some 102, some 104, some 106, some 108, some 110, some 112, some 114, some 116, some 118, some 120, some 122, some 124, some 126, some 128, some 130, some 132, some 134])),
  .inl (3, [none, none, none, some (some 17)]),
  .inr (.inl 16),
  .inl (3, [none, none, none, some (some 19)]),
  .inr (.inl 16),
  .inl (3, [none, none, none, some (some 21)]),
  .inr (.inl 16),
  .inl (3, [none, none, none, some (some 23)]),
  .inr (.inl 16),
  .inl (3, [none, none, none, some (some 25)]),
  .inr (.inl 16),
  .inl (3, [none, none, none, some (some 27)]),
  .inr (.inl 16),
  .inl (3, [none, none, none, some (some 29)]),
  .inr (.inl 16),
  .inl (3, [none, none, none, some (some 31)]),
  .inr (.inl 16),
  .inl (3, [none, none, none, some (some 33)]),
  .inr (.inl 16),
  .inl (3, [none, none, none, some (some 35)]),
  .inr (.inl 16),
  .inl (3, [none, none, none, some (some 37)]),
  .inr (.inl 16),
  .inl (3, [none, none, none, some (some 39)]),
  .inr (.inl 16),
  .inl (3, [none, none, none, some (some 41)]),
  .inr (.inl 16),
  .inl (3, [none, none, none, some (some 43)]),
  .inr (.inl 16),
  .inl (3, [none, none, none, some (some 45)]),
  .inr (.inl 16),
  .inl (3, [none, none, none, some (some 47)]),
  .inr (.inl 16),
  .inl (3, [none, none, none, some (some 49)]),
  .inr (.inl 16),
  .inl (3, [none, none, none, some (some 51)]),
  .inr (.inl 16),
  .inl (3, [none, none, none, some (some 53)]),
  .inr (.inl 16),
  .inl (3, [none, none, none, some (some 55)]),
  .inr (.inl 16),
  .inl (3, [none, none, none, some (some 57)]),
  .inr (.inl 16),
  .inl (3, [none, none, none, some (some 59)]),
  .inr (.inl 16),
  .inl (3, [none, none, none, some (some 61)]),
  .inr (.inl 16),
  .inl (3, [none, none, none, some (some 63)]),
  .inr (.inl 16),
  .inl (3, [none, none, none, some (some 65)]),
  .inr (.inl 16),
  .inl (3, [none, none, none, some (some 67)]),
  .inr (.inl 16),
  .inl (3, [none, none, none, some (some 69)]),
  .inr (.inl 16),
  .inl (3, [none, none, none, some (some 71)]),
  .inr (.inl 16),
  .inl (3, [none, none, none, some (some 73)]),
  .inr (.inl 16),
  .inl (3, [none, none, none, some (some 75)]),
  .inr (.inl 16),
  .inl (3, [none, none, none, some (some 77)]),
  .inr (.inl 16),
  .inl (3, [none, none, none, some (some 79)]),
  .inr (.inl 16),
  .inl (3, [none, none, none, some (some 81)]),
  .inr (.inl 16),
  .inl (3, [none, none, none, some (some 83)]),
  .inr (.inl 16),
  .inl (3, [none, none, none, some (some 85)]),
  .inr (.inl 16),
  .inl (3, [none, none, none, some (some 87)]),
  .inr (.inl 16),
  .inl (3, [none, none, none, some (some 89)]),
  .inr (.inl 16),
  .inl (3, [none, none, none, some (some 91)]),
  .inr (.inl 16),
  .inl (3, [none, none, none, some (some 93)]),
  .inr (.inl 16),
  .inl (3, [none, none, none, some (some 95)]),
  .inr (.inl 16),
  .inl (3, [none, none, none, some (some 97)]),
  .inr (.inl 16),
  .inl (3, [none, none, none, some (some 99)]),
  .inr (.inl 16),
  .inl (3, [none, none, none, some (some 101)]),
  .inr (.inl 16),
  .inl (3, [none, none, none, some (some 103)]),
  .inr (.inl 16),
  .inl (3, [none, none, none, some (some 105)]),
  .inr (.inl 16),
  .inl (3, [none, none, none, some (some 107)]),
  .inr (.inl 16),
  .inl (3, [none, none, none, some (some 109)]),
  .inr (.inl 16),
  .inl (3, [none, none, none, some (some 111)]),
  .inr (.inl 16),
  .inl (3, [none, none, none, some (some 113)]),
  .inr (.inl 16),
  .inl (3, [none, none, none, some (some 115)]),
  .inr (.inl 16),
  .inl (3, [none, none, none, some (some 117)]),
  .inr (.inl 16),
  .inl (3, [none, none, none, some (some 119)]),
  .inr (.inl 16),
  .inl (3, [none, none, none, some (some 121)]),
  .inr (.inl 16),
  .inl (3, [none, none, none, some (some 123)]),
  .inr (.inl 16),
  .inl (3, [none, none, none, some (some 125)]),
  .inr (.inl 16),
  .inl (3, [none, none, none, some (some 127)]),
  .inr (.inl 16),
  .inl (3, [none, none, none, some (some 129)]),
  .inr (.inl 16),
  .inl (3, [none, none, none, some (some 131)]),
  .inr (.inl 16),
  .inl (3, [none, none, none, some (some 133)]),
  .inr (.inl 16),
  .inl (3, [none, none, none, some (some 135)]),
  .inr (.inl 16),
  .inr (.inr (0, [some 137, some 139, some 141])),
  .inl (3, [none, none, none, some (some 138)]),
  .inr (.inl 16),
  .inl (3, [none, none, none, some (some 140)]),
  .inr (.inl 16),
  .inl (3, [none, none, none, some (some 142)]),
  .inr (.inl 16),
  .inl (3, [none, none, none, some (some 144)]),
  .inr (.inl 16),
  .inr (.inr (1, [some 146, some 148, some 150, some 152, some 154, some 156, some 158, some 160])),
  .inl (0, [some (some 147), none, none, none, none]),
  .inr (.inl 3),
  .inl (0, [some (some 149), none, none, none, none]),
  .inr (.inl 3),
  .inl (0, [some (some 151), none, none, none, none]),
  .inr (.inl 3),
  .inl (0, [some (some 153), none, none, none, none]),
  .inr (.inl 3),
  .inl (0, [some (some 155), none, none, none, none]),
  .inr (.inl 3),
  .inl (0, [some (some 157), none, none, none, none]),
  .inr (.inl 3),
  .inl (0, [some (some 159), none, none, none, none]),
  .inr (.inl 3),
  .inl (0, [some (some 161), none, none, none, none]),
  .inr (.inl 3),
  .inl (1, [some (some 163), none, none, none, none, none, none, none, none]),
  .inr (.inl 9),
  .inl (6, none :: some (some 165) :: some (some 166) :: some (some 167) :: some (some 168) :: some (some 169) :: some (some 170) :: some (some 171) :: some (some 172) :: none :: some (some 173) :: some (some 174) :: some (some 175) :: some (some 176) :: some (some 177) :: none :: some (some 178) :: none :: none :: none :: none :: some (some 179) :: none :: none :: some (some 180) :: some (some 181) :: some (some 182) :: some (some 183) :: some (some 184) :: none :: some (some 185) :: none :: some (some 186) :: none :: none :: none :: none :: none :: none :: none :: none :: none :: some (some 187) :: some (some 188) :: some (some 189) :: []),
  .inr (.inl 60),
  .inr (.inl 60),
  .inr (.inl 60),
  .inr (.inl 60),
  .inr (.inl 60),
  .inr (.inl 3),
  .inr (.inl 3),
  .inr (.inl 48),
  .inr (.inl 61),
  .inr (.inl 61),
  .inr (.inl 183),
  .inr (.inl 183),
  .inr (.inl 183),
  .inr (.inl 1024),
  .inr (.inl 16),
  .inr (.inl 24),
  .inr (.inl 8),
  .inr (.inl 8),
  .inr (.inl 8),
  .inr (.inl 8),
  .inr (.inl 9),
  .inr (.inl 16),
  .inr (.inl 3),
  .inr (.inl 3),
  .inr (.inl 48)]
theorem EE_len : EE.length = 190 := by decide +kernel
theorem E_0 : EE[0]? = some (.inl (5, [some (some 1), some (some 2), some (some 8), some (some 136), some (some 143), some (some 145), some (some 162), none, none])) := rfl
theorem E_1 : EE[1]? = some (.inl (4, [some (some 2), some (some 8), some (some 15), none, none])) := rfl
theorem E_2 : EE[2]? = some (.inl (2, [some (some 3), some (some 4), some (some 5), some (some 6), some (some 7), none])) := rfl
theorem E_3 : EE[3]? = some (.inr (.inl 60)) := rfl
theorem E_4 : EE[4]? = some (.inr (.inl 60)) := rfl
theorem E_5 : EE[5]? = some (.inr (.inl 60)) := rfl
theorem E_6 : EE[6]? = some (.inr (.inl 60)) := rfl
theorem E_7 : EE[7]? = some (.inr (.inl 60)) := rfl
theorem E_8 : EE[8]? = some (.inr (.inr (0, [some 9, some 11, some 13]))) := rfl
theorem E_15 : EE[15]? = some (.inr (.inr (0, [some 16, some 18, some 20, some 22, some 24, some 26, some 28, some 30, some 32, some 34, some 36, some 38, some 40, some 42, some 44, some 46, some 48, some 50, some 52, some 54, some 56, some 58, some 60, some 62, some 64, some 66, some 68, some 70, some 72, some 74, some 76, some 78, some 80, some 82, some 84, some 86, some 88, some 90, some 92, some 94, some 96, some 98, some 100, some 102, some 104, some 106, some 108, some 110, some 112, some 114, some 116, some 118, some 120, some 122, some 124, some 126, some 128, some 130, some 132, some 134]))) := rfl
theorem E_136 : EE[136]? = some (.inr (.inr (0, [some 137, some 139, some 141]))) := rfl
theorem E_145 : EE[145]? = some (.inr (.inr (1, [some 146, some 148, some 150, some 152, some 154, some 156, some 158, some 160]))) := rfl
theorem E_162 : EE[162]? = some (.inl (1, [some (some 163), none, none, none, none, none, none, none, none])) := rfl
theorem E_163 : EE[163]? = some (.inr (.inl 9)) := rfl
theorem E_164 : EE[164]? = some (.inl (6, none :: some (some 165) :: some (some 166) :: some (some 167) :: some (some 168) :: some (some 169) :: some (some 170) :: some (some 171) :: some (some 172) :: none :: some (some 173) :: some (some 174) :: some (some 175) :: some (some 176) :: some (some 177) :: none :: some (some 178) :: none :: none :: none :: none :: some (some 179) :: none :: none :: some (some 180) :: some (some 181) :: some (some 182) :: some (some 183) :: some (some 184) :: none :: some (some 185) :: none :: some (some 186) :: none :: none :: none :: none :: none :: none :: none :: none :: none :: some (some 187) :: some (some 188) :: some (some 189) :: [])) := rfl
theorem E_165 : EE[165]? = some (.inr (.inl 60)) := rfl
theorem E_166 : EE[166]? = some (.inr (.inl 60)) := rfl
theorem E_167 : EE[167]? = some (.inr (.inl 60)) := rfl
theorem E_168 : EE[168]? = some (.inr (.inl 60)) := rfl
theorem E_169 : EE[169]? = some (.inr (.inl 60)) := rfl
theorem E_170 : EE[170]? = some (.inr (.inl 3)) := rfl
theorem E_171 : EE[171]? = some (.inr (.inl 3)) := rfl
theorem E_172 : EE[172]? = some (.inr (.inl 48)) := rfl
theorem E_173 : EE[173]? = some (.inr (.inl 61)) := rfl
theorem E_174 : EE[174]? = some (.inr (.inl 61)) := rfl
theorem E_175 : EE[175]? = some (.inr (.inl 183)) := rfl
theorem E_176 : EE[176]? = some (.inr (.inl 183)) := rfl
theorem E_177 : EE[177]? = some (.inr (.inl 183)) := rfl
theorem E_178 : EE[178]? = some (.inr (.inl 1024)) := rfl
theorem E_179 : EE[179]? = some (.inr (.inl 16)) := rfl
theorem E_180 : EE[180]? = some (.inr (.inl 24)) := rfl
theorem E_181 : EE[181]? = some (.inr (.inl 8)) := rfl
theorem E_182 : EE[182]? = some (.inr (.inl 8)) := rfl
theorem E_183 : EE[183]? = some (.inr (.inl 8)) := rfl
theorem E_184 : EE[184]? = some (.inr (.inl 8)) := rfl
theorem E_185 : EE[185]? = some (.inr (.inl 9)) := rfl
theorem E_186 : EE[186]? = some (.inr (.inl 16)) := rfl
theorem E_187 : EE[187]? = some (.inr (.inl 3)) := rfl
theorem E_188 : EE[188]? = some (.inr (.inl 3)) := rfl
theorem E_189 : EE[189]? = some (.inr (.inl 48)) := rfl
abbrev iV (a : Nat) : Prop := EE[a]? = some (.inl (3, [none, none, none, some (some (a + 1))])) ∧ EE[a + 1]? = some (.inr (.inl 16))
abbrev iP (a : Nat) : Prop := EE[a]? = some (.inl (0, [some (some (a + 1)), none, none, none, none])) ∧ EE[a + 1]? = some (.inr (.inl 3))
theorem iV_in1 : ∀ i, i < 3 → EE[9 + 2 * i]? = some (.inl (3, [none, none, none, some (some (9 + 2 * i + 1))]))
  | 0, _ => rfl
  | 1, _ => rfl
  | 2, _ => rfl
  | n + 3, h => absurd h (by omega)
theorem iV_in2 : ∀ i, i < 3 → EE[9 + 2 * i + 1]? = some (.inr (.inl 16))
  | 0, _ => rfl
  | 1, _ => rfl
  | 2, _ => rfl
  | n + 3, h => absurd h (by omega)
theorem iV_in : ∀ i, i < 3 → iV (9 + 2 * i) := fun i h => ⟨iV_in1 i h, iV_in2 i h⟩
theorem iV_st1 : ∀ i, i < 60 → EE[16 + 2 * i]? = some (.inl (3, [none, none, none, some (some (16 + 2 * i + 1))]))
  | 0, _ => rfl
  | 1, _ => rfl
  | 2, _ => rfl
  | 3, _ => rfl
  | 4, _ => rfl
  | 5, _ => rfl
  | 6, _ => rfl
  | 7, _ => rfl
  | 8, _ => rfl
  | 9, _ => rfl
  | 10, _ => rfl
  | 11, _ => rfl
  | 12, _ => rfl
  | 13, _ => rfl
  | 14, _ => rfl
  | 15, _ => rfl
  | 16, _ => rfl
  | 17, _ => rfl
  | 18, _ => rfl
  | 19, _ => rfl
  | 20, _ => rfl
  | 21, _ => rfl
  | 22, _ => rfl
  | 23, _ => rfl
  | 24, _ => rfl
  | 25, _ => rfl
  | 26, _ => rfl
  | 27, _ => rfl
  | 28, _ => rfl
  | 29, _ => rfl
  | 30, _ => rfl
  | 31, _ => rfl
  | 32, _ => rfl
  | 33, _ => rfl
  | 34, _ => rfl
  | 35, _ => rfl
  | 36, _ => rfl
  | 37, _ => rfl
  | 38, _ => rfl
  | 39, _ => rfl
  | 40, _ => rfl
  | 41, _ => rfl
  | 42, _ => rfl
  | 43, _ => rfl
  | 44, _ => rfl
  | 45, _ => rfl
  | 46, _ => rfl
  | 47, _ => rfl
  | 48, _ => rfl
  | 49, _ => rfl
  | 50, _ => rfl
  | 51, _ => rfl
  | 52, _ => rfl
  | 53, _ => rfl
  | 54, _ => rfl
  | 55, _ => rfl
  | 56, _ => rfl
  | 57, _ => rfl
  | 58, _ => rfl
  | 59, _ => rfl
  | n + 60, h => absurd h (by omega)
theorem iV_st2 : ∀ i, i < 60 → EE[16 + 2 * i + 1]? = some (.inr (.inl 16))
  | 0, _ => rfl
  | 1, _ => rfl
  | 2, _ => rfl
  | 3, _ => rfl
  | 4, _ => rfl
  | 5, _ => rfl
  | 6, _ => rfl
  | 7, _ => rfl
  | 8, _ => rfl
  | 9, _ => rfl
  | 10, _ => rfl
  | 11, _ => rfl
  | 12, _ => rfl
  | 13, _ => rfl
  | 14, _ => rfl
  | 15, _ => rfl
  | 16, _ => rfl
  | 17, _ => rfl
  | 18, _ => rfl
  | 19, _ => rfl
  | 20, _ => rfl
  | 21, _ => rfl
  | 22, _ => rfl
  | 23, _ => rfl
  | 24, _ => rfl
  | 25, _ => rfl
  | 26, _ => rfl
  | 27, _ => rfl
  | 28, _ => rfl
  | 29, _ => rfl
  | 30, _ => rfl
  | 31, _ => rfl
  | 32, _ => rfl
  | 33, _ => rfl
  | 34, _ => rfl
  | 35, _ => rfl
  | 36, _ => rfl
  | 37, _ => rfl
  | 38, _ => rfl
  | 39, _ => rfl
  | 40, _ => rfl
  | 41, _ => rfl
  | 42, _ => rfl
  | 43, _ => rfl
  | 44, _ => rfl
  | 45, _ => rfl
  | 46, _ => rfl
  | 47, _ => rfl
  | 48, _ => rfl
  | 49, _ => rfl
  | 50, _ => rfl
  | 51, _ => rfl
  | 52, _ => rfl
  | 53, _ => rfl
  | 54, _ => rfl
  | 55, _ => rfl
  | 56, _ => rfl
  | 57, _ => rfl
  | 58, _ => rfl
  | 59, _ => rfl
  | n + 60, h => absurd h (by omega)
theorem iV_st : ∀ i, i < 60 → iV (16 + 2 * i) := fun i h => ⟨iV_st1 i h, iV_st2 i h⟩
theorem iV_sm1 : ∀ i, i < 3 → EE[137 + 2 * i]? = some (.inl (3, [none, none, none, some (some (137 + 2 * i + 1))]))
  | 0, _ => rfl
  | 1, _ => rfl
  | 2, _ => rfl
  | n + 3, h => absurd h (by omega)
theorem iV_sm2 : ∀ i, i < 3 → EE[137 + 2 * i + 1]? = some (.inr (.inl 16))
  | 0, _ => rfl
  | 1, _ => rfl
  | 2, _ => rfl
  | n + 3, h => absurd h (by omega)
theorem iV_sm : ∀ i, i < 3 → iV (137 + 2 * i) := fun i h => ⟨iV_sm1 i h, iV_sm2 i h⟩
theorem iV_sh : iV 143 := ⟨rfl, rfl⟩
theorem iP_at1 : ∀ i, i < 8 → EE[146 + 2 * i]? = some (.inl (0, [some (some (146 + 2 * i + 1)), none, none, none, none]))
  | 0, _ => rfl
  | 1, _ => rfl
  | 2, _ => rfl
  | 3, _ => rfl
  | 4, _ => rfl
  | 5, _ => rfl
  | 6, _ => rfl
  | 7, _ => rfl
  | n + 8, h => absurd h (by omega)
theorem iP_at2 : ∀ i, i < 8 → EE[146 + 2 * i + 1]? = some (.inr (.inl 3))
  | 0, _ => rfl
  | 1, _ => rfl
  | 2, _ => rfl
  | 3, _ => rfl
  | 4, _ => rfl
  | 5, _ => rfl
  | 6, _ => rfl
  | 7, _ => rfl
  | n + 8, h => absurd h (by omega)
theorem iP_at : ∀ i, i < 8 → iP (146 + 2 * i) := fun i h => ⟨iP_at1 i h, iP_at2 i h⟩
def rIn : List (Option Nat) := [some 9, some 11, some 13]
def rSt : List (Option Nat) := (List.range 60).map (fun i => some (16 + 2 * i))
def rSm : List (Option Nat) := [some 137, some 139, some 141]
def rPr : List (Option Nat) := (List.range 8).map (fun i => some (146 + 2 * i))
theorem E_8r : EE[8]? = some (.inr (.inr (0, rIn))) := rfl
theorem E_15r : EE[15]? = some (.inr (.inr (0, rSt))) := by decide +kernel
theorem E_136r : EE[136]? = some (.inr (.inr (0, rSm))) := rfl
theorem E_145r : EE[145]? = some (.inr (.inr (1, rPr))) := by decide +kernel
theorem rIn_at : ∀ i, i < 3 → rIn[i]? = some (some (9 + 2 * i)) := by decide
theorem rSt_at : ∀ i, i < 60 → rSt[i]? = some (some (16 + 2 * i)) := by decide +kernel
theorem rSm_at : ∀ i, i < 3 → rSm[i]? = some (some (137 + 2 * i)) := by decide
theorem rPr_at : ∀ i, i < 8 → rPr[i]? = some (some (146 + 2 * i)) := by decide +kernel
-- what 165
-- partA 166
-- partB 167
-- partC 168
-- number 169
-- inputType 170
-- input 171
-- inputRow 172
-- pile 173
-- phase 174
-- gotKind 175
-- got 176
-- gotRow 177
-- store 178
-- order 179
-- types 180
-- condition 181
-- body 182
-- labelTerm 183
-- expected 184
-- labels 185
-- drawnRow 186
-- counterType 187
-- counter 188
-- counterRow 189
